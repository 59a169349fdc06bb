set_option maxHeartbeats 8000000 in
set_option maxRecDepth 100000 in
theorem s_X9_push_k13 (l : Launch) (D : va_G) (cI cL cZ cR : ClassId) (kd : Nat → Nat) (L : List Nat) (f : Nat → va_E) (hG : GI (okc cI cL cZ cR L kd) kd L f) (o0 : Nat) (mo0 : o0 ∈ L) (ko0 : kd o0 = 13) (p1 : Int32) (bp1 : (0 ≤ p1.toInt ∧ p1.toInt ≤ 8)) : mPV l D cI cL cZ cR yX9_push cX9_push 3 none 0 0 [.ref o0, .int p1] L f (fun (f9 : Nat → va_E) => GI (okc cI cL cZ cR L kd) kd L f9) := by
  obtain ⟨dC, dI⟩ := D
  refine Met.ofW (cc := cX9_push) (maxL := 3) (ret := none) (by decide) rfl ?_
  intro p e s m args below meth c s₁ B hml hv
  obtain ⟨rfl, hP, hK, hD0, hN⟩ := hv
  have hx := B.exec
  have hb := B.bytes
  have hr := B.returns
  have hU : ∀ w ∈ wsU, w.before _ s = true := fun w h => atoms_spec (ws := wU yX9_push cX9_push 3 none) B.pre w (List.mem_cons_of_mem _ h)
  have hown : s.vm.findClass RX9 = some m.cls := findClass_of_methodNamed B.named
  have hlocks := B.notSynchronized
  have hD := pl_in hD0
  have hS : va_S (fun q => q ∈ L) s.heap s.heap [] := va_S.rf
  have hl := lv_entry ([.ref o0, .int p1]) (n := 3) (Nat.le_of_ble_eq_true rfl)
  rw [lg_entry_eq]
  generalize (lg_sl ([.ref o0, .int p1]) ++ List.replicate (3 - (lg_sl ([.ref o0, .int p1])).length) Slot.unset).toArray = ls at hl ⊢
  have hl : lv_has ls 3 [(0, .ref o0), (1, .int p1)] := hl
  refine lv_aload_n hx hb dX9_push_0 rfl (lv_at hl 0 rfl) ?_
  obtain ⟨a_2, a_3, v_4, hfo_1, ⟨ma_2, ka_2⟩, ⟨ma_3, ka_3⟩, bv_4⟩ := un_13 (hG _ mo0) ko0
  refine tk_getP (D := (dC, dI)) (ci := 9) (v := .int v_4) (C := RX9) (T := TX9) (N := 3) hx hb hU inlX9 hown hK hP mo0 hfo_1 rfl 2 (by decide) (hU _ wd_273) (fun _ h9 => h9) rfl dX9_push_1 ?_
  refine lv_iconst (v := 1) hx hb dX9_push_4 (by decide) ?_
  refine lv_isub hx hb dX9_push_5 ?_
  refine lv_topi (fun x_5 ex_5 => ?_)
  have hx_5 : x_5.toInt = v_4.toInt - 1 := by rw [ex_5, sb_I (by rw [ti_1]; omega) (by rw [ti_1]; omega), ti_1]
  have bx_5 : ((-1) ≤ x_5.toInt ∧ x_5.toInt ≤ 7) := by constructor <;> omega
  refine lv_istore_n (lv' := [(2, .int x_5), (0, .ref o0), (1, .int p1)]) hx hb dX9_push_6 rfl hl (by decide) rfl (fun ls hl => ?_)
  refine lv_iload_n hx hb dX9_push_7 rfl (lv_at hl 0 rfl) ?_
  have hcut_7 : ∀ (f_6 : Nat → va_E), GI (okc cI cL cZ cR L kd) kd L f_6 → ∀ (H : Heap) (locs : List Loc), va_P (dC, dI) vwCl (va_pl L f_6) H → va_D (fun q => q ∈ L) (va_pl L f_6) → va_S (fun q => q ∈ L) s.heap H locs → ∀ (ls : Array Slot), lv_has ls 3 [(2, .int x_5), (0, .ref o0), (1, .int p1)] → W p l e (headSpec (wU yX9_push cX9_push 3 none) { frames := 0, cells := 0, slots := 0, locals := 0 }).room s m [.ref o0, .int p1].toArray below meth c H locs 0 0 (MQ below (va_Qv (fun (f9 : Nat → va_E) => GI (okc cI cL cZ cR L kd) kd L f9) (qP (dC, dI) cI cL cZ cR L) (fun q => q ∈ L)) [.ref o0, .int p1].toArray s 0 0 (fun q => q ∈ L)) (F0 m 49 ls []) := by
    intro f_6 hG H locs hP hD hS ls hl
    exact W.vret hx hb hr (fun t ht hW => ⟨⟨f_6, rfl, hG, by rw [ht]; exact hP, va_K.moved hW.alike hK, pl_in hD⟩, hS.F ht⟩) hS.2.2 dX9_push_49
  refine lv_if_lt (tgt := 49) hx hb dX9_push_8 (by decide) (fun c_8 => ?_) (fun c_8 => ?_)
  · skip
    rw [Int32.lt_iff_toInt_lt, ti_0] at c_8
    exact hcut_7 f hG _ _ hP hD hS ls (lv_sub hl [0, 1, 2] rfl)
  · skip
    rw [Int32.lt_iff_toInt_lt, ti_0] at c_8
    refine lv_aload_n hx hb dX9_push_11 rfl (lv_at hl 1 rfl) ?_
    refine tk_getP (D := (dC, dI)) (ci := 9) (v := .ref a_3) (C := RX9) (T := TX9) (N := 3) hx hb hU inlX9 hown hK hP mo0 hfo_1 rfl 1 (by decide) (hU _ wd_96) (fun _ h9 => h9) rfl dX9_push_12 ?_
    refine lv_iload_n hx hb dX9_push_15 rfl (lv_at hl 0 rfl) ?_
    obtain ⟨g_10, hfo_9, hbg_10⟩ := un_27 (hG _ ma_3) ka_3
    refine tk_ildP hx hb hK hP 0 ma_3 hfo_9 rfl (vp_in_iff.mpr (by constructor <;> omega)) dX9_push_16 ?_
    refine lv_topi (fun x_11 ex_11 => ?_)
    have bx_11 : (0 ≤ x_11.toInt ∧ x_11.toInt ≤ 8) := by rw [ex_11]; exact hbg_10 _
    refine lv_bipush (v := 8) hx hb dX9_push_17 (by decide) ?_
    refine lv_icmp_ge (tgt := 49) hx hb dX9_push_19 (by decide) (fun c_12 => ?_) (fun c_12 => ?_)
    · skip
      rw [Int32.le_iff_toInt_le, ti_8] at c_12
      exact hcut_7 f hG _ _ hP hD hS ls (lv_sub hl [0, 1, 2] rfl)
    · skip
      rw [Int32.le_iff_toInt_le, ti_8] at c_12
      refine lv_aload_n hx hb dX9_push_22 rfl (lv_at hl 1 rfl) ?_
      refine tk_getP (D := (dC, dI)) (ci := 9) (v := .ref a_2) (C := RX9) (T := TX9) (N := 3) hx hb hU inlX9 hown hK hP mo0 hfo_1 rfl 0 (by decide) (hU _ wd_95) (fun _ h9 => h9) rfl dX9_push_23 ?_
      refine lv_iload_n hx hb dX9_push_26 rfl (lv_at hl 0 rfl) ?_
      refine lv_bipush (v := 8) hx hb dX9_push_27 (by decide) ?_
      refine lv_imul hx hb dX9_push_29 ?_
      refine lv_topi (fun x_13 ex_13 => ?_)
      have hx_13 : x_13.toInt = x_5.toInt * 8 := by rw [ex_13, ml_I (by rw [ti_8]; omega) (by rw [ti_8]; omega), ti_8]
      have bx_13 : (0 ≤ x_13.toInt ∧ x_13.toInt ≤ 56) := by constructor <;> omega
      refine lv_aload_n hx hb dX9_push_30 rfl (lv_at hl 1 rfl) ?_
      refine tk_getP (D := (dC, dI)) (ci := 9) (v := .ref a_3) (C := RX9) (T := TX9) (N := 3) hx hb hU inlX9 hown hK hP mo0 hfo_1 rfl 1 (by decide) (hU _ wd_96) (fun _ h9 => h9) rfl dX9_push_31 ?_
      refine lv_iload_n hx hb dX9_push_34 rfl (lv_at hl 0 rfl) ?_
      refine tk_ildP hx hb hK hP 0 ma_3 hfo_9 rfl (vp_in_iff.mpr (by constructor <;> omega)) dX9_push_35 ?_
      refine tk_topi (y := x_11) ex_11.symm ?_
      refine lv_iadd hx hb dX9_push_36 ?_
      refine lv_topi (fun x_14 ex_14 => ?_)
      have hx_14 : x_14.toInt = x_13.toInt + x_11.toInt := by rw [ex_14, ad_I (by omega) (by omega)]
      have bx_14 : (0 ≤ x_14.toInt ∧ x_14.toInt ≤ 63) := by constructor <;> omega
      refine lv_iload_n hx hb dX9_push_37 rfl (lv_at hl 2 rfl) ?_
      obtain ⟨g_16, hfo_15, hbg_16⟩ := un_26 (hG _ ma_2) ka_2
      refine tk_istP hx hb hK hP hD hS 0 ma_2 hfo_15 rfl (vp_in_iff.mpr (by constructor <;> omega)) dX9_push_38 (fun H locs hP hD hS => ?_)
      obtain ⟨f_17, ef_17⟩ : ∃ y : Nat → va_E, y = va_up f a_2 (.inl (cI, 64, .inl (upd g_16 (Int32.toNatClampNeg x_14) p1))) := ⟨_, rfl⟩
      have hP : va_P (dC, dI) vwCl (va_pl L f_17) H := by rw [ef_17]; exact hP
      have hD : va_D (fun q => q ∈ L) (va_pl L f_17) := by rw [ef_17]; exact hD
      have hG : GI (okc cI cL cZ cR L kd) kd L f_17 := by rw [ef_17]; exact hG.set a_2 (mk_26 ka_2 ⟨_, rfl, okI_up hbg_16 (by constructor <;> omega) _⟩)
      have hfo_18 : f_17 o0 = .inr (9, [.ref a_2, .ref a_3, .int v_4]) := by rw [ef_17, up_ne (kd_ne ka_2 ko0 (by decide))]; exact hfo_1
      have hfo_19 : f_17 a_3 = .inl (cI, 8, .inl g_10) := by rw [ef_17, up_ne (kd_ne ka_2 ka_3 (by decide))]; exact hfo_9
      have hfo_20 : f_17 a_2 = .inl (cI, 64, .inl (upd g_16 (Int32.toNatClampNeg x_14) p1)) := by rw [ef_17]; exact up_self
      refine lv_aload_n hx hb dX9_push_39 rfl (lv_at hl 1 rfl) ?_
      refine tk_getP (D := (dC, dI)) (ci := 9) (v := .ref a_3) (C := RX9) (T := TX9) (N := 3) hx hb hU inlX9 hown hK hP mo0 hfo_18 rfl 1 (by decide) (hU _ wd_96) (fun _ h9 => h9) rfl dX9_push_40 ?_
      refine lv_iload_n hx hb dX9_push_43 rfl (lv_at hl 0 rfl) ?_
      refine lv_dup2_11 hx hb dX9_push_44 rfl rfl ?_
      refine tk_ildP hx hb hK hP 0 ma_3 hfo_19 rfl (vp_in_iff.mpr (by constructor <;> omega)) dX9_push_45 ?_
      refine tk_topi (y := x_11) ex_11.symm ?_
      refine lv_iconst (v := 1) hx hb dX9_push_46 (by decide) ?_
      refine lv_iadd hx hb dX9_push_47 ?_
      refine lv_topi (fun x_21 ex_21 => ?_)
      have hx_21 : x_21.toInt = x_11.toInt + 1 := by rw [ex_21, ad_I (by rw [ti_1]; omega) (by rw [ti_1]; omega), ti_1]
      have bx_21 : (1 ≤ x_21.toInt ∧ x_21.toInt ≤ 8) := by constructor <;> omega
      refine tk_istP hx hb hK hP hD hS 0 ma_3 hfo_19 rfl (vp_in_iff.mpr (by constructor <;> omega)) dX9_push_48 (fun H locs hP hD hS => ?_)
      obtain ⟨f_22, ef_22⟩ : ∃ y : Nat → va_E, y = va_up f_17 a_3 (.inl (cI, 8, .inl (upd g_10 (Int32.toNatClampNeg x_5) x_21))) := ⟨_, rfl⟩
      have hP : va_P (dC, dI) vwCl (va_pl L f_22) H := by rw [ef_22]; exact hP
      have hD : va_D (fun q => q ∈ L) (va_pl L f_22) := by rw [ef_22]; exact hD
      have hG : GI (okc cI cL cZ cR L kd) kd L f_22 := by rw [ef_22]; exact hG.set a_3 (mk_27 ka_3 ⟨_, rfl, okI_up hbg_10 (by constructor <;> omega) _⟩)
      have hfo_23 : f_22 o0 = .inr (9, [.ref a_2, .ref a_3, .int v_4]) := by rw [ef_22, up_ne (kd_ne ka_3 ko0 (by decide))]; exact hfo_18
      have hfo_24 : f_22 a_3 = .inl (cI, 8, .inl (upd g_10 (Int32.toNatClampNeg x_5) x_21)) := by rw [ef_22]; exact up_self
      exact hcut_7 f_22 hG _ _ hP hD hS ls (lv_sub hl [0, 1, 2] rfl)
set_option maxHeartbeats 8000000 in
set_option maxRecDepth 100000 in
theorem s_X9_copyFrom_k13_k13 (l : Launch) (D : va_G) (cI cL cZ cR : ClassId) (kd : Nat → Nat) (L : List Nat) (f : Nat → va_E) (hG : GI (okc cI cL cZ cR L kd) kd L f) (o0 : Nat) (mo0 : o0 ∈ L) (ko0 : kd o0 = 13) (o1 : Nat) (mo1 : o1 ∈ L) (ko1 : kd o1 = 13) : mPV l D cI cL cZ cR yX9_copyFrom cX9_copyFrom 2 none 1 40 [.ref o0, .ref o1] L f (fun (f9 : Nat → va_E) => GI (okc cI cL cZ cR L kd) kd L f9) := by
  obtain ⟨dC, dI⟩ := D
  refine Met.ofW (cc := cX9_copyFrom) (maxL := 2) (ret := none) (by decide) rfl ?_
  intro p e s m args below meth c s₁ B hml hv
  obtain ⟨rfl, hP, hK, hD0, hN⟩ := hv
  have hx := B.exec
  have hb := B.bytes
  have hr := B.returns
  have hU : ∀ w ∈ wsU, w.before _ s = true := fun w h => atoms_spec (ws := wU yX9_copyFrom cX9_copyFrom 2 none) B.pre w (List.mem_cons_of_mem _ h)
  have hown : s.vm.findClass RX9 = some m.cls := findClass_of_methodNamed B.named
  have hlocks := B.notSynchronized
  have hD := pl_in hD0
  have hS : va_S (fun q => q ∈ L) s.heap s.heap [] := va_S.rf
  have hl := lv_entry ([.ref o0, .ref o1]) (n := 2) (Nat.le_of_ble_eq_true rfl)
  rw [lg_entry_eq]
  generalize (lg_sl ([.ref o0, .ref o1]) ++ List.replicate (2 - (lg_sl ([.ref o0, .ref o1])).length) Slot.unset).toArray = ls at hl ⊢
  have hl : lv_has ls 2 [(0, .ref o0), (1, .ref o1)] := hl
  refine lv_aload_n hx hb dX9_copyFrom_0 rfl (lv_at hl 1 rfl) ?_
  obtain ⟨a_2, a_3, v_4, hfo_1, ⟨ma_2, ka_2⟩, ⟨ma_3, ka_3⟩, bv_4⟩ := un_13 (hG _ mo1) ko1
  refine tk_getP (D := (dC, dI)) (ci := 9) (v := .ref a_2) (C := RX9) (T := TX9) (N := 3) hx hb hU inlX9 hown hK hP mo1 hfo_1 rfl 0 (by decide) (hU _ wd_95) (fun _ h9 => h9) rfl dX9_copyFrom_1 ?_
  obtain ⟨g_6, hfo_5, hbg_6⟩ := un_26 (hG _ ma_2) ka_2
  refine tk_alenP (v := 64) hx hb hK hP 0 ma_2 hfo_5 rfl rfl dX9_copyFrom_4 ?_
  refine lv_aload_n hx hb dX9_copyFrom_5 rfl (lv_at hl 0 rfl) ?_
  obtain ⟨a_8, a_9, v_10, hfo_7, ⟨ma_8, ka_8⟩, ⟨ma_9, ka_9⟩, bv_10⟩ := un_13 (hG _ mo0) ko0
  refine tk_getP (D := (dC, dI)) (ci := 9) (v := .ref a_8) (C := RX9) (T := TX9) (N := 3) hx hb hU inlX9 hown hK hP mo0 hfo_7 rfl 0 (by decide) (hU _ wd_95) (fun _ h9 => h9) rfl dX9_copyFrom_6 ?_
  obtain ⟨g_12, hfo_11, hbg_12⟩ := un_26 (hG _ ma_8) ka_8
  refine tk_alenP (v := 64) hx hb hK hP 0 ma_8 hfo_11 rfl rfl dX9_copyFrom_9 ?_
  refine lv_icmp_ne (tgt := 57) hx hb dX9_copyFrom_10 (by decide) (fun c9 => absurd (by decide) c9) (fun _ => ?_)
  refine lv_aload_n hx hb dX9_copyFrom_13 rfl (lv_at hl 1 rfl) ?_
  refine tk_getP (D := (dC, dI)) (ci := 9) (v := .ref a_2) (C := RX9) (T := TX9) (N := 3) hx hb hU inlX9 hown hK hP mo1 hfo_1 rfl 0 (by decide) (hU _ wd_95) (fun _ h9 => h9) rfl dX9_copyFrom_14 ?_
  refine lv_iconst (v := 0) hx hb dX9_copyFrom_17 (by decide) ?_
  refine lv_aload_n hx hb dX9_copyFrom_18 rfl (lv_at hl 0 rfl) ?_
  refine tk_getP (D := (dC, dI)) (ci := 9) (v := .ref a_8) (C := RX9) (T := TX9) (N := 3) hx hb hU inlX9 hown hK hP mo0 hfo_7 rfl 0 (by decide) (hU _ wd_95) (fun _ h9 => h9) rfl dX9_copyFrom_19 ?_
  refine lv_iconst (v := 0) hx hb dX9_copyFrom_22 (by decide) ?_
  refine lv_aload_n hx hb dX9_copyFrom_23 rfl (lv_at hl 0 rfl) ?_
  refine tk_getP (D := (dC, dI)) (ci := 9) (v := .ref a_8) (C := RX9) (T := TX9) (N := 3) hx hb hU inlX9 hown hK hP mo0 hfo_7 rfl 0 (by decide) (hU _ wd_95) (fun _ h9 => h9) rfl dX9_copyFrom_24 ?_
  refine tk_alenP (v := 64) hx hb hK hP 0 ma_8 hfo_11 rfl rfl dX9_copyFrom_27 ?_
  refine tk_copyP hx hb (by rw [hml]; exact hl.1.symm) hown (hU _ wd_548) (hU _ wd_253) (hU _ wd_254) (hU _ wd_255) hK hP hD hS 0 ma_2 ma_8 hfo_5 hfo_11 rfl (by decide) (by decide) (by decide) (by decide) (by decide) (Nat.le_of_ble_eq_true rfl) (Nat.le_of_ble_eq_true rfl) dX9_copyFrom_28 (fun H locs hP hD hS => ?_)
  obtain ⟨f_13, ef_13⟩ : ∃ y : Nat → va_E, y = va_up f a_8 (.inl (cI, 64, .inl (va_cpy g_6 g_12 (Int32.toNatClampNeg 0) (Int32.toNatClampNeg 0) (Int32.toNatClampNeg 64)))) := ⟨_, rfl⟩
  have hP : va_P (dC, dI) vwCl (va_pl L f_13) H := by rw [ef_13]; exact hP
  have hD : va_D (fun q => q ∈ L) (va_pl L f_13) := by rw [ef_13]; exact hD
  have hG : GI (okc cI cL cZ cR L kd) kd L f_13 := by rw [ef_13]; exact hG.set a_8 (mk_26 ka_8 ⟨_, rfl, okI_cpy (fun j => by have := hbg_6 j; constructor <;> omega) hbg_12 _ _ _⟩)
  have hfo_14 : f_13 o1 = .inr (9, [.ref a_2, .ref a_3, .int v_4]) := by rw [ef_13, up_ne (kd_ne ka_8 ko1 (by decide))]; exact hfo_1
  have hfo_15 : f_13 o0 = .inr (9, [.ref a_8, .ref a_9, .int v_10]) := by rw [ef_13, up_ne (kd_ne ka_8 ko0 (by decide))]; exact hfo_7
  have hfo_16 : f_13 a_8 = .inl (cI, 64, .inl (va_cpy g_6 g_12 (Int32.toNatClampNeg 0) (Int32.toNatClampNeg 0) (Int32.toNatClampNeg 64))) := by rw [ef_13]; exact up_self
  refine lv_aload_n hx hb dX9_copyFrom_31 rfl (lv_at hl 1 rfl) ?_
  refine tk_getP (D := (dC, dI)) (ci := 9) (v := .ref a_3) (C := RX9) (T := TX9) (N := 3) hx hb hU inlX9 hown hK hP mo1 hfo_14 rfl 1 (by decide) (hU _ wd_96) (fun _ h9 => h9) rfl dX9_copyFrom_32 ?_
  refine lv_iconst (v := 0) hx hb dX9_copyFrom_35 (by decide) ?_
  refine lv_aload_n hx hb dX9_copyFrom_36 rfl (lv_at hl 0 rfl) ?_
  refine tk_getP (D := (dC, dI)) (ci := 9) (v := .ref a_9) (C := RX9) (T := TX9) (N := 3) hx hb hU inlX9 hown hK hP mo0 hfo_15 rfl 1 (by decide) (hU _ wd_96) (fun _ h9 => h9) rfl dX9_copyFrom_37 ?_
  refine lv_iconst (v := 0) hx hb dX9_copyFrom_40 (by decide) ?_
  refine lv_aload_n hx hb dX9_copyFrom_41 rfl (lv_at hl 0 rfl) ?_
  refine tk_getP (D := (dC, dI)) (ci := 9) (v := .ref a_9) (C := RX9) (T := TX9) (N := 3) hx hb hU inlX9 hown hK hP mo0 hfo_15 rfl 1 (by decide) (hU _ wd_96) (fun _ h9 => h9) rfl dX9_copyFrom_42 ?_
  obtain ⟨g_18, hfo_17, hbg_18⟩ := un_27 (hG _ ma_9) ka_9
  refine tk_alenP (v := 8) hx hb hK hP 0 ma_9 hfo_17 rfl rfl dX9_copyFrom_45 ?_
  obtain ⟨g_20, hfo_19, hbg_20⟩ := un_27 (hG _ ma_3) ka_3
  refine tk_copyP hx hb (by rw [hml]; exact hl.1.symm) hown (hU _ wd_548) (hU _ wd_253) (hU _ wd_254) (hU _ wd_255) hK hP hD hS 0 ma_3 ma_9 hfo_19 hfo_17 rfl (by decide) (by decide) (by decide) (by decide) (by decide) (Nat.le_of_ble_eq_true rfl) (Nat.le_of_ble_eq_true rfl) dX9_copyFrom_46 (fun H locs hP hD hS => ?_)
  obtain ⟨f_21, ef_21⟩ : ∃ y : Nat → va_E, y = va_up f_13 a_9 (.inl (cI, 8, .inl (va_cpy g_20 g_18 (Int32.toNatClampNeg 0) (Int32.toNatClampNeg 0) (Int32.toNatClampNeg 8)))) := ⟨_, rfl⟩
  have hP : va_P (dC, dI) vwCl (va_pl L f_21) H := by rw [ef_21]; exact hP
  have hD : va_D (fun q => q ∈ L) (va_pl L f_21) := by rw [ef_21]; exact hD
  have hG : GI (okc cI cL cZ cR L kd) kd L f_21 := by rw [ef_21]; exact hG.set a_9 (mk_27 ka_9 ⟨_, rfl, okI_cpy (fun j => by have := hbg_20 j; constructor <;> omega) hbg_18 _ _ _⟩)
  have hfo_22 : f_21 o1 = .inr (9, [.ref a_2, .ref a_3, .int v_4]) := by rw [ef_21, up_ne (kd_ne ka_9 ko1 (by decide))]; exact hfo_14
  have hfo_23 : f_21 o0 = .inr (9, [.ref a_8, .ref a_9, .int v_10]) := by rw [ef_21, up_ne (kd_ne ka_9 ko0 (by decide))]; exact hfo_15
  have hfo_24 : f_21 a_9 = .inl (cI, 8, .inl (va_cpy g_20 g_18 (Int32.toNatClampNeg 0) (Int32.toNatClampNeg 0) (Int32.toNatClampNeg 8))) := by rw [ef_21]; exact up_self
  refine lv_aload_n hx hb dX9_copyFrom_49 rfl (lv_at hl 0 rfl) ?_
  refine lv_aload_n hx hb dX9_copyFrom_50 rfl (lv_at hl 1 rfl) ?_
  refine tk_getP (D := (dC, dI)) (ci := 9) (v := .int v_4) (C := RX9) (T := TX9) (N := 3) hx hb hU inlX9 hown hK hP mo1 hfo_22 rfl 2 (by decide) (hU _ wd_273) (fun _ h9 => h9) rfl dX9_copyFrom_51 ?_
  refine tk_putP (D := (dC, dI)) (ci := 9) (v := .int v_4) (ty := .int) (C := RX9) (T := TX9) (N := 3) hx hb hU inlX9 tyX9 tyX9_ok nmX9 hown hK hP hD hS mo0 hfo_23 rfl 2 (by decide) (hU _ wd_273) (fun _ h9 => h9) rfl (by decide +kernel) rfl rfl (Nat.le_of_ble_eq_true rfl) dX9_copyFrom_54 (fun H locs hP hD hS => ?_)
  obtain ⟨f_25, ef_25⟩ : ∃ y : Nat → va_E, y = va_up f_21 o0 (.inr (9, [.ref a_8, .ref a_9, .int v_4])) := ⟨_, rfl⟩
  have hP : va_P (dC, dI) vwCl (va_pl L f_25) H := by rw [ef_25]; exact hP
  have hD : va_D (fun q => q ∈ L) (va_pl L f_25) := by rw [ef_25]; exact hD
  have hG : GI (okc cI cL cZ cR L kd) kd L f_25 := by rw [ef_25]; exact hG.set o0 (mk_13 ko0 ⟨a_8, a_9, v_4, rfl, ⟨ma_8, ka_8⟩, ⟨ma_9, ka_9⟩, (by constructor <;> omega)⟩)
  have hfo_26 : f_25 o0 = .inr (9, [.ref a_8, .ref a_9, .int v_4]) := by rw [ef_25]; exact up_self
  exact W.vret hx hb hr (fun t ht hW => ⟨⟨f_25, rfl, hG, by rw [ht]; exact hP, va_K.moved hW.alike hK, pl_in hD⟩, hS.F ht⟩) hS.2.2 dX9_copyFrom_57
set_option maxHeartbeats 8000000 in
set_option maxRecDepth 100000 in
theorem s_X9_copyTo_k9_k27 (l : Launch) (D : va_G) (cI cL cZ cR : ClassId) (kd : Nat → Nat) (L : List Nat) (f : Nat → va_E) (hG : GI (okc cI cL cZ cR L kd) kd L f) (o0 : Nat) (mo0 : o0 ∈ L) (ko0 : kd o0 = 9) (p1 : Int32) (o2 : Nat) (mo2 : o2 ∈ L) (ko2 : kd o2 = 27) (p3 : Int32) (bp3 : (0 ≤ p3.toInt ∧ p3.toInt ≤ 12)) : mPI l D cI cL cZ cR yX9_copyTo cX9_copyTo 5 (some .int) 1 40 [.ref o0, .int p1, .ref o2, .int p3] L f (fun (r : Int32) (f9 : Nat → va_E) => GI (okc cI cL cZ cR L kd) kd L f9 ∧ (0 ≤ r.toInt ∧ r.toInt ≤ 20)) := by
  obtain ⟨dC, dI⟩ := D
  refine Met.ofW (cc := cX9_copyTo) (maxL := 5) (ret := (some .int)) (by decide) rfl ?_
  intro p e s m args below meth c s₁ B hml hv
  obtain ⟨rfl, hP, hK, hD0, hN⟩ := hv
  have hx := B.exec
  have hb := B.bytes
  have hr := B.returns
  have hU : ∀ w ∈ wsU, w.before _ s = true := fun w h => atoms_spec (ws := wU yX9_copyTo cX9_copyTo 5 (some .int)) B.pre w (List.mem_cons_of_mem _ h)
  have hown : s.vm.findClass RX9 = some m.cls := findClass_of_methodNamed B.named
  have hlocks := B.notSynchronized
  have hD := pl_in hD0
  have hS : va_S (fun q => q ∈ L) s.heap s.heap [] := va_S.rf
  have hl := lv_entry ([.ref o0, .int p1, .ref o2, .int p3]) (n := 5) (Nat.le_of_ble_eq_true rfl)
  rw [lg_entry_eq]
  generalize (lg_sl ([.ref o0, .int p1, .ref o2, .int p3]) ++ List.replicate (5 - (lg_sl ([.ref o0, .int p1, .ref o2, .int p3])).length) Slot.unset).toArray = ls at hl ⊢
  have hl : lv_has ls 5 [(0, .ref o0), (1, .int p1), (2, .ref o2), (3, .int p3)] := hl
  have bp1 : ((-2147483648) ≤ p1.toInt ∧ p1.toInt ≤ 2147483647) := ⟨i32_lo _, i32_hi _⟩
  refine lv_aload_n hx hb dX9_copyTo_0 rfl (lv_at hl 0 rfl) ?_
  refine lv_iload_n hx hb dX9_copyTo_1 rfl (lv_at hl 1 rfl) ?_
  obtain ⟨a_2, a_3, v_4, hfo_1, ⟨ma_2, ka_2⟩, ⟨ma_3, ka_3⟩, bv_4⟩ := un_9 (hG _ mo0) ko0
  refine tk_ViP (As := [.int p1]) (rest := []) (n := 1) hx hb hml hown hU hN (s_X9_lengthOf_k9 l (dC, dI) cI cL cZ cR kd L f hG o0 mo0 ko0 p1) wd_1010 wd_1011 wd_1012 wd_85 wd_1013 (by decide +kernel) ⟨Nat.le_of_ble_eq_true rfl, Nat.le_of_ble_eq_true rfl⟩ hK hP hD hS mo0 hfo_1 9 rfl rfl rfl hl.1 rfl (Nat.le_of_ble_eq_true rfl) dX9_copyTo_2 ⟨Nat.le_of_ble_eq_true rfl, Nat.le_of_ble_eq_true rfl⟩ (fun x_5 f_6 H locs hw hP hD hS => ?_)
  obtain ⟨hG, bx_5, relx_5⟩ := hw
  refine lv_istore (lv' := [(4, .int x_5), (0, .ref o0), (1, .int p1), (2, .ref o2), (3, .int p3)]) hx hb dX9_copyTo_5 hl (by decide) rfl (fun ls hl => ?_)
  refine lv_iload hx hb dX9_copyTo_7 (lv_at hl 0 rfl) ?_
  refine lv_iconst (v := 1) hx hb dX9_copyTo_9 (by decide) ?_
  refine lv_icmp_lt (tgt := 26) hx hb dX9_copyTo_10 (by decide) (fun c_7 => ?_) (fun c_7 => ?_)
  · skip
    rw [Int32.lt_iff_toInt_lt, ti_1] at c_7
    refine lv_iload_n hx hb dX9_copyTo_26 rfl (lv_at hl 4 rfl) ?_
    exact W.iret (v := p3) hx hb hr (fun t ht hW => ⟨⟨p3, f_6, rfl, ⟨hG, (by constructor <;> omega)⟩, by rw [ht]; exact hP, va_K.moved hW.alike hK, pl_in hD⟩, hS.F ht⟩) hS.2.2 dX9_copyTo_27
  · skip
    rw [Int32.lt_iff_toInt_lt, ti_1] at c_7
    refine lv_iload_n hx hb dX9_copyTo_13 rfl (lv_at hl 4 rfl) ?_
    refine lv_if_lt (tgt := 26) hx hb dX9_copyTo_14 (by decide) (fun c_8 => ?_) (fun c_8 => ?_)
    · skip
      rw [Int32.lt_iff_toInt_lt, ti_0] at c_8
      exfalso
      omega
    · skip
      rw [Int32.lt_iff_toInt_lt, ti_0] at c_8
      refine lv_iload_n hx hb dX9_copyTo_17 rfl (lv_at hl 4 rfl) ?_
      refine lv_iload hx hb dX9_copyTo_18 (lv_at hl 0 rfl) ?_
      refine lv_iadd hx hb dX9_copyTo_20 ?_
      refine lv_topi (fun x_9 ex_9 => ?_)
      have hx_9 : x_9.toInt = p3.toInt + x_5.toInt := by rw [ex_9, ad_I (by omega) (by omega)]
      have bx_9 : (1 ≤ x_9.toInt ∧ x_9.toInt ≤ 20) := by constructor <;> omega
      refine lv_aload_n hx hb dX9_copyTo_21 rfl (lv_at hl 3 rfl) ?_
      obtain ⟨g_11, hfo_10, hbg_11⟩ := un_27 (hG _ mo2) ko2
      refine tk_alenP (v := 8) hx hb hK hP 0 mo2 hfo_10 rfl rfl dX9_copyTo_22 ?_
      refine lv_icmp_le (tgt := 28) hx hb dX9_copyTo_23 (by decide) (fun c_12 => ?_) (fun c_12 => ?_)
      · skip
        rw [Int32.le_iff_toInt_le, ti_8] at c_12
        refine lv_aload_n hx hb dX9_copyTo_28 rfl (lv_at hl 1 rfl) ?_
        obtain ⟨a_14, a_15, v_16, hfo_13, ⟨ma_14, ka_14⟩, ⟨ma_15, ka_15⟩, bv_16⟩ := un_9 (hG _ mo0) ko0
        refine tk_getP (D := (dC, dI)) (ci := 9) (v := .ref a_14) (C := RX9) (T := TX9) (N := 3) hx hb hU inlX9 hown hK hP mo0 hfo_13 rfl 0 (by decide) (hU _ wd_95) (fun _ h9 => h9) rfl dX9_copyTo_29 ?_
        refine lv_iload_n hx hb dX9_copyTo_32 rfl (lv_at hl 2 rfl) ?_
        refine lv_bipush (v := 8) hx hb dX9_copyTo_33 (by decide) ?_
        refine lv_imul hx hb dX9_copyTo_35 ?_
        refine lv_topi (fun x_17 ex_17 => ?_)
        have hx_17 : x_17.toInt = p1.toInt * 8 := by rw [ex_17, ml_I (by rw [ti_8]; omega) (by rw [ti_8]; omega), ti_8]
        have bx_17 : (0 ≤ x_17.toInt ∧ x_17.toInt ≤ 88) := by constructor <;> omega
        refine lv_aload_n hx hb dX9_copyTo_36 rfl (lv_at hl 3 rfl) ?_
        refine lv_iload_n hx hb dX9_copyTo_37 rfl (lv_at hl 4 rfl) ?_
        refine lv_iload hx hb dX9_copyTo_38 (lv_at hl 0 rfl) ?_
        obtain ⟨g_19, hfo_18, hbg_19⟩ := un_24 (hG _ ma_14) ka_14
        refine tk_copyP hx hb (by rw [hml]; exact hl.1.symm) hown (hU _ wd_548) (hU _ wd_253) (hU _ wd_254) (hU _ wd_255) hK hP hD hS 0 ma_14 mo2 hfo_18 hfo_10 rfl (by rw [Int32.lt_iff_toInt_lt, ti_0]; omega) (by rw [Int32.lt_iff_toInt_lt, ti_0]; omega) (by rw [Int32.lt_iff_toInt_lt, ti_0]; omega) (cp_ok (by omega) (by omega) (by omega)) (cp_ok (by omega) (by omega) (by omega)) (Nat.le_of_ble_eq_true rfl) (Nat.le_of_ble_eq_true rfl) dX9_copyTo_40 (fun H locs hP hD hS => ?_)
        obtain ⟨f_20, ef_20⟩ : ∃ y : Nat → va_E, y = va_up f_6 o2 (.inl (cI, 8, .inl (va_cpy g_19 g_11 (Int32.toNatClampNeg x_17) (Int32.toNatClampNeg p3) (Int32.toNatClampNeg x_5)))) := ⟨_, rfl⟩
        have hP : va_P (dC, dI) vwCl (va_pl L f_20) H := by rw [ef_20]; exact hP
        have hD : va_D (fun q => q ∈ L) (va_pl L f_20) := by rw [ef_20]; exact hD
        have hG : GI (okc cI cL cZ cR L kd) kd L f_20 := by rw [ef_20]; exact hG.set o2 (mk_27 ko2 ⟨_, rfl, okI_cpy (fun j => by have := hbg_19 j; constructor <;> omega) hbg_11 _ _ _⟩)
        have hfo_21 : f_20 o0 = .inr (9, [.ref a_14, .ref a_15, .int v_16]) := by rw [ef_20, up_ne (kd_ne ko2 ko0 (by decide))]; exact hfo_13
        have hfo_22 : f_20 a_14 = .inl (cI, 96, .inl g_19) := by rw [ef_20, up_ne (kd_ne ko2 ka_14 (by decide))]; exact hfo_18
        have hfo_23 : f_20 o2 = .inl (cI, 8, .inl (va_cpy g_19 g_11 (Int32.toNatClampNeg x_17) (Int32.toNatClampNeg p3) (Int32.toNatClampNeg x_5))) := by rw [ef_20]; exact up_self
        refine lv_iload_n hx hb dX9_copyTo_43 rfl (lv_at hl 4 rfl) ?_
        refine lv_iload hx hb dX9_copyTo_44 (lv_at hl 0 rfl) ?_
        refine lv_iadd hx hb dX9_copyTo_46 ?_
        refine lv_topi (fun x_24 ex_24 => ?_)
        have hx_24 : x_24.toInt = p3.toInt + x_5.toInt := by rw [ex_24, ad_I (by omega) (by omega)]
        have bx_24 : (1 ≤ x_24.toInt ∧ x_24.toInt ≤ 20) := by constructor <;> omega
        exact W.iret (v := x_24) hx hb hr (fun t ht hW => ⟨⟨x_24, f_20, rfl, ⟨hG, (by constructor <;> omega)⟩, by rw [ht]; exact hP, va_K.moved hW.alike hK, pl_in hD⟩, hS.F ht⟩) hS.2.2 dX9_copyTo_47
      · skip
        rw [Int32.le_iff_toInt_le, ti_8] at c_12
        refine lv_iload_n hx hb dX9_copyTo_26 rfl (lv_at hl 4 rfl) ?_
        exact W.iret (v := p3) hx hb hr (fun t ht hW => ⟨⟨p3, f_6, rfl, ⟨hG, (by constructor <;> omega)⟩, by rw [ht]; exact hP, va_K.moved hW.alike hK, pl_in hD⟩, hS.F ht⟩) hS.2.2 dX9_copyTo_27
set_option maxHeartbeats 8000000 in
set_option maxRecDepth 100000 in
theorem s_X9_copyTo_k9_k25 (l : Launch) (D : va_G) (cI cL cZ cR : ClassId) (kd : Nat → Nat) (L : List Nat) (f : Nat → va_E) (hG : GI (okc cI cL cZ cR L kd) kd L f) (o0 : Nat) (mo0 : o0 ∈ L) (ko0 : kd o0 = 9) (p1 : Int32) (o2 : Nat) (mo2 : o2 ∈ L) (ko2 : kd o2 = 25) (p3 : Int32) (bp3 : (0 ≤ p3.toInt ∧ p3.toInt ≤ 12)) : mPI l D cI cL cZ cR yX9_copyTo cX9_copyTo 5 (some .int) 1 40 [.ref o0, .int p1, .ref o2, .int p3] L f (fun (r : Int32) (f9 : Nat → va_E) => GI (okc cI cL cZ cR L kd) kd L f9 ∧ (0 ≤ r.toInt ∧ r.toInt ≤ 20)) := by
  obtain ⟨dC, dI⟩ := D
  refine Met.ofW (cc := cX9_copyTo) (maxL := 5) (ret := (some .int)) (by decide) rfl ?_
  intro p e s m args below meth c s₁ B hml hv
  obtain ⟨rfl, hP, hK, hD0, hN⟩ := hv
  have hx := B.exec
  have hb := B.bytes
  have hr := B.returns
  have hU : ∀ w ∈ wsU, w.before _ s = true := fun w h => atoms_spec (ws := wU yX9_copyTo cX9_copyTo 5 (some .int)) B.pre w (List.mem_cons_of_mem _ h)
  have hown : s.vm.findClass RX9 = some m.cls := findClass_of_methodNamed B.named
  have hlocks := B.notSynchronized
  have hD := pl_in hD0
  have hS : va_S (fun q => q ∈ L) s.heap s.heap [] := va_S.rf
  have hl := lv_entry ([.ref o0, .int p1, .ref o2, .int p3]) (n := 5) (Nat.le_of_ble_eq_true rfl)
  rw [lg_entry_eq]
  generalize (lg_sl ([.ref o0, .int p1, .ref o2, .int p3]) ++ List.replicate (5 - (lg_sl ([.ref o0, .int p1, .ref o2, .int p3])).length) Slot.unset).toArray = ls at hl ⊢
  have hl : lv_has ls 5 [(0, .ref o0), (1, .int p1), (2, .ref o2), (3, .int p3)] := hl
  have bp1 : ((-2147483648) ≤ p1.toInt ∧ p1.toInt ≤ 2147483647) := ⟨i32_lo _, i32_hi _⟩
  refine lv_aload_n hx hb dX9_copyTo_0 rfl (lv_at hl 0 rfl) ?_
  refine lv_iload_n hx hb dX9_copyTo_1 rfl (lv_at hl 1 rfl) ?_
  obtain ⟨a_2, a_3, v_4, hfo_1, ⟨ma_2, ka_2⟩, ⟨ma_3, ka_3⟩, bv_4⟩ := un_9 (hG _ mo0) ko0
  refine tk_ViP (As := [.int p1]) (rest := []) (n := 1) hx hb hml hown hU hN (s_X9_lengthOf_k9 l (dC, dI) cI cL cZ cR kd L f hG o0 mo0 ko0 p1) wd_1010 wd_1011 wd_1012 wd_85 wd_1013 (by decide +kernel) ⟨Nat.le_of_ble_eq_true rfl, Nat.le_of_ble_eq_true rfl⟩ hK hP hD hS mo0 hfo_1 9 rfl rfl rfl hl.1 rfl (Nat.le_of_ble_eq_true rfl) dX9_copyTo_2 ⟨Nat.le_of_ble_eq_true rfl, Nat.le_of_ble_eq_true rfl⟩ (fun x_5 f_6 H locs hw hP hD hS => ?_)
  obtain ⟨hG, bx_5, relx_5⟩ := hw
  refine lv_istore (lv' := [(4, .int x_5), (0, .ref o0), (1, .int p1), (2, .ref o2), (3, .int p3)]) hx hb dX9_copyTo_5 hl (by decide) rfl (fun ls hl => ?_)
  refine lv_iload hx hb dX9_copyTo_7 (lv_at hl 0 rfl) ?_
  refine lv_iconst (v := 1) hx hb dX9_copyTo_9 (by decide) ?_
  refine lv_icmp_lt (tgt := 26) hx hb dX9_copyTo_10 (by decide) (fun c_7 => ?_) (fun c_7 => ?_)
  · skip
    rw [Int32.lt_iff_toInt_lt, ti_1] at c_7
    refine lv_iload_n hx hb dX9_copyTo_26 rfl (lv_at hl 4 rfl) ?_
    exact W.iret (v := p3) hx hb hr (fun t ht hW => ⟨⟨p3, f_6, rfl, ⟨hG, (by constructor <;> omega)⟩, by rw [ht]; exact hP, va_K.moved hW.alike hK, pl_in hD⟩, hS.F ht⟩) hS.2.2 dX9_copyTo_27
  · skip
    rw [Int32.lt_iff_toInt_lt, ti_1] at c_7
    refine lv_iload_n hx hb dX9_copyTo_13 rfl (lv_at hl 4 rfl) ?_
    refine lv_if_lt (tgt := 26) hx hb dX9_copyTo_14 (by decide) (fun c_8 => ?_) (fun c_8 => ?_)
    · skip
      rw [Int32.lt_iff_toInt_lt, ti_0] at c_8
      exfalso
      omega
    · skip
      rw [Int32.lt_iff_toInt_lt, ti_0] at c_8
      refine lv_iload_n hx hb dX9_copyTo_17 rfl (lv_at hl 4 rfl) ?_
      refine lv_iload hx hb dX9_copyTo_18 (lv_at hl 0 rfl) ?_
      refine lv_iadd hx hb dX9_copyTo_20 ?_
      refine lv_topi (fun x_9 ex_9 => ?_)
      have hx_9 : x_9.toInt = p3.toInt + x_5.toInt := by rw [ex_9, ad_I (by omega) (by omega)]
      have bx_9 : (1 ≤ x_9.toInt ∧ x_9.toInt ≤ 20) := by constructor <;> omega
      refine lv_aload_n hx hb dX9_copyTo_21 rfl (lv_at hl 3 rfl) ?_
      obtain ⟨g_11, hfo_10, hbg_11⟩ := un_25 (hG _ mo2) ko2
      refine tk_alenP (v := 12) hx hb hK hP 0 mo2 hfo_10 rfl rfl dX9_copyTo_22 ?_
      refine lv_icmp_le (tgt := 28) hx hb dX9_copyTo_23 (by decide) (fun c_12 => ?_) (fun c_12 => ?_)
      · skip
        rw [Int32.le_iff_toInt_le, ti_12] at c_12
        refine lv_aload_n hx hb dX9_copyTo_28 rfl (lv_at hl 1 rfl) ?_
        obtain ⟨a_14, a_15, v_16, hfo_13, ⟨ma_14, ka_14⟩, ⟨ma_15, ka_15⟩, bv_16⟩ := un_9 (hG _ mo0) ko0
        refine tk_getP (D := (dC, dI)) (ci := 9) (v := .ref a_14) (C := RX9) (T := TX9) (N := 3) hx hb hU inlX9 hown hK hP mo0 hfo_13 rfl 0 (by decide) (hU _ wd_95) (fun _ h9 => h9) rfl dX9_copyTo_29 ?_
        refine lv_iload_n hx hb dX9_copyTo_32 rfl (lv_at hl 2 rfl) ?_
        refine lv_bipush (v := 8) hx hb dX9_copyTo_33 (by decide) ?_
        refine lv_imul hx hb dX9_copyTo_35 ?_
        refine lv_topi (fun x_17 ex_17 => ?_)
        have hx_17 : x_17.toInt = p1.toInt * 8 := by rw [ex_17, ml_I (by rw [ti_8]; omega) (by rw [ti_8]; omega), ti_8]
        have bx_17 : (0 ≤ x_17.toInt ∧ x_17.toInt ≤ 88) := by constructor <;> omega
        refine lv_aload_n hx hb dX9_copyTo_36 rfl (lv_at hl 3 rfl) ?_
        refine lv_iload_n hx hb dX9_copyTo_37 rfl (lv_at hl 4 rfl) ?_
        refine lv_iload hx hb dX9_copyTo_38 (lv_at hl 0 rfl) ?_
        obtain ⟨g_19, hfo_18, hbg_19⟩ := un_24 (hG _ ma_14) ka_14
        refine tk_copyP hx hb (by rw [hml]; exact hl.1.symm) hown (hU _ wd_548) (hU _ wd_253) (hU _ wd_254) (hU _ wd_255) hK hP hD hS 0 ma_14 mo2 hfo_18 hfo_10 rfl (by rw [Int32.lt_iff_toInt_lt, ti_0]; omega) (by rw [Int32.lt_iff_toInt_lt, ti_0]; omega) (by rw [Int32.lt_iff_toInt_lt, ti_0]; omega) (cp_ok (by omega) (by omega) (by omega)) (cp_ok (by omega) (by omega) (by omega)) (Nat.le_of_ble_eq_true rfl) (Nat.le_of_ble_eq_true rfl) dX9_copyTo_40 (fun H locs hP hD hS => ?_)
        obtain ⟨f_20, ef_20⟩ : ∃ y : Nat → va_E, y = va_up f_6 o2 (.inl (cI, 12, .inl (va_cpy g_19 g_11 (Int32.toNatClampNeg x_17) (Int32.toNatClampNeg p3) (Int32.toNatClampNeg x_5)))) := ⟨_, rfl⟩
        have hP : va_P (dC, dI) vwCl (va_pl L f_20) H := by rw [ef_20]; exact hP
        have hD : va_D (fun q => q ∈ L) (va_pl L f_20) := by rw [ef_20]; exact hD
        have hG : GI (okc cI cL cZ cR L kd) kd L f_20 := by rw [ef_20]; exact hG.set o2 (mk_25 ko2 ⟨_, rfl, okI_cpy (fun j => by have := hbg_19 j; constructor <;> omega) hbg_11 _ _ _⟩)
        have hfo_21 : f_20 o0 = .inr (9, [.ref a_14, .ref a_15, .int v_16]) := by rw [ef_20, up_ne (kd_ne ko2 ko0 (by decide))]; exact hfo_13
        have hfo_22 : f_20 a_14 = .inl (cI, 96, .inl g_19) := by rw [ef_20, up_ne (kd_ne ko2 ka_14 (by decide))]; exact hfo_18
        have hfo_23 : f_20 o2 = .inl (cI, 12, .inl (va_cpy g_19 g_11 (Int32.toNatClampNeg x_17) (Int32.toNatClampNeg p3) (Int32.toNatClampNeg x_5))) := by rw [ef_20]; exact up_self
        refine lv_iload_n hx hb dX9_copyTo_43 rfl (lv_at hl 4 rfl) ?_
        refine lv_iload hx hb dX9_copyTo_44 (lv_at hl 0 rfl) ?_
        refine lv_iadd hx hb dX9_copyTo_46 ?_
        refine lv_topi (fun x_24 ex_24 => ?_)
        have hx_24 : x_24.toInt = p3.toInt + x_5.toInt := by rw [ex_24, ad_I (by omega) (by omega)]
        have bx_24 : (1 ≤ x_24.toInt ∧ x_24.toInt ≤ 20) := by constructor <;> omega
        exact W.iret (v := x_24) hx hb hr (fun t ht hW => ⟨⟨x_24, f_20, rfl, ⟨hG, (by constructor <;> omega)⟩, by rw [ht]; exact hP, va_K.moved hW.alike hK, pl_in hD⟩, hS.F ht⟩) hS.2.2 dX9_copyTo_47
      · skip
        rw [Int32.le_iff_toInt_le, ti_12] at c_12
        refine lv_iload_n hx hb dX9_copyTo_26 rfl (lv_at hl 4 rfl) ?_
        exact W.iret (v := p3) hx hb hr (fun t ht hW => ⟨⟨p3, f_6, rfl, ⟨hG, (by constructor <;> omega)⟩, by rw [ht]; exact hP, va_K.moved hW.alike hK, pl_in hD⟩, hS.F ht⟩) hS.2.2 dX9_copyTo_27
set_option maxHeartbeats 8000000 in
set_option maxRecDepth 100000 in
theorem s_X9_copyTo_k13_k27 (l : Launch) (D : va_G) (cI cL cZ cR : ClassId) (kd : Nat → Nat) (L : List Nat) (f : Nat → va_E) (hG : GI (okc cI cL cZ cR L kd) kd L f) (o0 : Nat) (mo0 : o0 ∈ L) (ko0 : kd o0 = 13) (p1 : Int32) (o2 : Nat) (mo2 : o2 ∈ L) (ko2 : kd o2 = 27) (p3 : Int32) (bp3 : (0 ≤ p3.toInt ∧ p3.toInt ≤ 12)) : mPI l D cI cL cZ cR yX9_copyTo cX9_copyTo 5 (some .int) 1 40 [.ref o0, .int p1, .ref o2, .int p3] L f (fun (r : Int32) (f9 : Nat → va_E) => GI (okc cI cL cZ cR L kd) kd L f9 ∧ (0 ≤ r.toInt ∧ r.toInt ≤ 20)) := by
  obtain ⟨dC, dI⟩ := D
  refine Met.ofW (cc := cX9_copyTo) (maxL := 5) (ret := (some .int)) (by decide) rfl ?_
  intro p e s m args below meth c s₁ B hml hv
  obtain ⟨rfl, hP, hK, hD0, hN⟩ := hv
  have hx := B.exec
  have hb := B.bytes
  have hr := B.returns
  have hU : ∀ w ∈ wsU, w.before _ s = true := fun w h => atoms_spec (ws := wU yX9_copyTo cX9_copyTo 5 (some .int)) B.pre w (List.mem_cons_of_mem _ h)
  have hown : s.vm.findClass RX9 = some m.cls := findClass_of_methodNamed B.named
  have hlocks := B.notSynchronized
  have hD := pl_in hD0
  have hS : va_S (fun q => q ∈ L) s.heap s.heap [] := va_S.rf
  have hl := lv_entry ([.ref o0, .int p1, .ref o2, .int p3]) (n := 5) (Nat.le_of_ble_eq_true rfl)
  rw [lg_entry_eq]
  generalize (lg_sl ([.ref o0, .int p1, .ref o2, .int p3]) ++ List.replicate (5 - (lg_sl ([.ref o0, .int p1, .ref o2, .int p3])).length) Slot.unset).toArray = ls at hl ⊢
  have hl : lv_has ls 5 [(0, .ref o0), (1, .int p1), (2, .ref o2), (3, .int p3)] := hl
  have bp1 : ((-2147483648) ≤ p1.toInt ∧ p1.toInt ≤ 2147483647) := ⟨i32_lo _, i32_hi _⟩
  refine lv_aload_n hx hb dX9_copyTo_0 rfl (lv_at hl 0 rfl) ?_
  refine lv_iload_n hx hb dX9_copyTo_1 rfl (lv_at hl 1 rfl) ?_
  obtain ⟨a_2, a_3, v_4, hfo_1, ⟨ma_2, ka_2⟩, ⟨ma_3, ka_3⟩, bv_4⟩ := un_13 (hG _ mo0) ko0
  refine tk_ViP (As := [.int p1]) (rest := []) (n := 1) hx hb hml hown hU hN (s_X9_lengthOf_k13 l (dC, dI) cI cL cZ cR kd L f hG o0 mo0 ko0 p1) wd_1010 wd_1011 wd_1012 wd_85 wd_1013 (by decide +kernel) ⟨Nat.le_of_ble_eq_true rfl, Nat.le_of_ble_eq_true rfl⟩ hK hP hD hS mo0 hfo_1 9 rfl rfl rfl hl.1 rfl (Nat.le_of_ble_eq_true rfl) dX9_copyTo_2 ⟨Nat.le_of_ble_eq_true rfl, Nat.le_of_ble_eq_true rfl⟩ (fun x_5 f_6 H locs hw hP hD hS => ?_)
  obtain ⟨hG, bx_5, relx_5⟩ := hw
  refine lv_istore (lv' := [(4, .int x_5), (0, .ref o0), (1, .int p1), (2, .ref o2), (3, .int p3)]) hx hb dX9_copyTo_5 hl (by decide) rfl (fun ls hl => ?_)
  refine lv_iload hx hb dX9_copyTo_7 (lv_at hl 0 rfl) ?_
  refine lv_iconst (v := 1) hx hb dX9_copyTo_9 (by decide) ?_
  refine lv_icmp_lt (tgt := 26) hx hb dX9_copyTo_10 (by decide) (fun c_7 => ?_) (fun c_7 => ?_)
  · skip
    rw [Int32.lt_iff_toInt_lt, ti_1] at c_7
    refine lv_iload_n hx hb dX9_copyTo_26 rfl (lv_at hl 4 rfl) ?_
    exact W.iret (v := p3) hx hb hr (fun t ht hW => ⟨⟨p3, f_6, rfl, ⟨hG, (by constructor <;> omega)⟩, by rw [ht]; exact hP, va_K.moved hW.alike hK, pl_in hD⟩, hS.F ht⟩) hS.2.2 dX9_copyTo_27
  · skip
    rw [Int32.lt_iff_toInt_lt, ti_1] at c_7
    refine lv_iload_n hx hb dX9_copyTo_13 rfl (lv_at hl 4 rfl) ?_
    refine lv_if_lt (tgt := 26) hx hb dX9_copyTo_14 (by decide) (fun c_8 => ?_) (fun c_8 => ?_)
    · skip
      rw [Int32.lt_iff_toInt_lt, ti_0] at c_8
      exfalso
      omega
    · skip
      rw [Int32.lt_iff_toInt_lt, ti_0] at c_8
      refine lv_iload_n hx hb dX9_copyTo_17 rfl (lv_at hl 4 rfl) ?_
      refine lv_iload hx hb dX9_copyTo_18 (lv_at hl 0 rfl) ?_
      refine lv_iadd hx hb dX9_copyTo_20 ?_
      refine lv_topi (fun x_9 ex_9 => ?_)
      have hx_9 : x_9.toInt = p3.toInt + x_5.toInt := by rw [ex_9, ad_I (by omega) (by omega)]
      have bx_9 : (1 ≤ x_9.toInt ∧ x_9.toInt ≤ 20) := by constructor <;> omega
      refine lv_aload_n hx hb dX9_copyTo_21 rfl (lv_at hl 3 rfl) ?_
      obtain ⟨g_11, hfo_10, hbg_11⟩ := un_27 (hG _ mo2) ko2
      refine tk_alenP (v := 8) hx hb hK hP 0 mo2 hfo_10 rfl rfl dX9_copyTo_22 ?_
      refine lv_icmp_le (tgt := 28) hx hb dX9_copyTo_23 (by decide) (fun c_12 => ?_) (fun c_12 => ?_)
      · skip
        rw [Int32.le_iff_toInt_le, ti_8] at c_12
        refine lv_aload_n hx hb dX9_copyTo_28 rfl (lv_at hl 1 rfl) ?_
        obtain ⟨a_14, a_15, v_16, hfo_13, ⟨ma_14, ka_14⟩, ⟨ma_15, ka_15⟩, bv_16⟩ := un_13 (hG _ mo0) ko0
        refine tk_getP (D := (dC, dI)) (ci := 9) (v := .ref a_14) (C := RX9) (T := TX9) (N := 3) hx hb hU inlX9 hown hK hP mo0 hfo_13 rfl 0 (by decide) (hU _ wd_95) (fun _ h9 => h9) rfl dX9_copyTo_29 ?_
        refine lv_iload_n hx hb dX9_copyTo_32 rfl (lv_at hl 2 rfl) ?_
        refine lv_bipush (v := 8) hx hb dX9_copyTo_33 (by decide) ?_
        refine lv_imul hx hb dX9_copyTo_35 ?_
        refine lv_topi (fun x_17 ex_17 => ?_)
        have hx_17 : x_17.toInt = p1.toInt * 8 := by rw [ex_17, ml_I (by rw [ti_8]; omega) (by rw [ti_8]; omega), ti_8]
        have bx_17 : (0 ≤ x_17.toInt ∧ x_17.toInt ≤ 56) := by constructor <;> omega
        refine lv_aload_n hx hb dX9_copyTo_36 rfl (lv_at hl 3 rfl) ?_
        refine lv_iload_n hx hb dX9_copyTo_37 rfl (lv_at hl 4 rfl) ?_
        refine lv_iload hx hb dX9_copyTo_38 (lv_at hl 0 rfl) ?_
        obtain ⟨g_19, hfo_18, hbg_19⟩ := un_26 (hG _ ma_14) ka_14
        refine tk_copyP hx hb (by rw [hml]; exact hl.1.symm) hown (hU _ wd_548) (hU _ wd_253) (hU _ wd_254) (hU _ wd_255) hK hP hD hS 0 ma_14 mo2 hfo_18 hfo_10 rfl (by rw [Int32.lt_iff_toInt_lt, ti_0]; omega) (by rw [Int32.lt_iff_toInt_lt, ti_0]; omega) (by rw [Int32.lt_iff_toInt_lt, ti_0]; omega) (cp_ok (by omega) (by omega) (by omega)) (cp_ok (by omega) (by omega) (by omega)) (Nat.le_of_ble_eq_true rfl) (Nat.le_of_ble_eq_true rfl) dX9_copyTo_40 (fun H locs hP hD hS => ?_)
        obtain ⟨f_20, ef_20⟩ : ∃ y : Nat → va_E, y = va_up f_6 o2 (.inl (cI, 8, .inl (va_cpy g_19 g_11 (Int32.toNatClampNeg x_17) (Int32.toNatClampNeg p3) (Int32.toNatClampNeg x_5)))) := ⟨_, rfl⟩
        have hP : va_P (dC, dI) vwCl (va_pl L f_20) H := by rw [ef_20]; exact hP
        have hD : va_D (fun q => q ∈ L) (va_pl L f_20) := by rw [ef_20]; exact hD
        have hG : GI (okc cI cL cZ cR L kd) kd L f_20 := by rw [ef_20]; exact hG.set o2 (mk_27 ko2 ⟨_, rfl, okI_cpy (fun j => by have := hbg_19 j; constructor <;> omega) hbg_11 _ _ _⟩)
        have hfo_21 : f_20 o0 = .inr (9, [.ref a_14, .ref a_15, .int v_16]) := by rw [ef_20, up_ne (kd_ne ko2 ko0 (by decide))]; exact hfo_13
        have hfo_22 : f_20 a_14 = .inl (cI, 64, .inl g_19) := by rw [ef_20, up_ne (kd_ne ko2 ka_14 (by decide))]; exact hfo_18
        have hfo_23 : f_20 o2 = .inl (cI, 8, .inl (va_cpy g_19 g_11 (Int32.toNatClampNeg x_17) (Int32.toNatClampNeg p3) (Int32.toNatClampNeg x_5))) := by rw [ef_20]; exact up_self
        refine lv_iload_n hx hb dX9_copyTo_43 rfl (lv_at hl 4 rfl) ?_
        refine lv_iload hx hb dX9_copyTo_44 (lv_at hl 0 rfl) ?_
        refine lv_iadd hx hb dX9_copyTo_46 ?_
        refine lv_topi (fun x_24 ex_24 => ?_)
        have hx_24 : x_24.toInt = p3.toInt + x_5.toInt := by rw [ex_24, ad_I (by omega) (by omega)]
        have bx_24 : (1 ≤ x_24.toInt ∧ x_24.toInt ≤ 20) := by constructor <;> omega
        exact W.iret (v := x_24) hx hb hr (fun t ht hW => ⟨⟨x_24, f_20, rfl, ⟨hG, (by constructor <;> omega)⟩, by rw [ht]; exact hP, va_K.moved hW.alike hK, pl_in hD⟩, hS.F ht⟩) hS.2.2 dX9_copyTo_47
      · skip
        rw [Int32.le_iff_toInt_le, ti_8] at c_12
        refine lv_iload_n hx hb dX9_copyTo_26 rfl (lv_at hl 4 rfl) ?_
        exact W.iret (v := p3) hx hb hr (fun t ht hW => ⟨⟨p3, f_6, rfl, ⟨hG, (by constructor <;> omega)⟩, by rw [ht]; exact hP, va_K.moved hW.alike hK, pl_in hD⟩, hS.F ht⟩) hS.2.2 dX9_copyTo_27
set_option maxHeartbeats 8000000 in
set_option maxRecDepth 100000 in
theorem s_X9_copyTo_k13_k25 (l : Launch) (D : va_G) (cI cL cZ cR : ClassId) (kd : Nat → Nat) (L : List Nat) (f : Nat → va_E) (hG : GI (okc cI cL cZ cR L kd) kd L f) (o0 : Nat) (mo0 : o0 ∈ L) (ko0 : kd o0 = 13) (p1 : Int32) (o2 : Nat) (mo2 : o2 ∈ L) (ko2 : kd o2 = 25) (p3 : Int32) (bp3 : (0 ≤ p3.toInt ∧ p3.toInt ≤ 12)) : mPI l D cI cL cZ cR yX9_copyTo cX9_copyTo 5 (some .int) 1 40 [.ref o0, .int p1, .ref o2, .int p3] L f (fun (r : Int32) (f9 : Nat → va_E) => GI (okc cI cL cZ cR L kd) kd L f9 ∧ (0 ≤ r.toInt ∧ r.toInt ≤ 20)) := by
  obtain ⟨dC, dI⟩ := D
  refine Met.ofW (cc := cX9_copyTo) (maxL := 5) (ret := (some .int)) (by decide) rfl ?_
  intro p e s m args below meth c s₁ B hml hv
  obtain ⟨rfl, hP, hK, hD0, hN⟩ := hv
  have hx := B.exec
  have hb := B.bytes
  have hr := B.returns
  have hU : ∀ w ∈ wsU, w.before _ s = true := fun w h => atoms_spec (ws := wU yX9_copyTo cX9_copyTo 5 (some .int)) B.pre w (List.mem_cons_of_mem _ h)
  have hown : s.vm.findClass RX9 = some m.cls := findClass_of_methodNamed B.named
  have hlocks := B.notSynchronized
  have hD := pl_in hD0
  have hS : va_S (fun q => q ∈ L) s.heap s.heap [] := va_S.rf
  have hl := lv_entry ([.ref o0, .int p1, .ref o2, .int p3]) (n := 5) (Nat.le_of_ble_eq_true rfl)
  rw [lg_entry_eq]
  generalize (lg_sl ([.ref o0, .int p1, .ref o2, .int p3]) ++ List.replicate (5 - (lg_sl ([.ref o0, .int p1, .ref o2, .int p3])).length) Slot.unset).toArray = ls at hl ⊢
  have hl : lv_has ls 5 [(0, .ref o0), (1, .int p1), (2, .ref o2), (3, .int p3)] := hl
  have bp1 : ((-2147483648) ≤ p1.toInt ∧ p1.toInt ≤ 2147483647) := ⟨i32_lo _, i32_hi _⟩
  refine lv_aload_n hx hb dX9_copyTo_0 rfl (lv_at hl 0 rfl) ?_
  refine lv_iload_n hx hb dX9_copyTo_1 rfl (lv_at hl 1 rfl) ?_
  obtain ⟨a_2, a_3, v_4, hfo_1, ⟨ma_2, ka_2⟩, ⟨ma_3, ka_3⟩, bv_4⟩ := un_13 (hG _ mo0) ko0
  refine tk_ViP (As := [.int p1]) (rest := []) (n := 1) hx hb hml hown hU hN (s_X9_lengthOf_k13 l (dC, dI) cI cL cZ cR kd L f hG o0 mo0 ko0 p1) wd_1010 wd_1011 wd_1012 wd_85 wd_1013 (by decide +kernel) ⟨Nat.le_of_ble_eq_true rfl, Nat.le_of_ble_eq_true rfl⟩ hK hP hD hS mo0 hfo_1 9 rfl rfl rfl hl.1 rfl (Nat.le_of_ble_eq_true rfl) dX9_copyTo_2 ⟨Nat.le_of_ble_eq_true rfl, Nat.le_of_ble_eq_true rfl⟩ (fun x_5 f_6 H locs hw hP hD hS => ?_)
  obtain ⟨hG, bx_5, relx_5⟩ := hw
  refine lv_istore (lv' := [(4, .int x_5), (0, .ref o0), (1, .int p1), (2, .ref o2), (3, .int p3)]) hx hb dX9_copyTo_5 hl (by decide) rfl (fun ls hl => ?_)
  refine lv_iload hx hb dX9_copyTo_7 (lv_at hl 0 rfl) ?_
  refine lv_iconst (v := 1) hx hb dX9_copyTo_9 (by decide) ?_
  refine lv_icmp_lt (tgt := 26) hx hb dX9_copyTo_10 (by decide) (fun c_7 => ?_) (fun c_7 => ?_)
  · skip
    rw [Int32.lt_iff_toInt_lt, ti_1] at c_7
    refine lv_iload_n hx hb dX9_copyTo_26 rfl (lv_at hl 4 rfl) ?_
    exact W.iret (v := p3) hx hb hr (fun t ht hW => ⟨⟨p3, f_6, rfl, ⟨hG, (by constructor <;> omega)⟩, by rw [ht]; exact hP, va_K.moved hW.alike hK, pl_in hD⟩, hS.F ht⟩) hS.2.2 dX9_copyTo_27
  · skip
    rw [Int32.lt_iff_toInt_lt, ti_1] at c_7
    refine lv_iload_n hx hb dX9_copyTo_13 rfl (lv_at hl 4 rfl) ?_
    refine lv_if_lt (tgt := 26) hx hb dX9_copyTo_14 (by decide) (fun c_8 => ?_) (fun c_8 => ?_)
    · skip
      rw [Int32.lt_iff_toInt_lt, ti_0] at c_8
      exfalso
      omega
    · skip
      rw [Int32.lt_iff_toInt_lt, ti_0] at c_8
      refine lv_iload_n hx hb dX9_copyTo_17 rfl (lv_at hl 4 rfl) ?_
      refine lv_iload hx hb dX9_copyTo_18 (lv_at hl 0 rfl) ?_
      refine lv_iadd hx hb dX9_copyTo_20 ?_
      refine lv_topi (fun x_9 ex_9 => ?_)
      have hx_9 : x_9.toInt = p3.toInt + x_5.toInt := by rw [ex_9, ad_I (by omega) (by omega)]
      have bx_9 : (1 ≤ x_9.toInt ∧ x_9.toInt ≤ 20) := by constructor <;> omega
      refine lv_aload_n hx hb dX9_copyTo_21 rfl (lv_at hl 3 rfl) ?_
      obtain ⟨g_11, hfo_10, hbg_11⟩ := un_25 (hG _ mo2) ko2
      refine tk_alenP (v := 12) hx hb hK hP 0 mo2 hfo_10 rfl rfl dX9_copyTo_22 ?_
      refine lv_icmp_le (tgt := 28) hx hb dX9_copyTo_23 (by decide) (fun c_12 => ?_) (fun c_12 => ?_)
      · skip
        rw [Int32.le_iff_toInt_le, ti_12] at c_12
        refine lv_aload_n hx hb dX9_copyTo_28 rfl (lv_at hl 1 rfl) ?_
        obtain ⟨a_14, a_15, v_16, hfo_13, ⟨ma_14, ka_14⟩, ⟨ma_15, ka_15⟩, bv_16⟩ := un_13 (hG _ mo0) ko0
        refine tk_getP (D := (dC, dI)) (ci := 9) (v := .ref a_14) (C := RX9) (T := TX9) (N := 3) hx hb hU inlX9 hown hK hP mo0 hfo_13 rfl 0 (by decide) (hU _ wd_95) (fun _ h9 => h9) rfl dX9_copyTo_29 ?_
        refine lv_iload_n hx hb dX9_copyTo_32 rfl (lv_at hl 2 rfl) ?_
        refine lv_bipush (v := 8) hx hb dX9_copyTo_33 (by decide) ?_
        refine lv_imul hx hb dX9_copyTo_35 ?_
        refine lv_topi (fun x_17 ex_17 => ?_)
        have hx_17 : x_17.toInt = p1.toInt * 8 := by rw [ex_17, ml_I (by rw [ti_8]; omega) (by rw [ti_8]; omega), ti_8]
        have bx_17 : (0 ≤ x_17.toInt ∧ x_17.toInt ≤ 56) := by constructor <;> omega
        refine lv_aload_n hx hb dX9_copyTo_36 rfl (lv_at hl 3 rfl) ?_
        refine lv_iload_n hx hb dX9_copyTo_37 rfl (lv_at hl 4 rfl) ?_
        refine lv_iload hx hb dX9_copyTo_38 (lv_at hl 0 rfl) ?_
        obtain ⟨g_19, hfo_18, hbg_19⟩ := un_26 (hG _ ma_14) ka_14
        refine tk_copyP hx hb (by rw [hml]; exact hl.1.symm) hown (hU _ wd_548) (hU _ wd_253) (hU _ wd_254) (hU _ wd_255) hK hP hD hS 0 ma_14 mo2 hfo_18 hfo_10 rfl (by rw [Int32.lt_iff_toInt_lt, ti_0]; omega) (by rw [Int32.lt_iff_toInt_lt, ti_0]; omega) (by rw [Int32.lt_iff_toInt_lt, ti_0]; omega) (cp_ok (by omega) (by omega) (by omega)) (cp_ok (by omega) (by omega) (by omega)) (Nat.le_of_ble_eq_true rfl) (Nat.le_of_ble_eq_true rfl) dX9_copyTo_40 (fun H locs hP hD hS => ?_)
        obtain ⟨f_20, ef_20⟩ : ∃ y : Nat → va_E, y = va_up f_6 o2 (.inl (cI, 12, .inl (va_cpy g_19 g_11 (Int32.toNatClampNeg x_17) (Int32.toNatClampNeg p3) (Int32.toNatClampNeg x_5)))) := ⟨_, rfl⟩
        have hP : va_P (dC, dI) vwCl (va_pl L f_20) H := by rw [ef_20]; exact hP
        have hD : va_D (fun q => q ∈ L) (va_pl L f_20) := by rw [ef_20]; exact hD
        have hG : GI (okc cI cL cZ cR L kd) kd L f_20 := by rw [ef_20]; exact hG.set o2 (mk_25 ko2 ⟨_, rfl, okI_cpy (fun j => by have := hbg_19 j; constructor <;> omega) hbg_11 _ _ _⟩)
        have hfo_21 : f_20 o0 = .inr (9, [.ref a_14, .ref a_15, .int v_16]) := by rw [ef_20, up_ne (kd_ne ko2 ko0 (by decide))]; exact hfo_13
        have hfo_22 : f_20 a_14 = .inl (cI, 64, .inl g_19) := by rw [ef_20, up_ne (kd_ne ko2 ka_14 (by decide))]; exact hfo_18
        have hfo_23 : f_20 o2 = .inl (cI, 12, .inl (va_cpy g_19 g_11 (Int32.toNatClampNeg x_17) (Int32.toNatClampNeg p3) (Int32.toNatClampNeg x_5))) := by rw [ef_20]; exact up_self
        refine lv_iload_n hx hb dX9_copyTo_43 rfl (lv_at hl 4 rfl) ?_
        refine lv_iload hx hb dX9_copyTo_44 (lv_at hl 0 rfl) ?_
        refine lv_iadd hx hb dX9_copyTo_46 ?_
        refine lv_topi (fun x_24 ex_24 => ?_)
        have hx_24 : x_24.toInt = p3.toInt + x_5.toInt := by rw [ex_24, ad_I (by omega) (by omega)]
        have bx_24 : (1 ≤ x_24.toInt ∧ x_24.toInt ≤ 20) := by constructor <;> omega
        exact W.iret (v := x_24) hx hb hr (fun t ht hW => ⟨⟨x_24, f_20, rfl, ⟨hG, (by constructor <;> omega)⟩, by rw [ht]; exact hP, va_K.moved hW.alike hK, pl_in hD⟩, hS.F ht⟩) hS.2.2 dX9_copyTo_47
      · skip
        rw [Int32.le_iff_toInt_le, ti_12] at c_12
        refine lv_iload_n hx hb dX9_copyTo_26 rfl (lv_at hl 4 rfl) ?_
        exact W.iret (v := p3) hx hb hr (fun t ht hW => ⟨⟨p3, f_6, rfl, ⟨hG, (by constructor <;> omega)⟩, by rw [ht]; exact hP, va_K.moved hW.alike hK, pl_in hD⟩, hS.F ht⟩) hS.2.2 dX9_copyTo_27
set_option maxHeartbeats 8000000 in
set_option maxRecDepth 100000 in
theorem s_X5_clear_k5 (l : Launch) (D : va_G) (cI cL cZ cR : ClassId) (kd : Nat → Nat) (L : List Nat) (f : Nat → va_E) (hG : GI (okc cI cL cZ cR L kd) kd L f) (o0 : Nat) (mo0 : o0 ∈ L) (ko0 : kd o0 = 5) : mPV l D cI cL cZ cR yX5_clear cX5_clear 1 none 1 23 [.ref o0] L f (fun (f9 : Nat → va_E) => GI (okc cI cL cZ cR L kd) kd L f9) := by
  obtain ⟨dC, dI⟩ := D
  refine Met.ofW (cc := cX5_clear) (maxL := 1) (ret := none) (by decide) rfl ?_
  intro p e s m args below meth c s₁ B hml hv
  obtain ⟨rfl, hP, hK, hD0, hN⟩ := hv
  have hx := B.exec
  have hb := B.bytes
  have hr := B.returns
  have hU : ∀ w ∈ wsU, w.before _ s = true := fun w h => atoms_spec (ws := wU yX5_clear cX5_clear 1 none) B.pre w (List.mem_cons_of_mem _ h)
  have hown : s.vm.findClass RX5 = some m.cls := findClass_of_methodNamed B.named
  have hlocks := B.notSynchronized
  have hD := pl_in hD0
  have hS : va_S (fun q => q ∈ L) s.heap s.heap [] := va_S.rf
  have hl := lv_entry ([.ref o0]) (n := 1) (Nat.le_of_ble_eq_true rfl)
  rw [lg_entry_eq]
  generalize (lg_sl ([.ref o0]) ++ List.replicate (1 - (lg_sl ([.ref o0])).length) Slot.unset).toArray = ls at hl ⊢
  have hl : lv_has ls 1 [(0, .ref o0)] := hl
  refine lv_aload_n hx hb dX5_clear_0 rfl (lv_at hl 0 rfl) ?_
  obtain ⟨a_2, a_3, a_4, v_5, v_6, v_7, hfo_1, ⟨ma_2, ka_2⟩, ⟨ma_3, ka_3⟩, ⟨ma_4, ka_4⟩⟩ := un_5 (hG _ mo0) ko0
  have bv_5 : ((-2147483648) ≤ v_5.toInt ∧ v_5.toInt ≤ 2147483647) := ⟨i32_lo _, i32_hi _⟩
  have bv_6 : ((-2147483648) ≤ v_6.toInt ∧ v_6.toInt ≤ 2147483647) := ⟨i32_lo _, i32_hi _⟩
  have bv_7 : ((-2147483648) ≤ v_7.toInt ∧ v_7.toInt ≤ 2147483647) := ⟨i32_lo _, i32_hi _⟩
  refine tk_getP (D := (dC, dI)) (ci := 5) (v := .ref a_2) (C := RX5) (T := TX5) (N := 6) hx hb hU inlX5 hown hK hP mo0 hfo_1 rfl 0 (by decide) (hU _ wd_110) (fun _ h9 => h9) rfl dX5_clear_1 ?_
  refine lv_iconst (v := 0) hx hb dX5_clear_4 (by decide) ?_
  refine tk_SvP (As := [.ref a_2, .int 0]) (rest := []) (n := 2) hx hb hml hown hU hN (s_J7_fill_53178_k20 l (dC, dI) cI cL cZ cR kd L f hG a_2 ma_2 ka_2 0 (by decide)) wd_418 wd_266 wd_267 wd_268 (by decide +kernel) ⟨Nat.le_of_ble_eq_true rfl, Nat.le_of_ble_eq_true rfl⟩ hK hP hD hS rfl hl.1 rfl (Nat.le_of_ble_eq_true rfl) dX5_clear_5 ⟨Nat.le_of_ble_eq_true rfl, Nat.le_of_ble_eq_true rfl⟩ (fun f_9 H locs hw hP hD hS => ?_)
  have hG : GI (okc cI cL cZ cR L kd) kd L f_9 := hw
  refine lv_aload_n hx hb dX5_clear_8 rfl (lv_at hl 0 rfl) ?_
  obtain ⟨a_11, a_12, a_13, v_14, v_15, v_16, hfo_10, ⟨ma_11, ka_11⟩, ⟨ma_12, ka_12⟩, ⟨ma_13, ka_13⟩⟩ := un_5 (hG _ mo0) ko0
  have bv_14 : ((-2147483648) ≤ v_14.toInt ∧ v_14.toInt ≤ 2147483647) := ⟨i32_lo _, i32_hi _⟩
  have bv_15 : ((-2147483648) ≤ v_15.toInt ∧ v_15.toInt ≤ 2147483647) := ⟨i32_lo _, i32_hi _⟩
  have bv_16 : ((-2147483648) ≤ v_16.toInt ∧ v_16.toInt ≤ 2147483647) := ⟨i32_lo _, i32_hi _⟩
  refine tk_getP (D := (dC, dI)) (ci := 5) (v := .ref a_12) (C := RX5) (T := TX5) (N := 6) hx hb hU inlX5 hown hK hP mo0 hfo_10 rfl 1 (by decide) (hU _ wd_111) (fun _ h9 => h9) rfl dX5_clear_9 ?_
  refine lv_iconst (v := 0) hx hb dX5_clear_12 (by decide) ?_
  refine tk_SvP (As := [.ref a_12, .int 0]) (rest := []) (n := 2) hx hb hml hown hU hN (s_J7_fill_53178_k20 l (dC, dI) cI cL cZ cR kd L f_9 hG a_12 ma_12 ka_12 0 (by decide)) wd_418 wd_266 wd_267 wd_268 (by decide +kernel) ⟨Nat.le_of_ble_eq_true rfl, Nat.le_of_ble_eq_true rfl⟩ hK hP hD hS rfl hl.1 rfl (Nat.le_of_ble_eq_true rfl) dX5_clear_13 ⟨Nat.le_of_ble_eq_true rfl, Nat.le_of_ble_eq_true rfl⟩ (fun f_18 H locs hw hP hD hS => ?_)
  have hG : GI (okc cI cL cZ cR L kd) kd L f_18 := hw
  refine lv_aload_n hx hb dX5_clear_16 rfl (lv_at hl 0 rfl) ?_
  obtain ⟨a_20, a_21, a_22, v_23, v_24, v_25, hfo_19, ⟨ma_20, ka_20⟩, ⟨ma_21, ka_21⟩, ⟨ma_22, ka_22⟩⟩ := un_5 (hG _ mo0) ko0
  have bv_23 : ((-2147483648) ≤ v_23.toInt ∧ v_23.toInt ≤ 2147483647) := ⟨i32_lo _, i32_hi _⟩
  have bv_24 : ((-2147483648) ≤ v_24.toInt ∧ v_24.toInt ≤ 2147483647) := ⟨i32_lo _, i32_hi _⟩
  have bv_25 : ((-2147483648) ≤ v_25.toInt ∧ v_25.toInt ≤ 2147483647) := ⟨i32_lo _, i32_hi _⟩
  refine tk_getP (D := (dC, dI)) (ci := 5) (v := .ref a_22) (C := RX5) (T := TX5) (N := 6) hx hb hU inlX5 hown hK hP mo0 hfo_19 rfl 2 (by decide) (hU _ wd_112) (fun _ h9 => h9) rfl dX5_clear_17 ?_
  refine lv_iconst (v := 0) hx hb dX5_clear_20 (by decide) ?_
  refine tk_SvP (As := [.ref a_22, .int 0]) (rest := []) (n := 2) hx hb hml hown hU hN (s_J7_fill_53178_k21 l (dC, dI) cI cL cZ cR kd L f_18 hG a_22 ma_22 ka_22 0 (by decide)) wd_418 wd_266 wd_267 wd_268 (by decide +kernel) ⟨Nat.le_of_ble_eq_true rfl, Nat.le_of_ble_eq_true rfl⟩ hK hP hD hS rfl hl.1 rfl (Nat.le_of_ble_eq_true rfl) dX5_clear_21 ⟨Nat.le_of_ble_eq_true rfl, Nat.le_of_ble_eq_true rfl⟩ (fun f_27 H locs hw hP hD hS => ?_)
  have hG : GI (okc cI cL cZ cR L kd) kd L f_27 := hw
  refine lv_aload_n hx hb dX5_clear_24 rfl (lv_at hl 0 rfl) ?_
  refine lv_iconst (v := 0) hx hb dX5_clear_25 (by decide) ?_
  obtain ⟨a_29, a_30, a_31, v_32, v_33, v_34, hfo_28, ⟨ma_29, ka_29⟩, ⟨ma_30, ka_30⟩, ⟨ma_31, ka_31⟩⟩ := un_5 (hG _ mo0) ko0
  have bv_32 : ((-2147483648) ≤ v_32.toInt ∧ v_32.toInt ≤ 2147483647) := ⟨i32_lo _, i32_hi _⟩
  have bv_33 : ((-2147483648) ≤ v_33.toInt ∧ v_33.toInt ≤ 2147483647) := ⟨i32_lo _, i32_hi _⟩
  have bv_34 : ((-2147483648) ≤ v_34.toInt ∧ v_34.toInt ≤ 2147483647) := ⟨i32_lo _, i32_hi _⟩
  refine tk_putP (D := (dC, dI)) (ci := 5) (v := .int 0) (ty := .int) (C := RX5) (T := TX5) (N := 6) hx hb hU inlX5 tyX5 tyX5_ok nmX5 hown hK hP hD hS mo0 hfo_28 rfl 3 (by decide) (hU _ wd_415) (fun _ h9 => h9) rfl (by decide +kernel) rfl rfl (Nat.le_of_ble_eq_true rfl) dX5_clear_26 (fun H locs hP hD hS => ?_)
  obtain ⟨f_35, ef_35⟩ : ∃ y : Nat → va_E, y = va_up f_27 o0 (.inr (5, [.ref a_29, .ref a_30, .ref a_31, .int 0, .int v_33, .int v_34])) := ⟨_, rfl⟩
  have hP : va_P (dC, dI) vwCl (va_pl L f_35) H := by rw [ef_35]; exact hP
  have hD : va_D (fun q => q ∈ L) (va_pl L f_35) := by rw [ef_35]; exact hD
  have hG : GI (okc cI cL cZ cR L kd) kd L f_35 := by rw [ef_35]; exact hG.set o0 (mk_5 ko0 ⟨a_29, a_30, a_31, 0, v_33, v_34, rfl, ⟨ma_29, ka_29⟩, ⟨ma_30, ka_30⟩, ⟨ma_31, ka_31⟩⟩)
  have hfo_36 : f_35 o0 = .inr (5, [.ref a_29, .ref a_30, .ref a_31, .int 0, .int v_33, .int v_34]) := by rw [ef_35]; exact up_self
  refine lv_aload_n hx hb dX5_clear_29 rfl (lv_at hl 0 rfl) ?_
  refine lv_iconst (v := 0) hx hb dX5_clear_30 (by decide) ?_
  refine tk_putP (D := (dC, dI)) (ci := 5) (v := .int 0) (ty := .int) (C := RX5) (T := TX5) (N := 6) hx hb hU inlX5 tyX5 tyX5_ok nmX5 hown hK hP hD hS mo0 hfo_36 rfl 4 (by decide) (hU _ wd_416) (fun _ h9 => h9) rfl (by decide +kernel) rfl rfl (Nat.le_of_ble_eq_true rfl) dX5_clear_31 (fun H locs hP hD hS => ?_)
  obtain ⟨f_37, ef_37⟩ : ∃ y : Nat → va_E, y = va_up f_35 o0 (.inr (5, [.ref a_29, .ref a_30, .ref a_31, .int 0, .int 0, .int v_34])) := ⟨_, rfl⟩
  have hP : va_P (dC, dI) vwCl (va_pl L f_37) H := by rw [ef_37]; exact hP
  have hD : va_D (fun q => q ∈ L) (va_pl L f_37) := by rw [ef_37]; exact hD
  have hG : GI (okc cI cL cZ cR L kd) kd L f_37 := by rw [ef_37]; exact hG.set o0 (mk_5 ko0 ⟨a_29, a_30, a_31, 0, 0, v_34, rfl, ⟨ma_29, ka_29⟩, ⟨ma_30, ka_30⟩, ⟨ma_31, ka_31⟩⟩)
  have hfo_38 : f_37 o0 = .inr (5, [.ref a_29, .ref a_30, .ref a_31, .int 0, .int 0, .int v_34]) := by rw [ef_37]; exact up_self
  refine lv_aload_n hx hb dX5_clear_34 rfl (lv_at hl 0 rfl) ?_
  refine lv_iconst (v := 0) hx hb dX5_clear_35 (by decide) ?_
  refine tk_putP (D := (dC, dI)) (ci := 5) (v := .int 0) (ty := .int) (C := RX5) (T := TX5) (N := 6) hx hb hU inlX5 tyX5 tyX5_ok nmX5 hown hK hP hD hS mo0 hfo_38 rfl 5 (by decide) (hU _ wd_417) (fun _ h9 => h9) rfl (by decide +kernel) rfl rfl (Nat.le_of_ble_eq_true rfl) dX5_clear_36 (fun H locs hP hD hS => ?_)
  obtain ⟨f_39, ef_39⟩ : ∃ y : Nat → va_E, y = va_up f_37 o0 (.inr (5, [.ref a_29, .ref a_30, .ref a_31, .int 0, .int 0, .int 0])) := ⟨_, rfl⟩
  have hP : va_P (dC, dI) vwCl (va_pl L f_39) H := by rw [ef_39]; exact hP
  have hD : va_D (fun q => q ∈ L) (va_pl L f_39) := by rw [ef_39]; exact hD
  have hG : GI (okc cI cL cZ cR L kd) kd L f_39 := by rw [ef_39]; exact hG.set o0 (mk_5 ko0 ⟨a_29, a_30, a_31, 0, 0, 0, rfl, ⟨ma_29, ka_29⟩, ⟨ma_30, ka_30⟩, ⟨ma_31, ka_31⟩⟩)
  have hfo_40 : f_39 o0 = .inr (5, [.ref a_29, .ref a_30, .ref a_31, .int 0, .int 0, .int 0]) := by rw [ef_39]; exact up_self
  exact W.vret hx hb hr (fun t ht hW => ⟨⟨f_39, rfl, hG, by rw [ht]; exact hP, va_K.moved hW.alike hK, pl_in hD⟩, hS.F ht⟩) hS.2.2 dX5_clear_39
set_option maxHeartbeats 8000000 in
set_option maxRecDepth 100000 in
theorem s_X5_copyFrom_k5_k5 (l : Launch) (D : va_G) (cI cL cZ cR : ClassId) (kd : Nat → Nat) (L : List Nat) (f : Nat → va_E) (hG : GI (okc cI cL cZ cR L kd) kd L f) (o0 : Nat) (mo0 : o0 ∈ L) (ko0 : kd o0 = 5) (o1 : Nat) (mo1 : o1 ∈ L) (ko1 : kd o1 = 5) : mPV l D cI cL cZ cR yX5_copyFrom cX5_copyFrom 2 none 1 40 [.ref o0, .ref o1] L f (fun (f9 : Nat → va_E) => GI (okc cI cL cZ cR L kd) kd L f9) := by
  obtain ⟨dC, dI⟩ := D
  refine Met.ofW (cc := cX5_copyFrom) (maxL := 2) (ret := none) (by decide) rfl ?_
  intro p e s m args below meth c s₁ B hml hv
  obtain ⟨rfl, hP, hK, hD0, hN⟩ := hv
  have hx := B.exec
  have hb := B.bytes
  have hr := B.returns
  have hU : ∀ w ∈ wsU, w.before _ s = true := fun w h => atoms_spec (ws := wU yX5_copyFrom cX5_copyFrom 2 none) B.pre w (List.mem_cons_of_mem _ h)
  have hown : s.vm.findClass RX5 = some m.cls := findClass_of_methodNamed B.named
  have hlocks := B.notSynchronized
  have hD := pl_in hD0
  have hS : va_S (fun q => q ∈ L) s.heap s.heap [] := va_S.rf
  have hl := lv_entry ([.ref o0, .ref o1]) (n := 2) (Nat.le_of_ble_eq_true rfl)
  rw [lg_entry_eq]
  generalize (lg_sl ([.ref o0, .ref o1]) ++ List.replicate (2 - (lg_sl ([.ref o0, .ref o1])).length) Slot.unset).toArray = ls at hl ⊢
  have hl : lv_has ls 2 [(0, .ref o0), (1, .ref o1)] := hl
  refine lv_aload_n hx hb dX5_copyFrom_0 rfl (lv_at hl 1 rfl) ?_
  obtain ⟨a_2, a_3, a_4, v_5, v_6, v_7, hfo_1, ⟨ma_2, ka_2⟩, ⟨ma_3, ka_3⟩, ⟨ma_4, ka_4⟩⟩ := un_5 (hG _ mo1) ko1
  have bv_5 : ((-2147483648) ≤ v_5.toInt ∧ v_5.toInt ≤ 2147483647) := ⟨i32_lo _, i32_hi _⟩
  have bv_6 : ((-2147483648) ≤ v_6.toInt ∧ v_6.toInt ≤ 2147483647) := ⟨i32_lo _, i32_hi _⟩
  have bv_7 : ((-2147483648) ≤ v_7.toInt ∧ v_7.toInt ≤ 2147483647) := ⟨i32_lo _, i32_hi _⟩
  refine tk_getP (D := (dC, dI)) (ci := 5) (v := .ref a_2) (C := RX5) (T := TX5) (N := 6) hx hb hU inlX5 hown hK hP mo1 hfo_1 rfl 0 (by decide) (hU _ wd_110) (fun _ h9 => h9) rfl dX5_copyFrom_1 ?_
  refine lv_iconst (v := 0) hx hb dX5_copyFrom_4 (by decide) ?_
  refine lv_aload_n hx hb dX5_copyFrom_5 rfl (lv_at hl 0 rfl) ?_
  obtain ⟨a_9, a_10, a_11, v_12, v_13, v_14, hfo_8, ⟨ma_9, ka_9⟩, ⟨ma_10, ka_10⟩, ⟨ma_11, ka_11⟩⟩ := un_5 (hG _ mo0) ko0
  have bv_12 : ((-2147483648) ≤ v_12.toInt ∧ v_12.toInt ≤ 2147483647) := ⟨i32_lo _, i32_hi _⟩
  have bv_13 : ((-2147483648) ≤ v_13.toInt ∧ v_13.toInt ≤ 2147483647) := ⟨i32_lo _, i32_hi _⟩
  have bv_14 : ((-2147483648) ≤ v_14.toInt ∧ v_14.toInt ≤ 2147483647) := ⟨i32_lo _, i32_hi _⟩
  refine tk_getP (D := (dC, dI)) (ci := 5) (v := .ref a_9) (C := RX5) (T := TX5) (N := 6) hx hb hU inlX5 hown hK hP mo0 hfo_8 rfl 0 (by decide) (hU _ wd_110) (fun _ h9 => h9) rfl dX5_copyFrom_6 ?_
  refine lv_iconst (v := 0) hx hb dX5_copyFrom_9 (by decide) ?_
  refine lv_aload_n hx hb dX5_copyFrom_10 rfl (lv_at hl 0 rfl) ?_
  refine tk_getP (D := (dC, dI)) (ci := 5) (v := .ref a_9) (C := RX5) (T := TX5) (N := 6) hx hb hU inlX5 hown hK hP mo0 hfo_8 rfl 0 (by decide) (hU _ wd_110) (fun _ h9 => h9) rfl dX5_copyFrom_11 ?_
  obtain ⟨g_16, hfo_15, hbg_16⟩ := un_20 (hG _ ma_9) ka_9
  refine tk_alenP (v := 18) hx hb hK hP 0 ma_9 hfo_15 rfl rfl dX5_copyFrom_14 ?_
  obtain ⟨g_18, hfo_17, hbg_18⟩ := un_20 (hG _ ma_2) ka_2
  refine tk_copyP hx hb (by rw [hml]; exact hl.1.symm) hown (hU _ wd_466) (hU _ wd_253) (hU _ wd_254) (hU _ wd_255) hK hP hD hS 0 ma_2 ma_9 hfo_17 hfo_15 rfl (by decide) (by decide) (by decide) (by decide) (by decide) (Nat.le_of_ble_eq_true rfl) (Nat.le_of_ble_eq_true rfl) dX5_copyFrom_15 (fun H locs hP hD hS => ?_)
  obtain ⟨f_19, ef_19⟩ : ∃ y : Nat → va_E, y = va_up f a_9 (.inl (cI, 18, .inl (va_cpy g_18 g_16 (Int32.toNatClampNeg 0) (Int32.toNatClampNeg 0) (Int32.toNatClampNeg 18)))) := ⟨_, rfl⟩
  have hP : va_P (dC, dI) vwCl (va_pl L f_19) H := by rw [ef_19]; exact hP
  have hD : va_D (fun q => q ∈ L) (va_pl L f_19) := by rw [ef_19]; exact hD
  have hG : GI (okc cI cL cZ cR L kd) kd L f_19 := by rw [ef_19]; exact hG.set a_9 (mk_20 ka_9 ⟨_, rfl, okI_cpy (fun j => by have := hbg_18 j; constructor <;> omega) hbg_16 _ _ _⟩)
  have hfo_20 : f_19 o1 = .inr (5, [.ref a_2, .ref a_3, .ref a_4, .int v_5, .int v_6, .int v_7]) := by rw [ef_19, up_ne (kd_ne ka_9 ko1 (by decide))]; exact hfo_1
  have hfo_21 : f_19 o0 = .inr (5, [.ref a_9, .ref a_10, .ref a_11, .int v_12, .int v_13, .int v_14]) := by rw [ef_19, up_ne (kd_ne ka_9 ko0 (by decide))]; exact hfo_8
  have hfo_22 : f_19 a_9 = .inl (cI, 18, .inl (va_cpy g_18 g_16 (Int32.toNatClampNeg 0) (Int32.toNatClampNeg 0) (Int32.toNatClampNeg 18))) := by rw [ef_19]; exact up_self
  refine lv_aload_n hx hb dX5_copyFrom_18 rfl (lv_at hl 1 rfl) ?_
  refine tk_getP (D := (dC, dI)) (ci := 5) (v := .ref a_3) (C := RX5) (T := TX5) (N := 6) hx hb hU inlX5 hown hK hP mo1 hfo_20 rfl 1 (by decide) (hU _ wd_111) (fun _ h9 => h9) rfl dX5_copyFrom_19 ?_
  refine lv_iconst (v := 0) hx hb dX5_copyFrom_22 (by decide) ?_
  refine lv_aload_n hx hb dX5_copyFrom_23 rfl (lv_at hl 0 rfl) ?_
  refine tk_getP (D := (dC, dI)) (ci := 5) (v := .ref a_10) (C := RX5) (T := TX5) (N := 6) hx hb hU inlX5 hown hK hP mo0 hfo_21 rfl 1 (by decide) (hU _ wd_111) (fun _ h9 => h9) rfl dX5_copyFrom_24 ?_
  refine lv_iconst (v := 0) hx hb dX5_copyFrom_27 (by decide) ?_
  refine lv_aload_n hx hb dX5_copyFrom_28 rfl (lv_at hl 0 rfl) ?_
  refine tk_getP (D := (dC, dI)) (ci := 5) (v := .ref a_10) (C := RX5) (T := TX5) (N := 6) hx hb hU inlX5 hown hK hP mo0 hfo_21 rfl 1 (by decide) (hU _ wd_111) (fun _ h9 => h9) rfl dX5_copyFrom_29 ?_
  obtain ⟨g_24, hfo_23, hbg_24⟩ := un_20 (hG _ ma_10) ka_10
  refine tk_alenP (v := 18) hx hb hK hP 0 ma_10 hfo_23 rfl rfl dX5_copyFrom_32 ?_
  obtain ⟨g_26, hfo_25, hbg_26⟩ := un_20 (hG _ ma_3) ka_3
  refine tk_copyP hx hb (by rw [hml]; exact hl.1.symm) hown (hU _ wd_466) (hU _ wd_253) (hU _ wd_254) (hU _ wd_255) hK hP hD hS 0 ma_3 ma_10 hfo_25 hfo_23 rfl (by decide) (by decide) (by decide) (by decide) (by decide) (Nat.le_of_ble_eq_true rfl) (Nat.le_of_ble_eq_true rfl) dX5_copyFrom_33 (fun H locs hP hD hS => ?_)
  obtain ⟨f_27, ef_27⟩ : ∃ y : Nat → va_E, y = va_up f_19 a_10 (.inl (cI, 18, .inl (va_cpy g_26 g_24 (Int32.toNatClampNeg 0) (Int32.toNatClampNeg 0) (Int32.toNatClampNeg 18)))) := ⟨_, rfl⟩
  have hP : va_P (dC, dI) vwCl (va_pl L f_27) H := by rw [ef_27]; exact hP
  have hD : va_D (fun q => q ∈ L) (va_pl L f_27) := by rw [ef_27]; exact hD
  have hG : GI (okc cI cL cZ cR L kd) kd L f_27 := by rw [ef_27]; exact hG.set a_10 (mk_20 ka_10 ⟨_, rfl, okI_cpy (fun j => by have := hbg_26 j; constructor <;> omega) hbg_24 _ _ _⟩)
  have hfo_28 : f_27 o1 = .inr (5, [.ref a_2, .ref a_3, .ref a_4, .int v_5, .int v_6, .int v_7]) := by rw [ef_27, up_ne (kd_ne ka_10 ko1 (by decide))]; exact hfo_20
  have hfo_29 : f_27 o0 = .inr (5, [.ref a_9, .ref a_10, .ref a_11, .int v_12, .int v_13, .int v_14]) := by rw [ef_27, up_ne (kd_ne ka_10 ko0 (by decide))]; exact hfo_21
  have hfo_30 : f_27 a_10 = .inl (cI, 18, .inl (va_cpy g_26 g_24 (Int32.toNatClampNeg 0) (Int32.toNatClampNeg 0) (Int32.toNatClampNeg 18))) := by rw [ef_27]; exact up_self
  refine lv_aload_n hx hb dX5_copyFrom_36 rfl (lv_at hl 1 rfl) ?_
  refine tk_getP (D := (dC, dI)) (ci := 5) (v := .ref a_4) (C := RX5) (T := TX5) (N := 6) hx hb hU inlX5 hown hK hP mo1 hfo_28 rfl 2 (by decide) (hU _ wd_112) (fun _ h9 => h9) rfl dX5_copyFrom_37 ?_
  refine lv_iconst (v := 0) hx hb dX5_copyFrom_40 (by decide) ?_
  refine lv_aload_n hx hb dX5_copyFrom_41 rfl (lv_at hl 0 rfl) ?_
  refine tk_getP (D := (dC, dI)) (ci := 5) (v := .ref a_11) (C := RX5) (T := TX5) (N := 6) hx hb hU inlX5 hown hK hP mo0 hfo_29 rfl 2 (by decide) (hU _ wd_112) (fun _ h9 => h9) rfl dX5_copyFrom_42 ?_
  refine lv_iconst (v := 0) hx hb dX5_copyFrom_45 (by decide) ?_
  refine lv_aload_n hx hb dX5_copyFrom_46 rfl (lv_at hl 0 rfl) ?_
  refine tk_getP (D := (dC, dI)) (ci := 5) (v := .ref a_11) (C := RX5) (T := TX5) (N := 6) hx hb hU inlX5 hown hK hP mo0 hfo_29 rfl 2 (by decide) (hU _ wd_112) (fun _ h9 => h9) rfl dX5_copyFrom_47 ?_
  obtain ⟨g_32, hfo_31, hbg_32⟩ := un_21 (hG _ ma_11) ka_11
  refine tk_alenP (v := 20) hx hb hK hP 0 ma_11 hfo_31 rfl rfl dX5_copyFrom_50 ?_
  obtain ⟨g_34, hfo_33, hbg_34⟩ := un_21 (hG _ ma_4) ka_4
  refine tk_copyP hx hb (by rw [hml]; exact hl.1.symm) hown (hU _ wd_466) (hU _ wd_253) (hU _ wd_254) (hU _ wd_255) hK hP hD hS 0 ma_4 ma_11 hfo_33 hfo_31 rfl (by decide) (by decide) (by decide) (by decide) (by decide) (Nat.le_of_ble_eq_true rfl) (Nat.le_of_ble_eq_true rfl) dX5_copyFrom_51 (fun H locs hP hD hS => ?_)
  obtain ⟨f_35, ef_35⟩ : ∃ y : Nat → va_E, y = va_up f_27 a_11 (.inl (cI, 20, .inl (va_cpy g_34 g_32 (Int32.toNatClampNeg 0) (Int32.toNatClampNeg 0) (Int32.toNatClampNeg 20)))) := ⟨_, rfl⟩
  have hP : va_P (dC, dI) vwCl (va_pl L f_35) H := by rw [ef_35]; exact hP
  have hD : va_D (fun q => q ∈ L) (va_pl L f_35) := by rw [ef_35]; exact hD
  have hG : GI (okc cI cL cZ cR L kd) kd L f_35 := by rw [ef_35]; exact hG.set a_11 (mk_21 ka_11 ⟨_, rfl, okI_cpy (fun j => by have := hbg_34 j; constructor <;> omega) hbg_32 _ _ _⟩)
  have hfo_36 : f_35 o1 = .inr (5, [.ref a_2, .ref a_3, .ref a_4, .int v_5, .int v_6, .int v_7]) := by rw [ef_35, up_ne (kd_ne ka_11 ko1 (by decide))]; exact hfo_28
  have hfo_37 : f_35 o0 = .inr (5, [.ref a_9, .ref a_10, .ref a_11, .int v_12, .int v_13, .int v_14]) := by rw [ef_35, up_ne (kd_ne ka_11 ko0 (by decide))]; exact hfo_29
  have hfo_38 : f_35 a_11 = .inl (cI, 20, .inl (va_cpy g_34 g_32 (Int32.toNatClampNeg 0) (Int32.toNatClampNeg 0) (Int32.toNatClampNeg 20))) := by rw [ef_35]; exact up_self
  refine lv_aload_n hx hb dX5_copyFrom_54 rfl (lv_at hl 0 rfl) ?_
  refine lv_aload_n hx hb dX5_copyFrom_55 rfl (lv_at hl 1 rfl) ?_
  refine tk_getP (D := (dC, dI)) (ci := 5) (v := .int v_5) (C := RX5) (T := TX5) (N := 6) hx hb hU inlX5 hown hK hP mo1 hfo_36 rfl 3 (by decide) (hU _ wd_415) (fun _ h9 => h9) rfl dX5_copyFrom_56 ?_
  refine tk_putP (D := (dC, dI)) (ci := 5) (v := .int v_5) (ty := .int) (C := RX5) (T := TX5) (N := 6) hx hb hU inlX5 tyX5 tyX5_ok nmX5 hown hK hP hD hS mo0 hfo_37 rfl 3 (by decide) (hU _ wd_415) (fun _ h9 => h9) rfl (by decide +kernel) rfl rfl (Nat.le_of_ble_eq_true rfl) dX5_copyFrom_59 (fun H locs hP hD hS => ?_)
  obtain ⟨f_39, ef_39⟩ : ∃ y : Nat → va_E, y = va_up f_35 o0 (.inr (5, [.ref a_9, .ref a_10, .ref a_11, .int v_5, .int v_13, .int v_14])) := ⟨_, rfl⟩
  have hP : va_P (dC, dI) vwCl (va_pl L f_39) H := by rw [ef_39]; exact hP
  have hD : va_D (fun q => q ∈ L) (va_pl L f_39) := by rw [ef_39]; exact hD
  have hG : GI (okc cI cL cZ cR L kd) kd L f_39 := by rw [ef_39]; exact hG.set o0 (mk_5 ko0 ⟨a_9, a_10, a_11, v_5, v_13, v_14, rfl, ⟨ma_9, ka_9⟩, ⟨ma_10, ka_10⟩, ⟨ma_11, ka_11⟩⟩)
  have hfo_40 : f_39 o0 = .inr (5, [.ref a_9, .ref a_10, .ref a_11, .int v_5, .int v_13, .int v_14]) := by rw [ef_39]; exact up_self
  refine lv_aload_n hx hb dX5_copyFrom_62 rfl (lv_at hl 0 rfl) ?_
  refine lv_aload_n hx hb dX5_copyFrom_63 rfl (lv_at hl 1 rfl) ?_
  obtain ⟨a_42, a_43, a_44, v_45, v_46, v_47, hfo_41, ⟨ma_42, ka_42⟩, ⟨ma_43, ka_43⟩, ⟨ma_44, ka_44⟩⟩ := un_5 (hG _ mo1) ko1
  have bv_45 : ((-2147483648) ≤ v_45.toInt ∧ v_45.toInt ≤ 2147483647) := ⟨i32_lo _, i32_hi _⟩
  have bv_46 : ((-2147483648) ≤ v_46.toInt ∧ v_46.toInt ≤ 2147483647) := ⟨i32_lo _, i32_hi _⟩
  have bv_47 : ((-2147483648) ≤ v_47.toInt ∧ v_47.toInt ≤ 2147483647) := ⟨i32_lo _, i32_hi _⟩
  refine tk_getP (D := (dC, dI)) (ci := 5) (v := .int v_46) (C := RX5) (T := TX5) (N := 6) hx hb hU inlX5 hown hK hP mo1 hfo_41 rfl 4 (by decide) (hU _ wd_416) (fun _ h9 => h9) rfl dX5_copyFrom_64 ?_
  refine tk_putP (D := (dC, dI)) (ci := 5) (v := .int v_46) (ty := .int) (C := RX5) (T := TX5) (N := 6) hx hb hU inlX5 tyX5 tyX5_ok nmX5 hown hK hP hD hS mo0 hfo_40 rfl 4 (by decide) (hU _ wd_416) (fun _ h9 => h9) rfl (by decide +kernel) rfl rfl (Nat.le_of_ble_eq_true rfl) dX5_copyFrom_67 (fun H locs hP hD hS => ?_)
  obtain ⟨f_48, ef_48⟩ : ∃ y : Nat → va_E, y = va_up f_39 o0 (.inr (5, [.ref a_9, .ref a_10, .ref a_11, .int v_5, .int v_46, .int v_14])) := ⟨_, rfl⟩
  have hP : va_P (dC, dI) vwCl (va_pl L f_48) H := by rw [ef_48]; exact hP
  have hD : va_D (fun q => q ∈ L) (va_pl L f_48) := by rw [ef_48]; exact hD
  have hG : GI (okc cI cL cZ cR L kd) kd L f_48 := by rw [ef_48]; exact hG.set o0 (mk_5 ko0 ⟨a_9, a_10, a_11, v_5, v_46, v_14, rfl, ⟨ma_9, ka_9⟩, ⟨ma_10, ka_10⟩, ⟨ma_11, ka_11⟩⟩)
  have hfo_49 : f_48 o0 = .inr (5, [.ref a_9, .ref a_10, .ref a_11, .int v_5, .int v_46, .int v_14]) := by rw [ef_48]; exact up_self
  refine lv_aload_n hx hb dX5_copyFrom_70 rfl (lv_at hl 0 rfl) ?_
  refine lv_aload_n hx hb dX5_copyFrom_71 rfl (lv_at hl 1 rfl) ?_
  obtain ⟨a_51, a_52, a_53, v_54, v_55, v_56, hfo_50, ⟨ma_51, ka_51⟩, ⟨ma_52, ka_52⟩, ⟨ma_53, ka_53⟩⟩ := un_5 (hG _ mo1) ko1
  have bv_54 : ((-2147483648) ≤ v_54.toInt ∧ v_54.toInt ≤ 2147483647) := ⟨i32_lo _, i32_hi _⟩
  have bv_55 : ((-2147483648) ≤ v_55.toInt ∧ v_55.toInt ≤ 2147483647) := ⟨i32_lo _, i32_hi _⟩
  have bv_56 : ((-2147483648) ≤ v_56.toInt ∧ v_56.toInt ≤ 2147483647) := ⟨i32_lo _, i32_hi _⟩
  refine tk_getP (D := (dC, dI)) (ci := 5) (v := .int v_56) (C := RX5) (T := TX5) (N := 6) hx hb hU inlX5 hown hK hP mo1 hfo_50 rfl 5 (by decide) (hU _ wd_417) (fun _ h9 => h9) rfl dX5_copyFrom_72 ?_
  refine tk_putP (D := (dC, dI)) (ci := 5) (v := .int v_56) (ty := .int) (C := RX5) (T := TX5) (N := 6) hx hb hU inlX5 tyX5 tyX5_ok nmX5 hown hK hP hD hS mo0 hfo_49 rfl 5 (by decide) (hU _ wd_417) (fun _ h9 => h9) rfl (by decide +kernel) rfl rfl (Nat.le_of_ble_eq_true rfl) dX5_copyFrom_75 (fun H locs hP hD hS => ?_)
  obtain ⟨f_57, ef_57⟩ : ∃ y : Nat → va_E, y = va_up f_48 o0 (.inr (5, [.ref a_9, .ref a_10, .ref a_11, .int v_5, .int v_46, .int v_56])) := ⟨_, rfl⟩
  have hP : va_P (dC, dI) vwCl (va_pl L f_57) H := by rw [ef_57]; exact hP
  have hD : va_D (fun q => q ∈ L) (va_pl L f_57) := by rw [ef_57]; exact hD
  have hG : GI (okc cI cL cZ cR L kd) kd L f_57 := by rw [ef_57]; exact hG.set o0 (mk_5 ko0 ⟨a_9, a_10, a_11, v_5, v_46, v_56, rfl, ⟨ma_9, ka_9⟩, ⟨ma_10, ka_10⟩, ⟨ma_11, ka_11⟩⟩)
  have hfo_58 : f_57 o0 = .inr (5, [.ref a_9, .ref a_10, .ref a_11, .int v_5, .int v_46, .int v_56]) := by rw [ef_57]; exact up_self
  exact W.vret hx hb hr (fun t ht hW => ⟨⟨f_57, rfl, hG, by rw [ht]; exact hP, va_K.moved hW.alike hK, pl_in hD⟩, hS.F ht⟩) hS.2.2 dX5_copyFrom_78
