set_option maxHeartbeats 8000000 in
set_option maxRecDepth 100000 in
theorem s_X9_copyFrom_k13_k213 (l : Launch) (D : va_G) (cI cL cZ cR cG cH : ClassId) (Z : zT) (kd : Nat → Nat) (L : List Nat) (f : Nat → va_E) (hG : GI (okc cI cL cZ cR cG cH L kd) kd L f) (o0 : Nat) (mo0 : o0 ∈ L) (ko0 : kd o0 = 13) (o1 : Nat) (mo1 : o1 ∈ L) (ko1 : kd o1 = 213) : mPV l D cI cL cZ cR cG cH Z yX9_copyFrom cX9_copyFrom 2 none 1 40 [.ref o0, .ref o1] L f (fun (f9 : Nat → va_E) => GI (okc cI cL cZ cR cG cH L kd) kd L f9 ∧ (∀ b, kd b ≠ 13 → kd b ≠ 506 → kd b ≠ 507 → f9 b = f b)) := by
  obtain ⟨dC, dI⟩ := D
  refine Met.ofW (cc := cX9_copyFrom) (maxL := 2) (ret := none) (by decide) rfl ?_
  intro p e s m args below meth c s₁ B hml hv
  obtain ⟨rfl, hP, hK, hD0, hN, hZ⟩ := hv
  have hx := B.exec
  have hb := B.bytes
  have hr := B.returns
  have hU : ∀ w ∈ wsU, w.before _ s = true := fun w h => atoms_spec (ws := wU yX9_copyFrom cX9_copyFrom 2 none) B.pre w (List.mem_cons_of_mem _ h)
  have hown : s.vm.findClass RX9 = some m.cls := findClass_of_methodNamed B.named
  have hlocks := B.notSynchronized
  have hD := pl_in hD0
  have hS : va_S (fun q => q ∈ L) s.heap s.heap [] := va_S.rf
  have hl := lv_entry ([.ref o0, .ref o1]) (n := 2) (Nat.le_of_ble_eq_true rfl)
  rw [lg_entry_eq]
  generalize (lg_sl ([.ref o0, .ref o1]) ++ List.replicate (2 - (lg_sl ([.ref o0, .ref o1])).length) Slot.unset).toArray = ls at hl ⊢
  have hl : lv_has ls 2 [(0, .ref o0), (1, .ref o1)] := hl
  have hfr0 : ∀ b, kd b ≠ 13 → kd b ≠ 506 → kd b ≠ 507 → f b = f b := fun _ _ _ _ => rfl
  refine lv_aload_n hx hb dX9_copyFrom_0 rfl (lv_at hl 1 rfl) ?_
  obtain ⟨a_2, a_3, v_4, hfo_1, ⟨ma_2, ka_2⟩, ⟨ma_3, ka_3⟩, bv_4⟩ := un_213 (hG _ mo1) ko1
  refine tk_getP (D := (dC, dI)) (ci := 9) (v := .ref a_2) (C := RX9) (T := TX9) (N := 3) hx hb hU inlX9 hown hK hP mo1 hfo_1 rfl 0 (by decide) (hU _ wd_95) (fun _ h9 => h9) rfl dX9_copyFrom_1 ?_
  obtain ⟨g_6, hfo_5, hbg_6⟩ := un_564 (hG _ ma_2) ka_2
  refine tk_alenP (v := 64) hx hb hK hP 0 ma_2 hfo_5 rfl rfl dX9_copyFrom_4 ?_
  refine lv_aload_n hx hb dX9_copyFrom_5 rfl (lv_at hl 0 rfl) ?_
  obtain ⟨a_8, a_9, v_10, hfo_7, ⟨ma_8, ka_8⟩, ⟨ma_9, ka_9⟩, bv_10⟩ := un_13 (hG _ mo0) ko0
  refine tk_getP (D := (dC, dI)) (ci := 9) (v := .ref a_8) (C := RX9) (T := TX9) (N := 3) hx hb hU inlX9 hown hK hP mo0 hfo_7 rfl 0 (by decide) (hU _ wd_95) (fun _ h9 => h9) rfl dX9_copyFrom_6 ?_
  obtain ⟨g_12, hfo_11, hbg_12⟩ := un_506 (hG _ ma_8) ka_8
  refine tk_alenP (v := 64) hx hb hK hP 0 ma_8 hfo_11 rfl rfl dX9_copyFrom_9 ?_
  refine lv_icmp_ne (tgt := 57) hx hb dX9_copyFrom_10 (by decide) (fun c9 => absurd (by decide) c9) (fun _ => ?_)
  refine lv_aload_n hx hb dX9_copyFrom_13 rfl (lv_at hl 1 rfl) ?_
  refine tk_getP (D := (dC, dI)) (ci := 9) (v := .ref a_2) (C := RX9) (T := TX9) (N := 3) hx hb hU inlX9 hown hK hP mo1 hfo_1 rfl 0 (by decide) (hU _ wd_95) (fun _ h9 => h9) rfl dX9_copyFrom_14 ?_
  refine lv_iconst (v := 0) hx hb dX9_copyFrom_17 (by decide) ?_
  refine lv_aload_n hx hb dX9_copyFrom_18 rfl (lv_at hl 0 rfl) ?_
  refine tk_getP (D := (dC, dI)) (ci := 9) (v := .ref a_8) (C := RX9) (T := TX9) (N := 3) hx hb hU inlX9 hown hK hP mo0 hfo_7 rfl 0 (by decide) (hU _ wd_95) (fun _ h9 => h9) rfl dX9_copyFrom_19 ?_
  refine lv_iconst (v := 0) hx hb dX9_copyFrom_22 (by decide) ?_
  refine lv_aload_n hx hb dX9_copyFrom_23 rfl (lv_at hl 0 rfl) ?_
  refine tk_getP (D := (dC, dI)) (ci := 9) (v := .ref a_8) (C := RX9) (T := TX9) (N := 3) hx hb hU inlX9 hown hK hP mo0 hfo_7 rfl 0 (by decide) (hU _ wd_95) (fun _ h9 => h9) rfl dX9_copyFrom_24 ?_
  refine tk_alenP (v := 64) hx hb hK hP 0 ma_8 hfo_11 rfl rfl dX9_copyFrom_27 ?_
  refine tk_copyP hx hb (by rw [hml]; exact hl.1.symm) hown (hU _ wd_548) (hU _ wd_253) (hU _ wd_254) (hU _ wd_255) hK hP hD hS 0 ma_2 ma_8 hfo_5 hfo_11 rfl (by decide) (by decide) (by decide) (by decide) (by decide) (Nat.le_of_ble_eq_true rfl) (Nat.le_of_ble_eq_true rfl) dX9_copyFrom_28 (fun H locs hP hD hS => ?_)
  obtain ⟨f_14, ef_14⟩ : ∃ y : Nat → va_E, y = va_up f a_8 (.inl (cI, 64, .inl (va_cpy g_6 g_12 (Int32.toNatClampNeg 0) (Int32.toNatClampNeg 0) (Int32.toNatClampNeg 64)))) := ⟨_, rfl⟩
  have hP : va_P (dC, dI) vwCl (va_pl L f_14) H := by rw [ef_14]; exact hP
  have hD : va_D (fun q => q ∈ L) (va_pl L f_14) := by rw [ef_14]; exact hD
  have hG : GI (okc cI cL cZ cR cG cH L kd) kd L f_14 := by rw [ef_14]; exact hG.set a_8 (mk_506 ka_8 ⟨_, rfl, okI_cpy (fun j => by have := hbg_6 j; constructor <;> omega) hbg_12 _ _ _⟩)
  have hfo_15 : f_14 o1 = .inr (9, [.ref a_2, .ref a_3, .int v_4]) := by rw [ef_14, up_ne (kd_ne ka_8 ko1 (by decide))]; exact hfo_1
  have hfo_16 : f_14 a_2 = .inl (cI, 64, .inl g_6) := by rw [ef_14, up_ne (kd_ne ka_8 ka_2 (by decide))]; exact hfo_5
  have hfo_17 : f_14 o0 = .inr (9, [.ref a_8, .ref a_9, .int v_10]) := by rw [ef_14, up_ne (kd_ne ka_8 ko0 (by decide))]; exact hfo_7
  have hfr0 : ∀ b, kd b ≠ 13 → kd b ≠ 506 → kd b ≠ 507 → f_14 b = f b := fun b q13 q506 q507 => (congrFun ef_14 b).trans ((up_ne (fun e9 => q506 (by rw [e9]; exact ka_8))).trans (hfr0 b q13 q506 q507))
  have hfo_18 : f_14 a_8 = .inl (cI, 64, .inl (va_cpy g_6 g_12 (Int32.toNatClampNeg 0) (Int32.toNatClampNeg 0) (Int32.toNatClampNeg 64))) := by rw [ef_14]; exact up_self
  refine lv_aload_n hx hb dX9_copyFrom_31 rfl (lv_at hl 1 rfl) ?_
  refine tk_getP (D := (dC, dI)) (ci := 9) (v := .ref a_3) (C := RX9) (T := TX9) (N := 3) hx hb hU inlX9 hown hK hP mo1 hfo_15 rfl 1 (by decide) (hU _ wd_96) (fun _ h9 => h9) rfl dX9_copyFrom_32 ?_
  refine lv_iconst (v := 0) hx hb dX9_copyFrom_35 (by decide) ?_
  refine lv_aload_n hx hb dX9_copyFrom_36 rfl (lv_at hl 0 rfl) ?_
  refine tk_getP (D := (dC, dI)) (ci := 9) (v := .ref a_9) (C := RX9) (T := TX9) (N := 3) hx hb hU inlX9 hown hK hP mo0 hfo_17 rfl 1 (by decide) (hU _ wd_96) (fun _ h9 => h9) rfl dX9_copyFrom_37 ?_
  refine lv_iconst (v := 0) hx hb dX9_copyFrom_40 (by decide) ?_
  refine lv_aload_n hx hb dX9_copyFrom_41 rfl (lv_at hl 0 rfl) ?_
  refine tk_getP (D := (dC, dI)) (ci := 9) (v := .ref a_9) (C := RX9) (T := TX9) (N := 3) hx hb hU inlX9 hown hK hP mo0 hfo_17 rfl 1 (by decide) (hU _ wd_96) (fun _ h9 => h9) rfl dX9_copyFrom_42 ?_
  obtain ⟨g_20, hfo_19, hbg_20⟩ := un_507 (hG _ ma_9) ka_9
  refine tk_alenP (v := 8) hx hb hK hP 0 ma_9 hfo_19 rfl rfl dX9_copyFrom_45 ?_
  obtain ⟨g_22, hfo_21, hbg_22⟩ := un_565 (hG _ ma_3) ka_3
  refine tk_copyP hx hb (by rw [hml]; exact hl.1.symm) hown (hU _ wd_548) (hU _ wd_253) (hU _ wd_254) (hU _ wd_255) hK hP hD hS 0 ma_3 ma_9 hfo_21 hfo_19 rfl (by decide) (by decide) (by decide) (by decide) (by decide) (Nat.le_of_ble_eq_true rfl) (Nat.le_of_ble_eq_true rfl) dX9_copyFrom_46 (fun H locs hP hD hS => ?_)
  obtain ⟨f_24, ef_24⟩ : ∃ y : Nat → va_E, y = va_up f_14 a_9 (.inl (cI, 8, .inl (va_cpy g_22 g_20 (Int32.toNatClampNeg 0) (Int32.toNatClampNeg 0) (Int32.toNatClampNeg 8)))) := ⟨_, rfl⟩
  have hP : va_P (dC, dI) vwCl (va_pl L f_24) H := by rw [ef_24]; exact hP
  have hD : va_D (fun q => q ∈ L) (va_pl L f_24) := by rw [ef_24]; exact hD
  have hG : GI (okc cI cL cZ cR cG cH L kd) kd L f_24 := by rw [ef_24]; exact hG.set a_9 (mk_507 ka_9 ⟨_, rfl, okI_cpy (fun j => by have := hbg_22 j; constructor <;> omega) hbg_20 _ _ _⟩)
  have hfo_25 : f_24 o1 = .inr (9, [.ref a_2, .ref a_3, .int v_4]) := by rw [ef_24, up_ne (kd_ne ka_9 ko1 (by decide))]; exact hfo_15
  have hfo_26 : f_24 a_2 = .inl (cI, 64, .inl g_6) := by rw [ef_24, up_ne (kd_ne ka_9 ka_2 (by decide))]; exact hfo_16
  have hfo_27 : f_24 o0 = .inr (9, [.ref a_8, .ref a_9, .int v_10]) := by rw [ef_24, up_ne (kd_ne ka_9 ko0 (by decide))]; exact hfo_17
  have hfo_28 : f_24 a_3 = .inl (cI, 8, .inl g_22) := by rw [ef_24, up_ne (kd_ne ka_9 ka_3 (by decide))]; exact hfo_21
  have hfr0 : ∀ b, kd b ≠ 13 → kd b ≠ 506 → kd b ≠ 507 → f_24 b = f b := fun b q13 q506 q507 => (congrFun ef_24 b).trans ((up_ne (fun e9 => q507 (by rw [e9]; exact ka_9))).trans (hfr0 b q13 q506 q507))
  have hfo_29 : f_24 a_9 = .inl (cI, 8, .inl (va_cpy g_22 g_20 (Int32.toNatClampNeg 0) (Int32.toNatClampNeg 0) (Int32.toNatClampNeg 8))) := by rw [ef_24]; exact up_self
  refine lv_aload_n hx hb dX9_copyFrom_49 rfl (lv_at hl 0 rfl) ?_
  refine lv_aload_n hx hb dX9_copyFrom_50 rfl (lv_at hl 1 rfl) ?_
  refine tk_getP (D := (dC, dI)) (ci := 9) (v := .int v_4) (C := RX9) (T := TX9) (N := 3) hx hb hU inlX9 hown hK hP mo1 hfo_25 rfl 2 (by decide) (hU _ wd_273) (fun _ h9 => h9) rfl dX9_copyFrom_51 ?_
  refine tk_putP (D := (dC, dI)) (ci := 9) (v := .int v_4) (ty := .int) (C := RX9) (T := TX9) (N := 3) hx hb hU inlX9 tyX9 tyX9_ok nmX9 hown hK hP hD hS mo0 hfo_27 rfl 2 (by decide) (hU _ wd_273) (fun _ h9 => h9) rfl (by decide +kernel) rfl rfl (Nat.le_of_ble_eq_true rfl) dX9_copyFrom_54 (fun H locs hP hD hS => ?_)
  obtain ⟨f_31, ef_31⟩ : ∃ y : Nat → va_E, y = va_up f_24 o0 (.inr (9, [.ref a_8, .ref a_9, .int v_4])) := ⟨_, rfl⟩
  have hP : va_P (dC, dI) vwCl (va_pl L f_31) H := by rw [ef_31]; exact hP
  have hD : va_D (fun q => q ∈ L) (va_pl L f_31) := by rw [ef_31]; exact hD
  have hG : GI (okc cI cL cZ cR cG cH L kd) kd L f_31 := by rw [ef_31]; exact hG.set o0 (mk_13 ko0 ⟨a_8, a_9, v_4, rfl, ⟨ma_8, ka_8⟩, ⟨ma_9, ka_9⟩, (by constructor <;> omega)⟩)
  have hfo_32 : f_31 o1 = .inr (9, [.ref a_2, .ref a_3, .int v_4]) := by rw [ef_31, up_ne (kd_ne ko0 ko1 (by decide))]; exact hfo_25
  have hfo_33 : f_31 a_2 = .inl (cI, 64, .inl g_6) := by rw [ef_31, up_ne (kd_ne ko0 ka_2 (by decide))]; exact hfo_26
  have hfo_34 : f_31 a_3 = .inl (cI, 8, .inl g_22) := by rw [ef_31, up_ne (kd_ne ko0 ka_3 (by decide))]; exact hfo_28
  have hfr0 : ∀ b, kd b ≠ 13 → kd b ≠ 506 → kd b ≠ 507 → f_31 b = f b := fun b q13 q506 q507 => (congrFun ef_31 b).trans ((up_ne (fun e9 => q13 (by rw [e9]; exact ko0))).trans (hfr0 b q13 q506 q507))
  have hfo_35 : f_31 o0 = .inr (9, [.ref a_8, .ref a_9, .int v_4]) := by rw [ef_31]; exact up_self
  exact W.vret hx hb hr (fun t ht hW => ⟨⟨f_31, rfl, ⟨hG, hfr0⟩, by rw [ht]; exact hP, va_K.moved hW.alike hK, pl_in hD⟩, hS.F ht⟩) hS.2.2 dX9_copyFrom_57
set_option maxHeartbeats 8000000 in
set_option maxRecDepth 100000 in
theorem s_X9_copyFrom_k113_k13 (l : Launch) (D : va_G) (cI cL cZ cR cG cH : ClassId) (Z : zT) (kd : Nat → Nat) (L : List Nat) (f : Nat → va_E) (hG : GI (okc cI cL cZ cR cG cH L kd) kd L f) (o0 : Nat) (mo0 : o0 ∈ L) (ko0 : kd o0 = 113) (o1 : Nat) (mo1 : o1 ∈ L) (ko1 : kd o1 = 13) : mPV l D cI cL cZ cR cG cH Z yX9_copyFrom cX9_copyFrom 2 none 1 40 [.ref o0, .ref o1] L f (fun (f9 : Nat → va_E) => GI (okc cI cL cZ cR cG cH L kd) kd L f9 ∧ (∀ b, kd b ≠ 113 → kd b ≠ 547 → kd b ≠ 548 → f9 b = f b)) := by
  obtain ⟨dC, dI⟩ := D
  refine Met.ofW (cc := cX9_copyFrom) (maxL := 2) (ret := none) (by decide) rfl ?_
  intro p e s m args below meth c s₁ B hml hv
  obtain ⟨rfl, hP, hK, hD0, hN, hZ⟩ := hv
  have hx := B.exec
  have hb := B.bytes
  have hr := B.returns
  have hU : ∀ w ∈ wsU, w.before _ s = true := fun w h => atoms_spec (ws := wU yX9_copyFrom cX9_copyFrom 2 none) B.pre w (List.mem_cons_of_mem _ h)
  have hown : s.vm.findClass RX9 = some m.cls := findClass_of_methodNamed B.named
  have hlocks := B.notSynchronized
  have hD := pl_in hD0
  have hS : va_S (fun q => q ∈ L) s.heap s.heap [] := va_S.rf
  have hl := lv_entry ([.ref o0, .ref o1]) (n := 2) (Nat.le_of_ble_eq_true rfl)
  rw [lg_entry_eq]
  generalize (lg_sl ([.ref o0, .ref o1]) ++ List.replicate (2 - (lg_sl ([.ref o0, .ref o1])).length) Slot.unset).toArray = ls at hl ⊢
  have hl : lv_has ls 2 [(0, .ref o0), (1, .ref o1)] := hl
  have hfr0 : ∀ b, kd b ≠ 113 → kd b ≠ 547 → kd b ≠ 548 → f b = f b := fun _ _ _ _ => rfl
  refine lv_aload_n hx hb dX9_copyFrom_0 rfl (lv_at hl 1 rfl) ?_
  obtain ⟨a_2, a_3, v_4, hfo_1, ⟨ma_2, ka_2⟩, ⟨ma_3, ka_3⟩, bv_4⟩ := un_13 (hG _ mo1) ko1
  refine tk_getP (D := (dC, dI)) (ci := 9) (v := .ref a_2) (C := RX9) (T := TX9) (N := 3) hx hb hU inlX9 hown hK hP mo1 hfo_1 rfl 0 (by decide) (hU _ wd_95) (fun _ h9 => h9) rfl dX9_copyFrom_1 ?_
  obtain ⟨g_6, hfo_5, hbg_6⟩ := un_506 (hG _ ma_2) ka_2
  refine tk_alenP (v := 64) hx hb hK hP 0 ma_2 hfo_5 rfl rfl dX9_copyFrom_4 ?_
  refine lv_aload_n hx hb dX9_copyFrom_5 rfl (lv_at hl 0 rfl) ?_
  obtain ⟨a_8, a_9, v_10, hfo_7, ⟨ma_8, ka_8⟩, ⟨ma_9, ka_9⟩, bv_10⟩ := un_113 (hG _ mo0) ko0
  refine tk_getP (D := (dC, dI)) (ci := 9) (v := .ref a_8) (C := RX9) (T := TX9) (N := 3) hx hb hU inlX9 hown hK hP mo0 hfo_7 rfl 0 (by decide) (hU _ wd_95) (fun _ h9 => h9) rfl dX9_copyFrom_6 ?_
  obtain ⟨g_12, hfo_11, hbg_12⟩ := un_547 (hG _ ma_8) ka_8
  refine tk_alenP (v := 64) hx hb hK hP 0 ma_8 hfo_11 rfl rfl dX9_copyFrom_9 ?_
  refine lv_icmp_ne (tgt := 57) hx hb dX9_copyFrom_10 (by decide) (fun c9 => absurd (by decide) c9) (fun _ => ?_)
  refine lv_aload_n hx hb dX9_copyFrom_13 rfl (lv_at hl 1 rfl) ?_
  refine tk_getP (D := (dC, dI)) (ci := 9) (v := .ref a_2) (C := RX9) (T := TX9) (N := 3) hx hb hU inlX9 hown hK hP mo1 hfo_1 rfl 0 (by decide) (hU _ wd_95) (fun _ h9 => h9) rfl dX9_copyFrom_14 ?_
  refine lv_iconst (v := 0) hx hb dX9_copyFrom_17 (by decide) ?_
  refine lv_aload_n hx hb dX9_copyFrom_18 rfl (lv_at hl 0 rfl) ?_
  refine tk_getP (D := (dC, dI)) (ci := 9) (v := .ref a_8) (C := RX9) (T := TX9) (N := 3) hx hb hU inlX9 hown hK hP mo0 hfo_7 rfl 0 (by decide) (hU _ wd_95) (fun _ h9 => h9) rfl dX9_copyFrom_19 ?_
  refine lv_iconst (v := 0) hx hb dX9_copyFrom_22 (by decide) ?_
  refine lv_aload_n hx hb dX9_copyFrom_23 rfl (lv_at hl 0 rfl) ?_
  refine tk_getP (D := (dC, dI)) (ci := 9) (v := .ref a_8) (C := RX9) (T := TX9) (N := 3) hx hb hU inlX9 hown hK hP mo0 hfo_7 rfl 0 (by decide) (hU _ wd_95) (fun _ h9 => h9) rfl dX9_copyFrom_24 ?_
  refine tk_alenP (v := 64) hx hb hK hP 0 ma_8 hfo_11 rfl rfl dX9_copyFrom_27 ?_
  refine tk_copyP hx hb (by rw [hml]; exact hl.1.symm) hown (hU _ wd_548) (hU _ wd_253) (hU _ wd_254) (hU _ wd_255) hK hP hD hS 0 ma_2 ma_8 hfo_5 hfo_11 rfl (by decide) (by decide) (by decide) (by decide) (by decide) (Nat.le_of_ble_eq_true rfl) (Nat.le_of_ble_eq_true rfl) dX9_copyFrom_28 (fun H locs hP hD hS => ?_)
  obtain ⟨f_14, ef_14⟩ : ∃ y : Nat → va_E, y = va_up f a_8 (.inl (cI, 64, .inl (va_cpy g_6 g_12 (Int32.toNatClampNeg 0) (Int32.toNatClampNeg 0) (Int32.toNatClampNeg 64)))) := ⟨_, rfl⟩
  have hP : va_P (dC, dI) vwCl (va_pl L f_14) H := by rw [ef_14]; exact hP
  have hD : va_D (fun q => q ∈ L) (va_pl L f_14) := by rw [ef_14]; exact hD
  have hG : GI (okc cI cL cZ cR cG cH L kd) kd L f_14 := by rw [ef_14]; exact hG.set a_8 (mk_547 ka_8 ⟨_, rfl, okI_cpy (fun j => by have := hbg_6 j; constructor <;> omega) hbg_12 _ _ _⟩)
  have hfo_15 : f_14 o1 = .inr (9, [.ref a_2, .ref a_3, .int v_4]) := by rw [ef_14, up_ne (kd_ne ka_8 ko1 (by decide))]; exact hfo_1
  have hfo_16 : f_14 a_2 = .inl (cI, 64, .inl g_6) := by rw [ef_14, up_ne (kd_ne ka_8 ka_2 (by decide))]; exact hfo_5
  have hfo_17 : f_14 o0 = .inr (9, [.ref a_8, .ref a_9, .int v_10]) := by rw [ef_14, up_ne (kd_ne ka_8 ko0 (by decide))]; exact hfo_7
  have hfr0 : ∀ b, kd b ≠ 113 → kd b ≠ 547 → kd b ≠ 548 → f_14 b = f b := fun b q113 q547 q548 => (congrFun ef_14 b).trans ((up_ne (fun e9 => q547 (by rw [e9]; exact ka_8))).trans (hfr0 b q113 q547 q548))
  have hfo_18 : f_14 a_8 = .inl (cI, 64, .inl (va_cpy g_6 g_12 (Int32.toNatClampNeg 0) (Int32.toNatClampNeg 0) (Int32.toNatClampNeg 64))) := by rw [ef_14]; exact up_self
  refine lv_aload_n hx hb dX9_copyFrom_31 rfl (lv_at hl 1 rfl) ?_
  refine tk_getP (D := (dC, dI)) (ci := 9) (v := .ref a_3) (C := RX9) (T := TX9) (N := 3) hx hb hU inlX9 hown hK hP mo1 hfo_15 rfl 1 (by decide) (hU _ wd_96) (fun _ h9 => h9) rfl dX9_copyFrom_32 ?_
  refine lv_iconst (v := 0) hx hb dX9_copyFrom_35 (by decide) ?_
  refine lv_aload_n hx hb dX9_copyFrom_36 rfl (lv_at hl 0 rfl) ?_
  refine tk_getP (D := (dC, dI)) (ci := 9) (v := .ref a_9) (C := RX9) (T := TX9) (N := 3) hx hb hU inlX9 hown hK hP mo0 hfo_17 rfl 1 (by decide) (hU _ wd_96) (fun _ h9 => h9) rfl dX9_copyFrom_37 ?_
  refine lv_iconst (v := 0) hx hb dX9_copyFrom_40 (by decide) ?_
  refine lv_aload_n hx hb dX9_copyFrom_41 rfl (lv_at hl 0 rfl) ?_
  refine tk_getP (D := (dC, dI)) (ci := 9) (v := .ref a_9) (C := RX9) (T := TX9) (N := 3) hx hb hU inlX9 hown hK hP mo0 hfo_17 rfl 1 (by decide) (hU _ wd_96) (fun _ h9 => h9) rfl dX9_copyFrom_42 ?_
  obtain ⟨g_20, hfo_19, hbg_20⟩ := un_548 (hG _ ma_9) ka_9
  refine tk_alenP (v := 8) hx hb hK hP 0 ma_9 hfo_19 rfl rfl dX9_copyFrom_45 ?_
  obtain ⟨g_22, hfo_21, hbg_22⟩ := un_507 (hG _ ma_3) ka_3
  refine tk_copyP hx hb (by rw [hml]; exact hl.1.symm) hown (hU _ wd_548) (hU _ wd_253) (hU _ wd_254) (hU _ wd_255) hK hP hD hS 0 ma_3 ma_9 hfo_21 hfo_19 rfl (by decide) (by decide) (by decide) (by decide) (by decide) (Nat.le_of_ble_eq_true rfl) (Nat.le_of_ble_eq_true rfl) dX9_copyFrom_46 (fun H locs hP hD hS => ?_)
  obtain ⟨f_24, ef_24⟩ : ∃ y : Nat → va_E, y = va_up f_14 a_9 (.inl (cI, 8, .inl (va_cpy g_22 g_20 (Int32.toNatClampNeg 0) (Int32.toNatClampNeg 0) (Int32.toNatClampNeg 8)))) := ⟨_, rfl⟩
  have hP : va_P (dC, dI) vwCl (va_pl L f_24) H := by rw [ef_24]; exact hP
  have hD : va_D (fun q => q ∈ L) (va_pl L f_24) := by rw [ef_24]; exact hD
  have hG : GI (okc cI cL cZ cR cG cH L kd) kd L f_24 := by rw [ef_24]; exact hG.set a_9 (mk_548 ka_9 ⟨_, rfl, okI_cpy (fun j => by have := hbg_22 j; constructor <;> omega) hbg_20 _ _ _⟩)
  have hfo_25 : f_24 o1 = .inr (9, [.ref a_2, .ref a_3, .int v_4]) := by rw [ef_24, up_ne (kd_ne ka_9 ko1 (by decide))]; exact hfo_15
  have hfo_26 : f_24 a_2 = .inl (cI, 64, .inl g_6) := by rw [ef_24, up_ne (kd_ne ka_9 ka_2 (by decide))]; exact hfo_16
  have hfo_27 : f_24 o0 = .inr (9, [.ref a_8, .ref a_9, .int v_10]) := by rw [ef_24, up_ne (kd_ne ka_9 ko0 (by decide))]; exact hfo_17
  have hfo_28 : f_24 a_3 = .inl (cI, 8, .inl g_22) := by rw [ef_24, up_ne (kd_ne ka_9 ka_3 (by decide))]; exact hfo_21
  have hfr0 : ∀ b, kd b ≠ 113 → kd b ≠ 547 → kd b ≠ 548 → f_24 b = f b := fun b q113 q547 q548 => (congrFun ef_24 b).trans ((up_ne (fun e9 => q548 (by rw [e9]; exact ka_9))).trans (hfr0 b q113 q547 q548))
  have hfo_29 : f_24 a_9 = .inl (cI, 8, .inl (va_cpy g_22 g_20 (Int32.toNatClampNeg 0) (Int32.toNatClampNeg 0) (Int32.toNatClampNeg 8))) := by rw [ef_24]; exact up_self
  refine lv_aload_n hx hb dX9_copyFrom_49 rfl (lv_at hl 0 rfl) ?_
  refine lv_aload_n hx hb dX9_copyFrom_50 rfl (lv_at hl 1 rfl) ?_
  refine tk_getP (D := (dC, dI)) (ci := 9) (v := .int v_4) (C := RX9) (T := TX9) (N := 3) hx hb hU inlX9 hown hK hP mo1 hfo_25 rfl 2 (by decide) (hU _ wd_273) (fun _ h9 => h9) rfl dX9_copyFrom_51 ?_
  refine tk_putP (D := (dC, dI)) (ci := 9) (v := .int v_4) (ty := .int) (C := RX9) (T := TX9) (N := 3) hx hb hU inlX9 tyX9 tyX9_ok nmX9 hown hK hP hD hS mo0 hfo_27 rfl 2 (by decide) (hU _ wd_273) (fun _ h9 => h9) rfl (by decide +kernel) rfl rfl (Nat.le_of_ble_eq_true rfl) dX9_copyFrom_54 (fun H locs hP hD hS => ?_)
  obtain ⟨f_31, ef_31⟩ : ∃ y : Nat → va_E, y = va_up f_24 o0 (.inr (9, [.ref a_8, .ref a_9, .int v_4])) := ⟨_, rfl⟩
  have hP : va_P (dC, dI) vwCl (va_pl L f_31) H := by rw [ef_31]; exact hP
  have hD : va_D (fun q => q ∈ L) (va_pl L f_31) := by rw [ef_31]; exact hD
  have hG : GI (okc cI cL cZ cR cG cH L kd) kd L f_31 := by rw [ef_31]; exact hG.set o0 (mk_113 ko0 ⟨a_8, a_9, v_4, rfl, ⟨ma_8, ka_8⟩, ⟨ma_9, ka_9⟩, (by constructor <;> omega)⟩)
  have hfo_32 : f_31 o1 = .inr (9, [.ref a_2, .ref a_3, .int v_4]) := by rw [ef_31, up_ne (kd_ne ko0 ko1 (by decide))]; exact hfo_25
  have hfo_33 : f_31 a_2 = .inl (cI, 64, .inl g_6) := by rw [ef_31, up_ne (kd_ne ko0 ka_2 (by decide))]; exact hfo_26
  have hfo_34 : f_31 a_3 = .inl (cI, 8, .inl g_22) := by rw [ef_31, up_ne (kd_ne ko0 ka_3 (by decide))]; exact hfo_28
  have hfr0 : ∀ b, kd b ≠ 113 → kd b ≠ 547 → kd b ≠ 548 → f_31 b = f b := fun b q113 q547 q548 => (congrFun ef_31 b).trans ((up_ne (fun e9 => q113 (by rw [e9]; exact ko0))).trans (hfr0 b q113 q547 q548))
  have hfo_35 : f_31 o0 = .inr (9, [.ref a_8, .ref a_9, .int v_4]) := by rw [ef_31]; exact up_self
  exact W.vret hx hb hr (fun t ht hW => ⟨⟨f_31, rfl, ⟨hG, hfr0⟩, by rw [ht]; exact hP, va_K.moved hW.alike hK, pl_in hD⟩, hS.F ht⟩) hS.2.2 dX9_copyFrom_57
set_option maxHeartbeats 8000000 in
set_option maxRecDepth 100000 in
theorem s_X9_copyFrom_k13_k113 (l : Launch) (D : va_G) (cI cL cZ cR cG cH : ClassId) (Z : zT) (kd : Nat → Nat) (L : List Nat) (f : Nat → va_E) (hG : GI (okc cI cL cZ cR cG cH L kd) kd L f) (o0 : Nat) (mo0 : o0 ∈ L) (ko0 : kd o0 = 13) (o1 : Nat) (mo1 : o1 ∈ L) (ko1 : kd o1 = 113) : mPV l D cI cL cZ cR cG cH Z yX9_copyFrom cX9_copyFrom 2 none 1 40 [.ref o0, .ref o1] L f (fun (f9 : Nat → va_E) => GI (okc cI cL cZ cR cG cH L kd) kd L f9 ∧ (∀ b, kd b ≠ 13 → kd b ≠ 506 → kd b ≠ 507 → f9 b = f b)) := by
  obtain ⟨dC, dI⟩ := D
  refine Met.ofW (cc := cX9_copyFrom) (maxL := 2) (ret := none) (by decide) rfl ?_
  intro p e s m args below meth c s₁ B hml hv
  obtain ⟨rfl, hP, hK, hD0, hN, hZ⟩ := hv
  have hx := B.exec
  have hb := B.bytes
  have hr := B.returns
  have hU : ∀ w ∈ wsU, w.before _ s = true := fun w h => atoms_spec (ws := wU yX9_copyFrom cX9_copyFrom 2 none) B.pre w (List.mem_cons_of_mem _ h)
  have hown : s.vm.findClass RX9 = some m.cls := findClass_of_methodNamed B.named
  have hlocks := B.notSynchronized
  have hD := pl_in hD0
  have hS : va_S (fun q => q ∈ L) s.heap s.heap [] := va_S.rf
  have hl := lv_entry ([.ref o0, .ref o1]) (n := 2) (Nat.le_of_ble_eq_true rfl)
  rw [lg_entry_eq]
  generalize (lg_sl ([.ref o0, .ref o1]) ++ List.replicate (2 - (lg_sl ([.ref o0, .ref o1])).length) Slot.unset).toArray = ls at hl ⊢
  have hl : lv_has ls 2 [(0, .ref o0), (1, .ref o1)] := hl
  have hfr0 : ∀ b, kd b ≠ 13 → kd b ≠ 506 → kd b ≠ 507 → f b = f b := fun _ _ _ _ => rfl
  refine lv_aload_n hx hb dX9_copyFrom_0 rfl (lv_at hl 1 rfl) ?_
  obtain ⟨a_2, a_3, v_4, hfo_1, ⟨ma_2, ka_2⟩, ⟨ma_3, ka_3⟩, bv_4⟩ := un_113 (hG _ mo1) ko1
  refine tk_getP (D := (dC, dI)) (ci := 9) (v := .ref a_2) (C := RX9) (T := TX9) (N := 3) hx hb hU inlX9 hown hK hP mo1 hfo_1 rfl 0 (by decide) (hU _ wd_95) (fun _ h9 => h9) rfl dX9_copyFrom_1 ?_
  obtain ⟨g_6, hfo_5, hbg_6⟩ := un_547 (hG _ ma_2) ka_2
  refine tk_alenP (v := 64) hx hb hK hP 0 ma_2 hfo_5 rfl rfl dX9_copyFrom_4 ?_
  refine lv_aload_n hx hb dX9_copyFrom_5 rfl (lv_at hl 0 rfl) ?_
  obtain ⟨a_8, a_9, v_10, hfo_7, ⟨ma_8, ka_8⟩, ⟨ma_9, ka_9⟩, bv_10⟩ := un_13 (hG _ mo0) ko0
  refine tk_getP (D := (dC, dI)) (ci := 9) (v := .ref a_8) (C := RX9) (T := TX9) (N := 3) hx hb hU inlX9 hown hK hP mo0 hfo_7 rfl 0 (by decide) (hU _ wd_95) (fun _ h9 => h9) rfl dX9_copyFrom_6 ?_
  obtain ⟨g_12, hfo_11, hbg_12⟩ := un_506 (hG _ ma_8) ka_8
  refine tk_alenP (v := 64) hx hb hK hP 0 ma_8 hfo_11 rfl rfl dX9_copyFrom_9 ?_
  refine lv_icmp_ne (tgt := 57) hx hb dX9_copyFrom_10 (by decide) (fun c9 => absurd (by decide) c9) (fun _ => ?_)
  refine lv_aload_n hx hb dX9_copyFrom_13 rfl (lv_at hl 1 rfl) ?_
  refine tk_getP (D := (dC, dI)) (ci := 9) (v := .ref a_2) (C := RX9) (T := TX9) (N := 3) hx hb hU inlX9 hown hK hP mo1 hfo_1 rfl 0 (by decide) (hU _ wd_95) (fun _ h9 => h9) rfl dX9_copyFrom_14 ?_
  refine lv_iconst (v := 0) hx hb dX9_copyFrom_17 (by decide) ?_
  refine lv_aload_n hx hb dX9_copyFrom_18 rfl (lv_at hl 0 rfl) ?_
  refine tk_getP (D := (dC, dI)) (ci := 9) (v := .ref a_8) (C := RX9) (T := TX9) (N := 3) hx hb hU inlX9 hown hK hP mo0 hfo_7 rfl 0 (by decide) (hU _ wd_95) (fun _ h9 => h9) rfl dX9_copyFrom_19 ?_
  refine lv_iconst (v := 0) hx hb dX9_copyFrom_22 (by decide) ?_
  refine lv_aload_n hx hb dX9_copyFrom_23 rfl (lv_at hl 0 rfl) ?_
  refine tk_getP (D := (dC, dI)) (ci := 9) (v := .ref a_8) (C := RX9) (T := TX9) (N := 3) hx hb hU inlX9 hown hK hP mo0 hfo_7 rfl 0 (by decide) (hU _ wd_95) (fun _ h9 => h9) rfl dX9_copyFrom_24 ?_
  refine tk_alenP (v := 64) hx hb hK hP 0 ma_8 hfo_11 rfl rfl dX9_copyFrom_27 ?_
  refine tk_copyP hx hb (by rw [hml]; exact hl.1.symm) hown (hU _ wd_548) (hU _ wd_253) (hU _ wd_254) (hU _ wd_255) hK hP hD hS 0 ma_2 ma_8 hfo_5 hfo_11 rfl (by decide) (by decide) (by decide) (by decide) (by decide) (Nat.le_of_ble_eq_true rfl) (Nat.le_of_ble_eq_true rfl) dX9_copyFrom_28 (fun H locs hP hD hS => ?_)
  obtain ⟨f_14, ef_14⟩ : ∃ y : Nat → va_E, y = va_up f a_8 (.inl (cI, 64, .inl (va_cpy g_6 g_12 (Int32.toNatClampNeg 0) (Int32.toNatClampNeg 0) (Int32.toNatClampNeg 64)))) := ⟨_, rfl⟩
  have hP : va_P (dC, dI) vwCl (va_pl L f_14) H := by rw [ef_14]; exact hP
  have hD : va_D (fun q => q ∈ L) (va_pl L f_14) := by rw [ef_14]; exact hD
  have hG : GI (okc cI cL cZ cR cG cH L kd) kd L f_14 := by rw [ef_14]; exact hG.set a_8 (mk_506 ka_8 ⟨_, rfl, okI_cpy (fun j => by have := hbg_6 j; constructor <;> omega) hbg_12 _ _ _⟩)
  have hfo_15 : f_14 o1 = .inr (9, [.ref a_2, .ref a_3, .int v_4]) := by rw [ef_14, up_ne (kd_ne ka_8 ko1 (by decide))]; exact hfo_1
  have hfo_16 : f_14 a_2 = .inl (cI, 64, .inl g_6) := by rw [ef_14, up_ne (kd_ne ka_8 ka_2 (by decide))]; exact hfo_5
  have hfo_17 : f_14 o0 = .inr (9, [.ref a_8, .ref a_9, .int v_10]) := by rw [ef_14, up_ne (kd_ne ka_8 ko0 (by decide))]; exact hfo_7
  have hfr0 : ∀ b, kd b ≠ 13 → kd b ≠ 506 → kd b ≠ 507 → f_14 b = f b := fun b q13 q506 q507 => (congrFun ef_14 b).trans ((up_ne (fun e9 => q506 (by rw [e9]; exact ka_8))).trans (hfr0 b q13 q506 q507))
  have hfo_18 : f_14 a_8 = .inl (cI, 64, .inl (va_cpy g_6 g_12 (Int32.toNatClampNeg 0) (Int32.toNatClampNeg 0) (Int32.toNatClampNeg 64))) := by rw [ef_14]; exact up_self
  refine lv_aload_n hx hb dX9_copyFrom_31 rfl (lv_at hl 1 rfl) ?_
  refine tk_getP (D := (dC, dI)) (ci := 9) (v := .ref a_3) (C := RX9) (T := TX9) (N := 3) hx hb hU inlX9 hown hK hP mo1 hfo_15 rfl 1 (by decide) (hU _ wd_96) (fun _ h9 => h9) rfl dX9_copyFrom_32 ?_
  refine lv_iconst (v := 0) hx hb dX9_copyFrom_35 (by decide) ?_
  refine lv_aload_n hx hb dX9_copyFrom_36 rfl (lv_at hl 0 rfl) ?_
  refine tk_getP (D := (dC, dI)) (ci := 9) (v := .ref a_9) (C := RX9) (T := TX9) (N := 3) hx hb hU inlX9 hown hK hP mo0 hfo_17 rfl 1 (by decide) (hU _ wd_96) (fun _ h9 => h9) rfl dX9_copyFrom_37 ?_
  refine lv_iconst (v := 0) hx hb dX9_copyFrom_40 (by decide) ?_
  refine lv_aload_n hx hb dX9_copyFrom_41 rfl (lv_at hl 0 rfl) ?_
  refine tk_getP (D := (dC, dI)) (ci := 9) (v := .ref a_9) (C := RX9) (T := TX9) (N := 3) hx hb hU inlX9 hown hK hP mo0 hfo_17 rfl 1 (by decide) (hU _ wd_96) (fun _ h9 => h9) rfl dX9_copyFrom_42 ?_
  obtain ⟨g_20, hfo_19, hbg_20⟩ := un_507 (hG _ ma_9) ka_9
  refine tk_alenP (v := 8) hx hb hK hP 0 ma_9 hfo_19 rfl rfl dX9_copyFrom_45 ?_
  obtain ⟨g_22, hfo_21, hbg_22⟩ := un_548 (hG _ ma_3) ka_3
  refine tk_copyP hx hb (by rw [hml]; exact hl.1.symm) hown (hU _ wd_548) (hU _ wd_253) (hU _ wd_254) (hU _ wd_255) hK hP hD hS 0 ma_3 ma_9 hfo_21 hfo_19 rfl (by decide) (by decide) (by decide) (by decide) (by decide) (Nat.le_of_ble_eq_true rfl) (Nat.le_of_ble_eq_true rfl) dX9_copyFrom_46 (fun H locs hP hD hS => ?_)
  obtain ⟨f_24, ef_24⟩ : ∃ y : Nat → va_E, y = va_up f_14 a_9 (.inl (cI, 8, .inl (va_cpy g_22 g_20 (Int32.toNatClampNeg 0) (Int32.toNatClampNeg 0) (Int32.toNatClampNeg 8)))) := ⟨_, rfl⟩
  have hP : va_P (dC, dI) vwCl (va_pl L f_24) H := by rw [ef_24]; exact hP
  have hD : va_D (fun q => q ∈ L) (va_pl L f_24) := by rw [ef_24]; exact hD
  have hG : GI (okc cI cL cZ cR cG cH L kd) kd L f_24 := by rw [ef_24]; exact hG.set a_9 (mk_507 ka_9 ⟨_, rfl, okI_cpy (fun j => by have := hbg_22 j; constructor <;> omega) hbg_20 _ _ _⟩)
  have hfo_25 : f_24 o1 = .inr (9, [.ref a_2, .ref a_3, .int v_4]) := by rw [ef_24, up_ne (kd_ne ka_9 ko1 (by decide))]; exact hfo_15
  have hfo_26 : f_24 a_2 = .inl (cI, 64, .inl g_6) := by rw [ef_24, up_ne (kd_ne ka_9 ka_2 (by decide))]; exact hfo_16
  have hfo_27 : f_24 o0 = .inr (9, [.ref a_8, .ref a_9, .int v_10]) := by rw [ef_24, up_ne (kd_ne ka_9 ko0 (by decide))]; exact hfo_17
  have hfo_28 : f_24 a_3 = .inl (cI, 8, .inl g_22) := by rw [ef_24, up_ne (kd_ne ka_9 ka_3 (by decide))]; exact hfo_21
  have hfr0 : ∀ b, kd b ≠ 13 → kd b ≠ 506 → kd b ≠ 507 → f_24 b = f b := fun b q13 q506 q507 => (congrFun ef_24 b).trans ((up_ne (fun e9 => q507 (by rw [e9]; exact ka_9))).trans (hfr0 b q13 q506 q507))
  have hfo_29 : f_24 a_9 = .inl (cI, 8, .inl (va_cpy g_22 g_20 (Int32.toNatClampNeg 0) (Int32.toNatClampNeg 0) (Int32.toNatClampNeg 8))) := by rw [ef_24]; exact up_self
  refine lv_aload_n hx hb dX9_copyFrom_49 rfl (lv_at hl 0 rfl) ?_
  refine lv_aload_n hx hb dX9_copyFrom_50 rfl (lv_at hl 1 rfl) ?_
  refine tk_getP (D := (dC, dI)) (ci := 9) (v := .int v_4) (C := RX9) (T := TX9) (N := 3) hx hb hU inlX9 hown hK hP mo1 hfo_25 rfl 2 (by decide) (hU _ wd_273) (fun _ h9 => h9) rfl dX9_copyFrom_51 ?_
  refine tk_putP (D := (dC, dI)) (ci := 9) (v := .int v_4) (ty := .int) (C := RX9) (T := TX9) (N := 3) hx hb hU inlX9 tyX9 tyX9_ok nmX9 hown hK hP hD hS mo0 hfo_27 rfl 2 (by decide) (hU _ wd_273) (fun _ h9 => h9) rfl (by decide +kernel) rfl rfl (Nat.le_of_ble_eq_true rfl) dX9_copyFrom_54 (fun H locs hP hD hS => ?_)
  obtain ⟨f_31, ef_31⟩ : ∃ y : Nat → va_E, y = va_up f_24 o0 (.inr (9, [.ref a_8, .ref a_9, .int v_4])) := ⟨_, rfl⟩
  have hP : va_P (dC, dI) vwCl (va_pl L f_31) H := by rw [ef_31]; exact hP
  have hD : va_D (fun q => q ∈ L) (va_pl L f_31) := by rw [ef_31]; exact hD
  have hG : GI (okc cI cL cZ cR cG cH L kd) kd L f_31 := by rw [ef_31]; exact hG.set o0 (mk_13 ko0 ⟨a_8, a_9, v_4, rfl, ⟨ma_8, ka_8⟩, ⟨ma_9, ka_9⟩, (by constructor <;> omega)⟩)
  have hfo_32 : f_31 o1 = .inr (9, [.ref a_2, .ref a_3, .int v_4]) := by rw [ef_31, up_ne (kd_ne ko0 ko1 (by decide))]; exact hfo_25
  have hfo_33 : f_31 a_2 = .inl (cI, 64, .inl g_6) := by rw [ef_31, up_ne (kd_ne ko0 ka_2 (by decide))]; exact hfo_26
  have hfo_34 : f_31 a_3 = .inl (cI, 8, .inl g_22) := by rw [ef_31, up_ne (kd_ne ko0 ka_3 (by decide))]; exact hfo_28
  have hfr0 : ∀ b, kd b ≠ 13 → kd b ≠ 506 → kd b ≠ 507 → f_31 b = f b := fun b q13 q506 q507 => (congrFun ef_31 b).trans ((up_ne (fun e9 => q13 (by rw [e9]; exact ko0))).trans (hfr0 b q13 q506 q507))
  have hfo_35 : f_31 o0 = .inr (9, [.ref a_8, .ref a_9, .int v_4]) := by rw [ef_31]; exact up_self
  exact W.vret hx hb hr (fun t ht hW => ⟨⟨f_31, rfl, ⟨hG, hfr0⟩, by rw [ht]; exact hP, va_K.moved hW.alike hK, pl_in hD⟩, hS.F ht⟩) hS.2.2 dX9_copyFrom_57
set_option maxHeartbeats 8000000 in
set_option maxRecDepth 100000 in
theorem s_X9_copyTo_k9_a507 (l : Launch) (D : va_G) (cI cL cZ cR cG cH : ClassId) (Z : zT) (kd : Nat → Nat) (L : List Nat) (f : Nat → va_E) (hG : GI (okc cI cL cZ cR cG cH L kd) kd L f) (o0 : Nat) (mo0 : o0 ∈ L) (ko0 : kd o0 = 9) (p1 : Int32) (o2 : Nat) (mo2 : o2 ∈ L) (ko2 : kd o2 = 507) (p3 : Int32) (bp3 : (0 ≤ p3.toInt ∧ p3.toInt ≤ 12)) : mPI l D cI cL cZ cR cG cH Z yX9_copyTo cX9_copyTo 5 (some .int) 1 40 [.ref o0, .int p1, .ref o2, .int p3] L f (fun (r : Int32) (f9 : Nat → va_E) => GI (okc cI cL cZ cR cG cH L kd) kd L f9 ∧ (0 ≤ r.toInt ∧ r.toInt ≤ 20) ∧ (∀ b, kd b ≠ 507 → f9 b = f b)) := by
  obtain ⟨dC, dI⟩ := D
  refine Met.ofW (cc := cX9_copyTo) (maxL := 5) (ret := (some .int)) (by decide) rfl ?_
  intro p e s m args below meth c s₁ B hml hv
  obtain ⟨rfl, hP, hK, hD0, hN, hZ⟩ := hv
  have hx := B.exec
  have hb := B.bytes
  have hr := B.returns
  have hU : ∀ w ∈ wsU, w.before _ s = true := fun w h => atoms_spec (ws := wU yX9_copyTo cX9_copyTo 5 (some .int)) B.pre w (List.mem_cons_of_mem _ h)
  have hown : s.vm.findClass RX9 = some m.cls := findClass_of_methodNamed B.named
  have hlocks := B.notSynchronized
  have hD := pl_in hD0
  have hS : va_S (fun q => q ∈ L) s.heap s.heap [] := va_S.rf
  have hl := lv_entry ([.ref o0, .int p1, .ref o2, .int p3]) (n := 5) (Nat.le_of_ble_eq_true rfl)
  rw [lg_entry_eq]
  generalize (lg_sl ([.ref o0, .int p1, .ref o2, .int p3]) ++ List.replicate (5 - (lg_sl ([.ref o0, .int p1, .ref o2, .int p3])).length) Slot.unset).toArray = ls at hl ⊢
  have hl : lv_has ls 5 [(0, .ref o0), (1, .int p1), (2, .ref o2), (3, .int p3)] := hl
  have bp1 : ((-2147483648) ≤ p1.toInt ∧ p1.toInt ≤ 2147483647) := ⟨i32_lo _, i32_hi _⟩
  have hfr0 : ∀ b, kd b ≠ 507 → f b = f b := fun _ _ => rfl
  refine lv_aload_n hx hb dX9_copyTo_0 rfl (lv_at hl 0 rfl) ?_
  refine lv_iload_n hx hb dX9_copyTo_1 rfl (lv_at hl 1 rfl) ?_
  obtain ⟨a_2, a_3, v_4, hfo_1, ⟨ma_2, ka_2⟩, ⟨ma_3, ka_3⟩, bv_4⟩ := un_9 (hG _ mo0) ko0
  refine tk_ViP (As := [.int p1]) (rest := []) (n := 1) hx hb hml hown hU hN hZ (s_X9_lengthOf_k9 l (dC, dI) cI cL cZ cR cG cH Z kd L f hG o0 mo0 ko0 p1) wd_1010 wd_1011 wd_1012 wd_85 wd_1013 (by decide +kernel) ⟨Nat.le_of_ble_eq_true rfl, Nat.le_of_ble_eq_true rfl⟩ hK hP hD hS mo0 hfo_1 9 rfl rfl rfl hl.1 rfl (Nat.le_of_ble_eq_true rfl) dX9_copyTo_2 ⟨Nat.le_of_ble_eq_true rfl, Nat.le_of_ble_eq_true rfl⟩ (fun x_5 f_6 H locs hw hP hD hS => ?_)
  obtain ⟨rfl, bx_5, relx_5⟩ := hw
  refine lv_istore (lv' := [(4, .int x_5), (0, .ref o0), (1, .int p1), (2, .ref o2), (3, .int p3)]) hx hb dX9_copyTo_5 hl (by decide) rfl (fun ls hl => ?_)
  refine lv_iload hx hb dX9_copyTo_7 (lv_at hl 0 rfl) ?_
  refine lv_iconst (v := 1) hx hb dX9_copyTo_9 (by decide) ?_
  refine lv_icmp_lt (tgt := 26) hx hb dX9_copyTo_10 (by decide) (fun c_8 => ?_) (fun c_8 => ?_)
  · skip
    rw [Int32.lt_iff_toInt_lt, ti_1] at c_8
    refine lv_iload_n hx hb dX9_copyTo_26 rfl (lv_at hl 4 rfl) ?_
    exact W.iret (v := p3) hx hb hr (fun t ht hW => ⟨⟨p3, f, rfl, ⟨hG, (by constructor <;> omega), hfr0⟩, by rw [ht]; exact hP, va_K.moved hW.alike hK, pl_in hD⟩, hS.F ht⟩) hS.2.2 dX9_copyTo_27
  · skip
    rw [Int32.lt_iff_toInt_lt, ti_1] at c_8
    refine lv_iload_n hx hb dX9_copyTo_13 rfl (lv_at hl 4 rfl) ?_
    refine lv_if_lt (tgt := 26) hx hb dX9_copyTo_14 (by decide) (fun c_9 => ?_) (fun c_9 => ?_)
    · skip
      rw [Int32.lt_iff_toInt_lt, ti_0] at c_9
      exfalso
      omega
    · skip
      rw [Int32.lt_iff_toInt_lt, ti_0] at c_9
      refine lv_iload_n hx hb dX9_copyTo_17 rfl (lv_at hl 4 rfl) ?_
      refine lv_iload hx hb dX9_copyTo_18 (lv_at hl 0 rfl) ?_
      refine lv_iadd hx hb dX9_copyTo_20 ?_
      refine lv_topi (fun x_10 ex_10 => ?_)
      have hx_10 : x_10.toInt = p3.toInt + x_5.toInt := by rw [ex_10, ad_I (by omega) (by omega)]
      have bx_10 : (1 ≤ x_10.toInt ∧ x_10.toInt ≤ 20) := by constructor <;> omega
      refine lv_aload_n hx hb dX9_copyTo_21 rfl (lv_at hl 3 rfl) ?_
      obtain ⟨g_12, hfo_11, hbg_12⟩ := un_507 (hG _ mo2) ko2
      refine tk_alenP (v := 8) hx hb hK hP 0 mo2 hfo_11 rfl rfl dX9_copyTo_22 ?_
      refine lv_icmp_le (tgt := 28) hx hb dX9_copyTo_23 (by decide) (fun c_13 => ?_) (fun c_13 => ?_)
      · skip
        rw [Int32.le_iff_toInt_le, ti_8] at c_13
        refine lv_aload_n hx hb dX9_copyTo_28 rfl (lv_at hl 1 rfl) ?_
        refine tk_getP (D := (dC, dI)) (ci := 9) (v := .ref a_2) (C := RX9) (T := TX9) (N := 3) hx hb hU inlX9 hown hK hP mo0 hfo_1 rfl 0 (by decide) (hU _ wd_95) (fun _ h9 => h9) rfl dX9_copyTo_29 ?_
        refine lv_iload_n hx hb dX9_copyTo_32 rfl (lv_at hl 2 rfl) ?_
        refine lv_bipush (v := 8) hx hb dX9_copyTo_33 (by decide) ?_
        refine lv_imul hx hb dX9_copyTo_35 ?_
        refine lv_topi (fun x_14 ex_14 => ?_)
        have hx_14 : x_14.toInt = p1.toInt * 8 := by rw [ex_14, ml_I (by rw [ti_8]; omega) (by rw [ti_8]; omega), ti_8]
        have bx_14 : (0 ≤ x_14.toInt ∧ x_14.toInt ≤ 88) := by constructor <;> omega
        refine lv_aload_n hx hb dX9_copyTo_36 rfl (lv_at hl 3 rfl) ?_
        refine lv_iload_n hx hb dX9_copyTo_37 rfl (lv_at hl 4 rfl) ?_
        refine lv_iload hx hb dX9_copyTo_38 (lv_at hl 0 rfl) ?_
        obtain ⟨g_16, hfo_15, hbg_16⟩ := un_504 (hG _ ma_2) ka_2
        refine tk_copyP hx hb (by rw [hml]; exact hl.1.symm) hown (hU _ wd_548) (hU _ wd_253) (hU _ wd_254) (hU _ wd_255) hK hP hD hS 0 ma_2 mo2 hfo_15 hfo_11 rfl (by rw [Int32.lt_iff_toInt_lt, ti_0]; omega) (by rw [Int32.lt_iff_toInt_lt, ti_0]; omega) (by rw [Int32.lt_iff_toInt_lt, ti_0]; omega) (cp_ok (by omega) (by omega) (by omega)) (cp_ok (by omega) (by omega) (by omega)) (Nat.le_of_ble_eq_true rfl) (Nat.le_of_ble_eq_true rfl) dX9_copyTo_40 (fun H locs hP hD hS => ?_)
        obtain ⟨f_18, ef_18⟩ : ∃ y : Nat → va_E, y = va_up f o2 (.inl (cI, 8, .inl (va_cpy g_16 g_12 (Int32.toNatClampNeg x_14) (Int32.toNatClampNeg p3) (Int32.toNatClampNeg x_5)))) := ⟨_, rfl⟩
        have hP : va_P (dC, dI) vwCl (va_pl L f_18) H := by rw [ef_18]; exact hP
        have hD : va_D (fun q => q ∈ L) (va_pl L f_18) := by rw [ef_18]; exact hD
        have hG : GI (okc cI cL cZ cR cG cH L kd) kd L f_18 := by rw [ef_18]; exact hG.set o2 (mk_507 ko2 ⟨_, rfl, okI_cpy (fun j => by have := hbg_16 j; constructor <;> omega) hbg_12 _ _ _⟩)
        have hfo_19 : f_18 o0 = .inr (9, [.ref a_2, .ref a_3, .int v_4]) := by rw [ef_18, up_ne (kd_ne ko2 ko0 (by decide))]; exact hfo_1
        have hfo_20 : f_18 a_2 = .inl (cI, 96, .inl g_16) := by rw [ef_18, up_ne (kd_ne ko2 ka_2 (by decide))]; exact hfo_15
        have hfr0 : ∀ b, kd b ≠ 507 → f_18 b = f b := fun b q507 => (congrFun ef_18 b).trans ((up_ne (fun e9 => q507 (by rw [e9]; exact ko2))).trans (hfr0 b q507))
        have hfo_21 : f_18 o2 = .inl (cI, 8, .inl (va_cpy g_16 g_12 (Int32.toNatClampNeg x_14) (Int32.toNatClampNeg p3) (Int32.toNatClampNeg x_5))) := by rw [ef_18]; exact up_self
        refine lv_iload_n hx hb dX9_copyTo_43 rfl (lv_at hl 4 rfl) ?_
        refine lv_iload hx hb dX9_copyTo_44 (lv_at hl 0 rfl) ?_
        refine lv_iadd hx hb dX9_copyTo_46 ?_
        refine lv_topi (fun x_22 ex_22 => ?_)
        have hx_22 : x_22.toInt = p3.toInt + x_5.toInt := by rw [ex_22, ad_I (by omega) (by omega)]
        have bx_22 : (1 ≤ x_22.toInt ∧ x_22.toInt ≤ 20) := by constructor <;> omega
        exact W.iret (v := x_22) hx hb hr (fun t ht hW => ⟨⟨x_22, f_18, rfl, ⟨hG, (by constructor <;> omega), hfr0⟩, by rw [ht]; exact hP, va_K.moved hW.alike hK, pl_in hD⟩, hS.F ht⟩) hS.2.2 dX9_copyTo_47
      · skip
        rw [Int32.le_iff_toInt_le, ti_8] at c_13
        refine lv_iload_n hx hb dX9_copyTo_26 rfl (lv_at hl 4 rfl) ?_
        exact W.iret (v := p3) hx hb hr (fun t ht hW => ⟨⟨p3, f, rfl, ⟨hG, (by constructor <;> omega), hfr0⟩, by rw [ht]; exact hP, va_K.moved hW.alike hK, pl_in hD⟩, hS.F ht⟩) hS.2.2 dX9_copyTo_27
set_option maxHeartbeats 8000000 in
set_option maxRecDepth 100000 in
theorem s_X9_copyTo_k9_a505 (l : Launch) (D : va_G) (cI cL cZ cR cG cH : ClassId) (Z : zT) (kd : Nat → Nat) (L : List Nat) (f : Nat → va_E) (hG : GI (okc cI cL cZ cR cG cH L kd) kd L f) (o0 : Nat) (mo0 : o0 ∈ L) (ko0 : kd o0 = 9) (p1 : Int32) (o2 : Nat) (mo2 : o2 ∈ L) (ko2 : kd o2 = 505) (p3 : Int32) (bp3 : (0 ≤ p3.toInt ∧ p3.toInt ≤ 12)) : mPI l D cI cL cZ cR cG cH Z yX9_copyTo cX9_copyTo 5 (some .int) 1 40 [.ref o0, .int p1, .ref o2, .int p3] L f (fun (r : Int32) (f9 : Nat → va_E) => GI (okc cI cL cZ cR cG cH L kd) kd L f9 ∧ (0 ≤ r.toInt ∧ r.toInt ≤ 20) ∧ (∀ b, kd b ≠ 505 → f9 b = f b)) := by
  obtain ⟨dC, dI⟩ := D
  refine Met.ofW (cc := cX9_copyTo) (maxL := 5) (ret := (some .int)) (by decide) rfl ?_
  intro p e s m args below meth c s₁ B hml hv
  obtain ⟨rfl, hP, hK, hD0, hN, hZ⟩ := hv
  have hx := B.exec
  have hb := B.bytes
  have hr := B.returns
  have hU : ∀ w ∈ wsU, w.before _ s = true := fun w h => atoms_spec (ws := wU yX9_copyTo cX9_copyTo 5 (some .int)) B.pre w (List.mem_cons_of_mem _ h)
  have hown : s.vm.findClass RX9 = some m.cls := findClass_of_methodNamed B.named
  have hlocks := B.notSynchronized
  have hD := pl_in hD0
  have hS : va_S (fun q => q ∈ L) s.heap s.heap [] := va_S.rf
  have hl := lv_entry ([.ref o0, .int p1, .ref o2, .int p3]) (n := 5) (Nat.le_of_ble_eq_true rfl)
  rw [lg_entry_eq]
  generalize (lg_sl ([.ref o0, .int p1, .ref o2, .int p3]) ++ List.replicate (5 - (lg_sl ([.ref o0, .int p1, .ref o2, .int p3])).length) Slot.unset).toArray = ls at hl ⊢
  have hl : lv_has ls 5 [(0, .ref o0), (1, .int p1), (2, .ref o2), (3, .int p3)] := hl
  have bp1 : ((-2147483648) ≤ p1.toInt ∧ p1.toInt ≤ 2147483647) := ⟨i32_lo _, i32_hi _⟩
  have hfr0 : ∀ b, kd b ≠ 505 → f b = f b := fun _ _ => rfl
  refine lv_aload_n hx hb dX9_copyTo_0 rfl (lv_at hl 0 rfl) ?_
  refine lv_iload_n hx hb dX9_copyTo_1 rfl (lv_at hl 1 rfl) ?_
  obtain ⟨a_2, a_3, v_4, hfo_1, ⟨ma_2, ka_2⟩, ⟨ma_3, ka_3⟩, bv_4⟩ := un_9 (hG _ mo0) ko0
  refine tk_ViP (As := [.int p1]) (rest := []) (n := 1) hx hb hml hown hU hN hZ (s_X9_lengthOf_k9 l (dC, dI) cI cL cZ cR cG cH Z kd L f hG o0 mo0 ko0 p1) wd_1010 wd_1011 wd_1012 wd_85 wd_1013 (by decide +kernel) ⟨Nat.le_of_ble_eq_true rfl, Nat.le_of_ble_eq_true rfl⟩ hK hP hD hS mo0 hfo_1 9 rfl rfl rfl hl.1 rfl (Nat.le_of_ble_eq_true rfl) dX9_copyTo_2 ⟨Nat.le_of_ble_eq_true rfl, Nat.le_of_ble_eq_true rfl⟩ (fun x_5 f_6 H locs hw hP hD hS => ?_)
  obtain ⟨rfl, bx_5, relx_5⟩ := hw
  refine lv_istore (lv' := [(4, .int x_5), (0, .ref o0), (1, .int p1), (2, .ref o2), (3, .int p3)]) hx hb dX9_copyTo_5 hl (by decide) rfl (fun ls hl => ?_)
  refine lv_iload hx hb dX9_copyTo_7 (lv_at hl 0 rfl) ?_
  refine lv_iconst (v := 1) hx hb dX9_copyTo_9 (by decide) ?_
  refine lv_icmp_lt (tgt := 26) hx hb dX9_copyTo_10 (by decide) (fun c_8 => ?_) (fun c_8 => ?_)
  · skip
    rw [Int32.lt_iff_toInt_lt, ti_1] at c_8
    refine lv_iload_n hx hb dX9_copyTo_26 rfl (lv_at hl 4 rfl) ?_
    exact W.iret (v := p3) hx hb hr (fun t ht hW => ⟨⟨p3, f, rfl, ⟨hG, (by constructor <;> omega), hfr0⟩, by rw [ht]; exact hP, va_K.moved hW.alike hK, pl_in hD⟩, hS.F ht⟩) hS.2.2 dX9_copyTo_27
  · skip
    rw [Int32.lt_iff_toInt_lt, ti_1] at c_8
    refine lv_iload_n hx hb dX9_copyTo_13 rfl (lv_at hl 4 rfl) ?_
    refine lv_if_lt (tgt := 26) hx hb dX9_copyTo_14 (by decide) (fun c_9 => ?_) (fun c_9 => ?_)
    · skip
      rw [Int32.lt_iff_toInt_lt, ti_0] at c_9
      exfalso
      omega
    · skip
      rw [Int32.lt_iff_toInt_lt, ti_0] at c_9
      refine lv_iload_n hx hb dX9_copyTo_17 rfl (lv_at hl 4 rfl) ?_
      refine lv_iload hx hb dX9_copyTo_18 (lv_at hl 0 rfl) ?_
      refine lv_iadd hx hb dX9_copyTo_20 ?_
      refine lv_topi (fun x_10 ex_10 => ?_)
      have hx_10 : x_10.toInt = p3.toInt + x_5.toInt := by rw [ex_10, ad_I (by omega) (by omega)]
      have bx_10 : (1 ≤ x_10.toInt ∧ x_10.toInt ≤ 20) := by constructor <;> omega
      refine lv_aload_n hx hb dX9_copyTo_21 rfl (lv_at hl 3 rfl) ?_
      obtain ⟨g_12, hfo_11, hbg_12⟩ := un_505 (hG _ mo2) ko2
      refine tk_alenP (v := 12) hx hb hK hP 0 mo2 hfo_11 rfl rfl dX9_copyTo_22 ?_
      refine lv_icmp_le (tgt := 28) hx hb dX9_copyTo_23 (by decide) (fun c_13 => ?_) (fun c_13 => ?_)
      · skip
        rw [Int32.le_iff_toInt_le, ti_12] at c_13
        refine lv_aload_n hx hb dX9_copyTo_28 rfl (lv_at hl 1 rfl) ?_
        refine tk_getP (D := (dC, dI)) (ci := 9) (v := .ref a_2) (C := RX9) (T := TX9) (N := 3) hx hb hU inlX9 hown hK hP mo0 hfo_1 rfl 0 (by decide) (hU _ wd_95) (fun _ h9 => h9) rfl dX9_copyTo_29 ?_
        refine lv_iload_n hx hb dX9_copyTo_32 rfl (lv_at hl 2 rfl) ?_
        refine lv_bipush (v := 8) hx hb dX9_copyTo_33 (by decide) ?_
        refine lv_imul hx hb dX9_copyTo_35 ?_
        refine lv_topi (fun x_14 ex_14 => ?_)
        have hx_14 : x_14.toInt = p1.toInt * 8 := by rw [ex_14, ml_I (by rw [ti_8]; omega) (by rw [ti_8]; omega), ti_8]
        have bx_14 : (0 ≤ x_14.toInt ∧ x_14.toInt ≤ 88) := by constructor <;> omega
        refine lv_aload_n hx hb dX9_copyTo_36 rfl (lv_at hl 3 rfl) ?_
        refine lv_iload_n hx hb dX9_copyTo_37 rfl (lv_at hl 4 rfl) ?_
        refine lv_iload hx hb dX9_copyTo_38 (lv_at hl 0 rfl) ?_
        obtain ⟨g_16, hfo_15, hbg_16⟩ := un_504 (hG _ ma_2) ka_2
        refine tk_copyP hx hb (by rw [hml]; exact hl.1.symm) hown (hU _ wd_548) (hU _ wd_253) (hU _ wd_254) (hU _ wd_255) hK hP hD hS 0 ma_2 mo2 hfo_15 hfo_11 rfl (by rw [Int32.lt_iff_toInt_lt, ti_0]; omega) (by rw [Int32.lt_iff_toInt_lt, ti_0]; omega) (by rw [Int32.lt_iff_toInt_lt, ti_0]; omega) (cp_ok (by omega) (by omega) (by omega)) (cp_ok (by omega) (by omega) (by omega)) (Nat.le_of_ble_eq_true rfl) (Nat.le_of_ble_eq_true rfl) dX9_copyTo_40 (fun H locs hP hD hS => ?_)
        obtain ⟨f_18, ef_18⟩ : ∃ y : Nat → va_E, y = va_up f o2 (.inl (cI, 12, .inl (va_cpy g_16 g_12 (Int32.toNatClampNeg x_14) (Int32.toNatClampNeg p3) (Int32.toNatClampNeg x_5)))) := ⟨_, rfl⟩
        have hP : va_P (dC, dI) vwCl (va_pl L f_18) H := by rw [ef_18]; exact hP
        have hD : va_D (fun q => q ∈ L) (va_pl L f_18) := by rw [ef_18]; exact hD
        have hG : GI (okc cI cL cZ cR cG cH L kd) kd L f_18 := by rw [ef_18]; exact hG.set o2 (mk_505 ko2 ⟨_, rfl, okI_cpy (fun j => by have := hbg_16 j; constructor <;> omega) hbg_12 _ _ _⟩)
        have hfo_19 : f_18 o0 = .inr (9, [.ref a_2, .ref a_3, .int v_4]) := by rw [ef_18, up_ne (kd_ne ko2 ko0 (by decide))]; exact hfo_1
        have hfo_20 : f_18 a_2 = .inl (cI, 96, .inl g_16) := by rw [ef_18, up_ne (kd_ne ko2 ka_2 (by decide))]; exact hfo_15
        have hfr0 : ∀ b, kd b ≠ 505 → f_18 b = f b := fun b q505 => (congrFun ef_18 b).trans ((up_ne (fun e9 => q505 (by rw [e9]; exact ko2))).trans (hfr0 b q505))
        have hfo_21 : f_18 o2 = .inl (cI, 12, .inl (va_cpy g_16 g_12 (Int32.toNatClampNeg x_14) (Int32.toNatClampNeg p3) (Int32.toNatClampNeg x_5))) := by rw [ef_18]; exact up_self
        refine lv_iload_n hx hb dX9_copyTo_43 rfl (lv_at hl 4 rfl) ?_
        refine lv_iload hx hb dX9_copyTo_44 (lv_at hl 0 rfl) ?_
        refine lv_iadd hx hb dX9_copyTo_46 ?_
        refine lv_topi (fun x_22 ex_22 => ?_)
        have hx_22 : x_22.toInt = p3.toInt + x_5.toInt := by rw [ex_22, ad_I (by omega) (by omega)]
        have bx_22 : (1 ≤ x_22.toInt ∧ x_22.toInt ≤ 20) := by constructor <;> omega
        exact W.iret (v := x_22) hx hb hr (fun t ht hW => ⟨⟨x_22, f_18, rfl, ⟨hG, (by constructor <;> omega), hfr0⟩, by rw [ht]; exact hP, va_K.moved hW.alike hK, pl_in hD⟩, hS.F ht⟩) hS.2.2 dX9_copyTo_47
      · skip
        rw [Int32.le_iff_toInt_le, ti_12] at c_13
        refine lv_iload_n hx hb dX9_copyTo_26 rfl (lv_at hl 4 rfl) ?_
        exact W.iret (v := p3) hx hb hr (fun t ht hW => ⟨⟨p3, f, rfl, ⟨hG, (by constructor <;> omega), hfr0⟩, by rw [ht]; exact hP, va_K.moved hW.alike hK, pl_in hD⟩, hS.F ht⟩) hS.2.2 dX9_copyTo_27
set_option maxHeartbeats 8000000 in
set_option maxRecDepth 100000 in
theorem s_X9_copyTo_k13_a505 (l : Launch) (D : va_G) (cI cL cZ cR cG cH : ClassId) (Z : zT) (kd : Nat → Nat) (L : List Nat) (f : Nat → va_E) (hG : GI (okc cI cL cZ cR cG cH L kd) kd L f) (o0 : Nat) (mo0 : o0 ∈ L) (ko0 : kd o0 = 13) (p1 : Int32) (o2 : Nat) (mo2 : o2 ∈ L) (ko2 : kd o2 = 505) (p3 : Int32) (bp3 : (0 ≤ p3.toInt ∧ p3.toInt ≤ 12)) : mPI l D cI cL cZ cR cG cH Z yX9_copyTo cX9_copyTo 5 (some .int) 1 40 [.ref o0, .int p1, .ref o2, .int p3] L f (fun (r : Int32) (f9 : Nat → va_E) => GI (okc cI cL cZ cR cG cH L kd) kd L f9 ∧ (0 ≤ r.toInt ∧ r.toInt ≤ 20) ∧ (∀ b, kd b ≠ 505 → f9 b = f b)) := by
  obtain ⟨dC, dI⟩ := D
  refine Met.ofW (cc := cX9_copyTo) (maxL := 5) (ret := (some .int)) (by decide) rfl ?_
  intro p e s m args below meth c s₁ B hml hv
  obtain ⟨rfl, hP, hK, hD0, hN, hZ⟩ := hv
  have hx := B.exec
  have hb := B.bytes
  have hr := B.returns
  have hU : ∀ w ∈ wsU, w.before _ s = true := fun w h => atoms_spec (ws := wU yX9_copyTo cX9_copyTo 5 (some .int)) B.pre w (List.mem_cons_of_mem _ h)
  have hown : s.vm.findClass RX9 = some m.cls := findClass_of_methodNamed B.named
  have hlocks := B.notSynchronized
  have hD := pl_in hD0
  have hS : va_S (fun q => q ∈ L) s.heap s.heap [] := va_S.rf
  have hl := lv_entry ([.ref o0, .int p1, .ref o2, .int p3]) (n := 5) (Nat.le_of_ble_eq_true rfl)
  rw [lg_entry_eq]
  generalize (lg_sl ([.ref o0, .int p1, .ref o2, .int p3]) ++ List.replicate (5 - (lg_sl ([.ref o0, .int p1, .ref o2, .int p3])).length) Slot.unset).toArray = ls at hl ⊢
  have hl : lv_has ls 5 [(0, .ref o0), (1, .int p1), (2, .ref o2), (3, .int p3)] := hl
  have bp1 : ((-2147483648) ≤ p1.toInt ∧ p1.toInt ≤ 2147483647) := ⟨i32_lo _, i32_hi _⟩
  have hfr0 : ∀ b, kd b ≠ 505 → f b = f b := fun _ _ => rfl
  refine lv_aload_n hx hb dX9_copyTo_0 rfl (lv_at hl 0 rfl) ?_
  refine lv_iload_n hx hb dX9_copyTo_1 rfl (lv_at hl 1 rfl) ?_
  obtain ⟨a_2, a_3, v_4, hfo_1, ⟨ma_2, ka_2⟩, ⟨ma_3, ka_3⟩, bv_4⟩ := un_13 (hG _ mo0) ko0
  refine tk_ViP (As := [.int p1]) (rest := []) (n := 1) hx hb hml hown hU hN hZ (s_X9_lengthOf_k13 l (dC, dI) cI cL cZ cR cG cH Z kd L f hG o0 mo0 ko0 p1) wd_1010 wd_1011 wd_1012 wd_85 wd_1013 (by decide +kernel) ⟨Nat.le_of_ble_eq_true rfl, Nat.le_of_ble_eq_true rfl⟩ hK hP hD hS mo0 hfo_1 9 rfl rfl rfl hl.1 rfl (Nat.le_of_ble_eq_true rfl) dX9_copyTo_2 ⟨Nat.le_of_ble_eq_true rfl, Nat.le_of_ble_eq_true rfl⟩ (fun x_5 f_6 H locs hw hP hD hS => ?_)
  obtain ⟨rfl, bx_5, relx_5⟩ := hw
  refine lv_istore (lv' := [(4, .int x_5), (0, .ref o0), (1, .int p1), (2, .ref o2), (3, .int p3)]) hx hb dX9_copyTo_5 hl (by decide) rfl (fun ls hl => ?_)
  refine lv_iload hx hb dX9_copyTo_7 (lv_at hl 0 rfl) ?_
  refine lv_iconst (v := 1) hx hb dX9_copyTo_9 (by decide) ?_
  refine lv_icmp_lt (tgt := 26) hx hb dX9_copyTo_10 (by decide) (fun c_8 => ?_) (fun c_8 => ?_)
  · skip
    rw [Int32.lt_iff_toInt_lt, ti_1] at c_8
    refine lv_iload_n hx hb dX9_copyTo_26 rfl (lv_at hl 4 rfl) ?_
    exact W.iret (v := p3) hx hb hr (fun t ht hW => ⟨⟨p3, f, rfl, ⟨hG, (by constructor <;> omega), hfr0⟩, by rw [ht]; exact hP, va_K.moved hW.alike hK, pl_in hD⟩, hS.F ht⟩) hS.2.2 dX9_copyTo_27
  · skip
    rw [Int32.lt_iff_toInt_lt, ti_1] at c_8
    refine lv_iload_n hx hb dX9_copyTo_13 rfl (lv_at hl 4 rfl) ?_
    refine lv_if_lt (tgt := 26) hx hb dX9_copyTo_14 (by decide) (fun c_9 => ?_) (fun c_9 => ?_)
    · skip
      rw [Int32.lt_iff_toInt_lt, ti_0] at c_9
      exfalso
      omega
    · skip
      rw [Int32.lt_iff_toInt_lt, ti_0] at c_9
      refine lv_iload_n hx hb dX9_copyTo_17 rfl (lv_at hl 4 rfl) ?_
      refine lv_iload hx hb dX9_copyTo_18 (lv_at hl 0 rfl) ?_
      refine lv_iadd hx hb dX9_copyTo_20 ?_
      refine lv_topi (fun x_10 ex_10 => ?_)
      have hx_10 : x_10.toInt = p3.toInt + x_5.toInt := by rw [ex_10, ad_I (by omega) (by omega)]
      have bx_10 : (1 ≤ x_10.toInt ∧ x_10.toInt ≤ 20) := by constructor <;> omega
      refine lv_aload_n hx hb dX9_copyTo_21 rfl (lv_at hl 3 rfl) ?_
      obtain ⟨g_12, hfo_11, hbg_12⟩ := un_505 (hG _ mo2) ko2
      refine tk_alenP (v := 12) hx hb hK hP 0 mo2 hfo_11 rfl rfl dX9_copyTo_22 ?_
      refine lv_icmp_le (tgt := 28) hx hb dX9_copyTo_23 (by decide) (fun c_13 => ?_) (fun c_13 => ?_)
      · skip
        rw [Int32.le_iff_toInt_le, ti_12] at c_13
        refine lv_aload_n hx hb dX9_copyTo_28 rfl (lv_at hl 1 rfl) ?_
        refine tk_getP (D := (dC, dI)) (ci := 9) (v := .ref a_2) (C := RX9) (T := TX9) (N := 3) hx hb hU inlX9 hown hK hP mo0 hfo_1 rfl 0 (by decide) (hU _ wd_95) (fun _ h9 => h9) rfl dX9_copyTo_29 ?_
        refine lv_iload_n hx hb dX9_copyTo_32 rfl (lv_at hl 2 rfl) ?_
        refine lv_bipush (v := 8) hx hb dX9_copyTo_33 (by decide) ?_
        refine lv_imul hx hb dX9_copyTo_35 ?_
        refine lv_topi (fun x_14 ex_14 => ?_)
        have hx_14 : x_14.toInt = p1.toInt * 8 := by rw [ex_14, ml_I (by rw [ti_8]; omega) (by rw [ti_8]; omega), ti_8]
        have bx_14 : (0 ≤ x_14.toInt ∧ x_14.toInt ≤ 56) := by constructor <;> omega
        refine lv_aload_n hx hb dX9_copyTo_36 rfl (lv_at hl 3 rfl) ?_
        refine lv_iload_n hx hb dX9_copyTo_37 rfl (lv_at hl 4 rfl) ?_
        refine lv_iload hx hb dX9_copyTo_38 (lv_at hl 0 rfl) ?_
        obtain ⟨g_16, hfo_15, hbg_16⟩ := un_506 (hG _ ma_2) ka_2
        refine tk_copyP hx hb (by rw [hml]; exact hl.1.symm) hown (hU _ wd_548) (hU _ wd_253) (hU _ wd_254) (hU _ wd_255) hK hP hD hS 0 ma_2 mo2 hfo_15 hfo_11 rfl (by rw [Int32.lt_iff_toInt_lt, ti_0]; omega) (by rw [Int32.lt_iff_toInt_lt, ti_0]; omega) (by rw [Int32.lt_iff_toInt_lt, ti_0]; omega) (cp_ok (by omega) (by omega) (by omega)) (cp_ok (by omega) (by omega) (by omega)) (Nat.le_of_ble_eq_true rfl) (Nat.le_of_ble_eq_true rfl) dX9_copyTo_40 (fun H locs hP hD hS => ?_)
        obtain ⟨f_18, ef_18⟩ : ∃ y : Nat → va_E, y = va_up f o2 (.inl (cI, 12, .inl (va_cpy g_16 g_12 (Int32.toNatClampNeg x_14) (Int32.toNatClampNeg p3) (Int32.toNatClampNeg x_5)))) := ⟨_, rfl⟩
        have hP : va_P (dC, dI) vwCl (va_pl L f_18) H := by rw [ef_18]; exact hP
        have hD : va_D (fun q => q ∈ L) (va_pl L f_18) := by rw [ef_18]; exact hD
        have hG : GI (okc cI cL cZ cR cG cH L kd) kd L f_18 := by rw [ef_18]; exact hG.set o2 (mk_505 ko2 ⟨_, rfl, okI_cpy (fun j => by have := hbg_16 j; constructor <;> omega) hbg_12 _ _ _⟩)
        have hfo_19 : f_18 o0 = .inr (9, [.ref a_2, .ref a_3, .int v_4]) := by rw [ef_18, up_ne (kd_ne ko2 ko0 (by decide))]; exact hfo_1
        have hfo_20 : f_18 a_2 = .inl (cI, 64, .inl g_16) := by rw [ef_18, up_ne (kd_ne ko2 ka_2 (by decide))]; exact hfo_15
        have hfr0 : ∀ b, kd b ≠ 505 → f_18 b = f b := fun b q505 => (congrFun ef_18 b).trans ((up_ne (fun e9 => q505 (by rw [e9]; exact ko2))).trans (hfr0 b q505))
        have hfo_21 : f_18 o2 = .inl (cI, 12, .inl (va_cpy g_16 g_12 (Int32.toNatClampNeg x_14) (Int32.toNatClampNeg p3) (Int32.toNatClampNeg x_5))) := by rw [ef_18]; exact up_self
        refine lv_iload_n hx hb dX9_copyTo_43 rfl (lv_at hl 4 rfl) ?_
        refine lv_iload hx hb dX9_copyTo_44 (lv_at hl 0 rfl) ?_
        refine lv_iadd hx hb dX9_copyTo_46 ?_
        refine lv_topi (fun x_22 ex_22 => ?_)
        have hx_22 : x_22.toInt = p3.toInt + x_5.toInt := by rw [ex_22, ad_I (by omega) (by omega)]
        have bx_22 : (1 ≤ x_22.toInt ∧ x_22.toInt ≤ 20) := by constructor <;> omega
        exact W.iret (v := x_22) hx hb hr (fun t ht hW => ⟨⟨x_22, f_18, rfl, ⟨hG, (by constructor <;> omega), hfr0⟩, by rw [ht]; exact hP, va_K.moved hW.alike hK, pl_in hD⟩, hS.F ht⟩) hS.2.2 dX9_copyTo_47
      · skip
        rw [Int32.le_iff_toInt_le, ti_12] at c_13
        refine lv_iload_n hx hb dX9_copyTo_26 rfl (lv_at hl 4 rfl) ?_
        exact W.iret (v := p3) hx hb hr (fun t ht hW => ⟨⟨p3, f, rfl, ⟨hG, (by constructor <;> omega), hfr0⟩, by rw [ht]; exact hP, va_K.moved hW.alike hK, pl_in hD⟩, hS.F ht⟩) hS.2.2 dX9_copyTo_27
set_option maxHeartbeats 8000000 in
set_option maxRecDepth 100000 in
theorem s_X5_clear_k205 (l : Launch) (D : va_G) (cI cL cZ cR cG cH : ClassId) (Z : zT) (kd : Nat → Nat) (L : List Nat) (f : Nat → va_E) (hG : GI (okc cI cL cZ cR cG cH L kd) kd L f) (o0 : Nat) (mo0 : o0 ∈ L) (ko0 : kd o0 = 205) : mPV l D cI cL cZ cR cG cH Z yX5_clear cX5_clear 1 none 1 23 [.ref o0] L f (fun (f9 : Nat → va_E) => GI (okc cI cL cZ cR cG cH L kd) kd L f9 ∧ (∀ b, kd b ≠ 205 → kd b ≠ 558 → kd b ≠ 559 → f9 b = f b)) := by
  obtain ⟨dC, dI⟩ := D
  refine Met.ofW (cc := cX5_clear) (maxL := 1) (ret := none) (by decide) rfl ?_
  intro p e s m args below meth c s₁ B hml hv
  obtain ⟨rfl, hP, hK, hD0, hN, hZ⟩ := hv
  have hx := B.exec
  have hb := B.bytes
  have hr := B.returns
  have hU : ∀ w ∈ wsU, w.before _ s = true := fun w h => atoms_spec (ws := wU yX5_clear cX5_clear 1 none) B.pre w (List.mem_cons_of_mem _ h)
  have hown : s.vm.findClass RX5 = some m.cls := findClass_of_methodNamed B.named
  have hlocks := B.notSynchronized
  have hD := pl_in hD0
  have hS : va_S (fun q => q ∈ L) s.heap s.heap [] := va_S.rf
  have hl := lv_entry ([.ref o0]) (n := 1) (Nat.le_of_ble_eq_true rfl)
  rw [lg_entry_eq]
  generalize (lg_sl ([.ref o0]) ++ List.replicate (1 - (lg_sl ([.ref o0])).length) Slot.unset).toArray = ls at hl ⊢
  have hl : lv_has ls 1 [(0, .ref o0)] := hl
  have hfr0 : ∀ b, kd b ≠ 205 → kd b ≠ 558 → kd b ≠ 559 → f b = f b := fun _ _ _ _ => rfl
  refine lv_aload_n hx hb dX5_clear_0 rfl (lv_at hl 0 rfl) ?_
  obtain ⟨a_2, a_3, a_4, v_5, v_6, v_7, hfo_1, ⟨ma_2, ka_2⟩, ⟨ma_3, ka_3⟩, ⟨ma_4, ka_4⟩⟩ := un_205 (hG _ mo0) ko0
  have bv_5 : ((-2147483648) ≤ v_5.toInt ∧ v_5.toInt ≤ 2147483647) := ⟨i32_lo _, i32_hi _⟩
  have bv_6 : ((-2147483648) ≤ v_6.toInt ∧ v_6.toInt ≤ 2147483647) := ⟨i32_lo _, i32_hi _⟩
  have bv_7 : ((-2147483648) ≤ v_7.toInt ∧ v_7.toInt ≤ 2147483647) := ⟨i32_lo _, i32_hi _⟩
  refine tk_getP (D := (dC, dI)) (ci := 5) (v := .ref a_2) (C := RX5) (T := TX5) (N := 6) hx hb hU inlX5 hown hK hP mo0 hfo_1 rfl 0 (by decide) (hU _ wd_110) (fun _ h9 => h9) rfl dX5_clear_1 ?_
  refine lv_iconst (v := 0) hx hb dX5_clear_4 (by decide) ?_
  refine tk_SvP (As := [.ref a_2, .int 0]) (rest := []) (n := 2) hx hb hml hown hU hN hZ (s_J7_fill_53178_a558 l (dC, dI) cI cL cZ cR cG cH Z kd L f hG a_2 ma_2 ka_2 0 (by decide)) wd_418 wd_266 wd_267 wd_268 (by decide +kernel) ⟨Nat.le_of_ble_eq_true rfl, Nat.le_of_ble_eq_true rfl⟩ hK hP hD hS rfl hl.1 rfl (Nat.le_of_ble_eq_true rfl) dX5_clear_5 ⟨Nat.le_of_ble_eq_true rfl, Nat.le_of_ble_eq_true rfl⟩ (fun f_9 H locs hw hP hD hS => ?_)
  obtain ⟨hG, hkc_10⟩ := hw
  have hfo_12 : f_9 o0 = .inr (5, [.ref a_2, .ref a_3, .ref a_4, .int v_5, .int v_6, .int v_7]) := by rw [hkc_10 o0 (by rw [ko0]; decide)]; exact hfo_1
  have hfr0 : ∀ b, kd b ≠ 205 → kd b ≠ 558 → kd b ≠ 559 → f_9 b = f b := fun b q205 q558 q559 => (hkc_10 b q558).trans (hfr0 b q205 q558 q559)
  refine lv_aload_n hx hb dX5_clear_8 rfl (lv_at hl 0 rfl) ?_
  refine tk_getP (D := (dC, dI)) (ci := 5) (v := .ref a_3) (C := RX5) (T := TX5) (N := 6) hx hb hU inlX5 hown hK hP mo0 hfo_12 rfl 1 (by decide) (hU _ wd_111) (fun _ h9 => h9) rfl dX5_clear_9 ?_
  refine lv_iconst (v := 0) hx hb dX5_clear_12 (by decide) ?_
  refine tk_SvP (As := [.ref a_3, .int 0]) (rest := []) (n := 2) hx hb hml hown hU hN hZ (s_J7_fill_53178_a558 l (dC, dI) cI cL cZ cR cG cH Z kd L f_9 hG a_3 ma_3 ka_3 0 (by decide)) wd_418 wd_266 wd_267 wd_268 (by decide +kernel) ⟨Nat.le_of_ble_eq_true rfl, Nat.le_of_ble_eq_true rfl⟩ hK hP hD hS rfl hl.1 rfl (Nat.le_of_ble_eq_true rfl) dX5_clear_13 ⟨Nat.le_of_ble_eq_true rfl, Nat.le_of_ble_eq_true rfl⟩ (fun f_14 H locs hw hP hD hS => ?_)
  obtain ⟨hG, hkc_15⟩ := hw
  have hfo_17 : f_14 o0 = .inr (5, [.ref a_2, .ref a_3, .ref a_4, .int v_5, .int v_6, .int v_7]) := by rw [hkc_15 o0 (by rw [ko0]; decide)]; exact hfo_12
  have hfr0 : ∀ b, kd b ≠ 205 → kd b ≠ 558 → kd b ≠ 559 → f_14 b = f b := fun b q205 q558 q559 => (hkc_15 b q558).trans (hfr0 b q205 q558 q559)
  refine lv_aload_n hx hb dX5_clear_16 rfl (lv_at hl 0 rfl) ?_
  refine tk_getP (D := (dC, dI)) (ci := 5) (v := .ref a_4) (C := RX5) (T := TX5) (N := 6) hx hb hU inlX5 hown hK hP mo0 hfo_17 rfl 2 (by decide) (hU _ wd_112) (fun _ h9 => h9) rfl dX5_clear_17 ?_
  refine lv_iconst (v := 0) hx hb dX5_clear_20 (by decide) ?_
  refine tk_SvP (As := [.ref a_4, .int 0]) (rest := []) (n := 2) hx hb hml hown hU hN hZ (s_J7_fill_53178_a559 l (dC, dI) cI cL cZ cR cG cH Z kd L f_14 hG a_4 ma_4 ka_4 0 (by decide)) wd_418 wd_266 wd_267 wd_268 (by decide +kernel) ⟨Nat.le_of_ble_eq_true rfl, Nat.le_of_ble_eq_true rfl⟩ hK hP hD hS rfl hl.1 rfl (Nat.le_of_ble_eq_true rfl) dX5_clear_21 ⟨Nat.le_of_ble_eq_true rfl, Nat.le_of_ble_eq_true rfl⟩ (fun f_19 H locs hw hP hD hS => ?_)
  obtain ⟨hG, hkc_20⟩ := hw
  have hfo_22 : f_19 o0 = .inr (5, [.ref a_2, .ref a_3, .ref a_4, .int v_5, .int v_6, .int v_7]) := by rw [hkc_20 o0 (by rw [ko0]; decide)]; exact hfo_17
  have hfr0 : ∀ b, kd b ≠ 205 → kd b ≠ 558 → kd b ≠ 559 → f_19 b = f b := fun b q205 q558 q559 => (hkc_20 b q559).trans (hfr0 b q205 q558 q559)
  refine lv_aload_n hx hb dX5_clear_24 rfl (lv_at hl 0 rfl) ?_
  refine lv_iconst (v := 0) hx hb dX5_clear_25 (by decide) ?_
  refine tk_putP (D := (dC, dI)) (ci := 5) (v := .int 0) (ty := .int) (C := RX5) (T := TX5) (N := 6) hx hb hU inlX5 tyX5 tyX5_ok nmX5 hown hK hP hD hS mo0 hfo_22 rfl 3 (by decide) (hU _ wd_415) (fun _ h9 => h9) rfl (by decide +kernel) rfl rfl (Nat.le_of_ble_eq_true rfl) dX5_clear_26 (fun H locs hP hD hS => ?_)
  obtain ⟨f_24, ef_24⟩ : ∃ y : Nat → va_E, y = va_up f_19 o0 (.inr (5, [.ref a_2, .ref a_3, .ref a_4, .int 0, .int v_6, .int v_7])) := ⟨_, rfl⟩
  have hP : va_P (dC, dI) vwCl (va_pl L f_24) H := by rw [ef_24]; exact hP
  have hD : va_D (fun q => q ∈ L) (va_pl L f_24) := by rw [ef_24]; exact hD
  have hG : GI (okc cI cL cZ cR cG cH L kd) kd L f_24 := by rw [ef_24]; exact hG.set o0 (mk_205 ko0 ⟨a_2, a_3, a_4, 0, v_6, v_7, rfl, ⟨ma_2, ka_2⟩, ⟨ma_3, ka_3⟩, ⟨ma_4, ka_4⟩⟩)
  have hfr0 : ∀ b, kd b ≠ 205 → kd b ≠ 558 → kd b ≠ 559 → f_24 b = f b := fun b q205 q558 q559 => (congrFun ef_24 b).trans ((up_ne (fun e9 => q205 (by rw [e9]; exact ko0))).trans (hfr0 b q205 q558 q559))
  have hfo_25 : f_24 o0 = .inr (5, [.ref a_2, .ref a_3, .ref a_4, .int 0, .int v_6, .int v_7]) := by rw [ef_24]; exact up_self
  refine lv_aload_n hx hb dX5_clear_29 rfl (lv_at hl 0 rfl) ?_
  refine lv_iconst (v := 0) hx hb dX5_clear_30 (by decide) ?_
  refine tk_putP (D := (dC, dI)) (ci := 5) (v := .int 0) (ty := .int) (C := RX5) (T := TX5) (N := 6) hx hb hU inlX5 tyX5 tyX5_ok nmX5 hown hK hP hD hS mo0 hfo_25 rfl 4 (by decide) (hU _ wd_416) (fun _ h9 => h9) rfl (by decide +kernel) rfl rfl (Nat.le_of_ble_eq_true rfl) dX5_clear_31 (fun H locs hP hD hS => ?_)
  obtain ⟨f_27, ef_27⟩ : ∃ y : Nat → va_E, y = va_up f_24 o0 (.inr (5, [.ref a_2, .ref a_3, .ref a_4, .int 0, .int 0, .int v_7])) := ⟨_, rfl⟩
  have hP : va_P (dC, dI) vwCl (va_pl L f_27) H := by rw [ef_27]; exact hP
  have hD : va_D (fun q => q ∈ L) (va_pl L f_27) := by rw [ef_27]; exact hD
  have hG : GI (okc cI cL cZ cR cG cH L kd) kd L f_27 := by rw [ef_27]; exact hG.set o0 (mk_205 ko0 ⟨a_2, a_3, a_4, 0, 0, v_7, rfl, ⟨ma_2, ka_2⟩, ⟨ma_3, ka_3⟩, ⟨ma_4, ka_4⟩⟩)
  have hfr0 : ∀ b, kd b ≠ 205 → kd b ≠ 558 → kd b ≠ 559 → f_27 b = f b := fun b q205 q558 q559 => (congrFun ef_27 b).trans ((up_ne (fun e9 => q205 (by rw [e9]; exact ko0))).trans (hfr0 b q205 q558 q559))
  have hfo_28 : f_27 o0 = .inr (5, [.ref a_2, .ref a_3, .ref a_4, .int 0, .int 0, .int v_7]) := by rw [ef_27]; exact up_self
  refine lv_aload_n hx hb dX5_clear_34 rfl (lv_at hl 0 rfl) ?_
  refine lv_iconst (v := 0) hx hb dX5_clear_35 (by decide) ?_
  refine tk_putP (D := (dC, dI)) (ci := 5) (v := .int 0) (ty := .int) (C := RX5) (T := TX5) (N := 6) hx hb hU inlX5 tyX5 tyX5_ok nmX5 hown hK hP hD hS mo0 hfo_28 rfl 5 (by decide) (hU _ wd_417) (fun _ h9 => h9) rfl (by decide +kernel) rfl rfl (Nat.le_of_ble_eq_true rfl) dX5_clear_36 (fun H locs hP hD hS => ?_)
  obtain ⟨f_30, ef_30⟩ : ∃ y : Nat → va_E, y = va_up f_27 o0 (.inr (5, [.ref a_2, .ref a_3, .ref a_4, .int 0, .int 0, .int 0])) := ⟨_, rfl⟩
  have hP : va_P (dC, dI) vwCl (va_pl L f_30) H := by rw [ef_30]; exact hP
  have hD : va_D (fun q => q ∈ L) (va_pl L f_30) := by rw [ef_30]; exact hD
  have hG : GI (okc cI cL cZ cR cG cH L kd) kd L f_30 := by rw [ef_30]; exact hG.set o0 (mk_205 ko0 ⟨a_2, a_3, a_4, 0, 0, 0, rfl, ⟨ma_2, ka_2⟩, ⟨ma_3, ka_3⟩, ⟨ma_4, ka_4⟩⟩)
  have hfr0 : ∀ b, kd b ≠ 205 → kd b ≠ 558 → kd b ≠ 559 → f_30 b = f b := fun b q205 q558 q559 => (congrFun ef_30 b).trans ((up_ne (fun e9 => q205 (by rw [e9]; exact ko0))).trans (hfr0 b q205 q558 q559))
  have hfo_31 : f_30 o0 = .inr (5, [.ref a_2, .ref a_3, .ref a_4, .int 0, .int 0, .int 0]) := by rw [ef_30]; exact up_self
  exact W.vret hx hb hr (fun t ht hW => ⟨⟨f_30, rfl, ⟨hG, hfr0⟩, by rw [ht]; exact hP, va_K.moved hW.alike hK, pl_in hD⟩, hS.F ht⟩) hS.2.2 dX5_clear_39
