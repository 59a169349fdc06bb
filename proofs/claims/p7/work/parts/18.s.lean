set_option maxHeartbeats 8000000 in
set_option maxRecDepth 100000 in
theorem s_X7_addLetter_k7 (l : Launch) (D : va_G) (cI cL cZ cR : ClassId) (kd : Nat → Nat) (L : List Nat) (f : Nat → va_E) (hG : GI (okc cI cL cZ cR L kd) kd L f) (o0 : Nat) (mo0 : o0 ∈ L) (ko0 : kd o0 = 7) (p1 : Int32) (bp1 : (97 ≤ p1.toInt ∧ p1.toInt ≤ 122)) (hpreo0 : ∀ (w6 : Int32) (w1 : Int32), fldI (f o0) 6 = some w6 → fldI (f o0) 1 = some w1 → w6.toInt - w1.toInt ≤ 12) : mPV l D cI cL cZ cR yX7_addLetter cX7_addLetter 2 none 1 24 [.ref o0, .int p1] L f (fun (f9 : Nat → va_E) => GI (okc cI cL cZ cR L kd) kd L f9) := by
  obtain ⟨dC, dI⟩ := D
  refine Met.ofW (cc := cX7_addLetter) (maxL := 2) (ret := none) (by decide) rfl ?_
  intro p e s m args below meth c s₁ B hml hv
  obtain ⟨rfl, hP, hK, hD0, hN⟩ := hv
  have hx := B.exec
  have hb := B.bytes
  have hr := B.returns
  have hU : ∀ w ∈ wsU, w.before _ s = true := fun w h => atoms_spec (ws := wU yX7_addLetter cX7_addLetter 2 none) B.pre w (List.mem_cons_of_mem _ h)
  have hown : s.vm.findClass RX7 = some m.cls := findClass_of_methodNamed B.named
  have hlocks := B.notSynchronized
  have hD := pl_in hD0
  have hS : va_S (fun q => q ∈ L) s.heap s.heap [] := va_S.rf
  have hl := lv_entry ([.ref o0, .int p1]) (n := 2) (Nat.le_of_ble_eq_true rfl)
  rw [lg_entry_eq]
  generalize (lg_sl ([.ref o0, .int p1]) ++ List.replicate (2 - (lg_sl ([.ref o0, .int p1])).length) Slot.unset).toArray = ls at hl ⊢
  have hl : lv_has ls 2 [(0, .ref o0), (1, .int p1)] := hl
  refine lv_aload_n hx hb dX7_addLetter_0 rfl (lv_at hl 0 rfl) ?_
  obtain ⟨a_2, v_3, a_4, a_5, a_6, a_7, v_8, a_9, a_10, a_11, a_12, a_13, v_14, a_15, a_16, a_17, hfo_1, ⟨ma_2, ka_2⟩, bv_3, ⟨ma_4, ka_4⟩, ⟨ma_5, ka_5⟩, ⟨ma_6, ka_6⟩, ⟨ma_7, ka_7⟩, bv_8, ⟨ma_9, ka_9⟩, ⟨ma_10, ka_10⟩, ⟨ma_11, ka_11⟩, ⟨ma_12, ka_12⟩, ⟨ma_13, ka_13⟩, bv_14, ⟨ma_15, ka_15⟩, ⟨ma_16, ka_16⟩, ⟨ma_17, ka_17⟩⟩ := un_7 (hG _ mo0) ko0
  have hpo0 := hpreo0 v_8 v_3 (by rw [hfo_1]; rfl) (by rw [hfo_1]; rfl)
  refine tk_getP (D := (dC, dI)) (ci := 7) (v := .int v_3) (C := RX7) (T := TX7) (N := 16) hx hb hU inlX7 hown hK hP mo0 hfo_1 rfl 1 (by decide) (hU _ wd_262) (fun _ h9 => h9) rfl dX7_addLetter_1 ?_
  refine lv_bipush (v := 8) hx hb dX7_addLetter_4 (by decide) ?_
  have hcut_19 : ∀ (f_18 : Nat → va_E), GI (okc cI cL cZ cR L kd) kd L f_18 → ∀ (H : Heap) (locs : List Loc), va_P (dC, dI) vwCl (va_pl L f_18) H → va_D (fun q => q ∈ L) (va_pl L f_18) → va_S (fun q => q ∈ L) s.heap H locs → ∀ (ls : Array Slot), lv_has ls 2 [(0, .ref o0), (1, .int p1)] → W p l e (headSpec (wU yX7_addLetter cX7_addLetter 2 none) { frames := 1, cells := 0, slots := 0, locals := 24 }).room s m [.ref o0, .int p1].toArray below meth c H locs 0 0 (MQ below (va_Qv (fun (f9 : Nat → va_E) => GI (okc cI cL cZ cR L kd) kd L f9) (qP (dC, dI) cI cL cZ cR L) (fun q => q ∈ L)) [.ref o0, .int p1].toArray s 0 0 (fun q => q ∈ L)) (F0 m 46 ls []) := by
    intro f_18 hG H locs hP hD hS ls hl
    exact W.vret hx hb hr (fun t ht hW => ⟨⟨f_18, rfl, hG, by rw [ht]; exact hP, va_K.moved hW.alike hK, pl_in hD⟩, hS.F ht⟩) hS.2.2 dX7_addLetter_46
  refine lv_icmp_ge (tgt := 46) hx hb dX7_addLetter_6 (by decide) (fun c_20 => ?_) (fun c_20 => ?_)
  · skip
    rw [Int32.le_iff_toInt_le, ti_8] at c_20
    exact hcut_19 f hG _ _ hP hD hS ls (lv_sub hl [0, 1] rfl)
  · skip
    rw [Int32.le_iff_toInt_le, ti_8] at c_20
    refine lv_aload_n hx hb dX7_addLetter_9 rfl (lv_at hl 0 rfl) ?_
    refine lv_dup hx hb dX7_addLetter_10 rfl ?_
    refine tk_getP (D := (dC, dI)) (ci := 7) (v := .int v_3) (C := RX7) (T := TX7) (N := 16) hx hb hU inlX7 hown hK hP mo0 hfo_1 rfl 1 (by decide) (hU _ wd_262) (fun _ h9 => h9) rfl dX7_addLetter_11 ?_
    refine lv_iconst (v := 1) hx hb dX7_addLetter_14 (by decide) ?_
    refine lv_iadd hx hb dX7_addLetter_15 ?_
    refine lv_topi (fun x_21 ex_21 => ?_)
    have hx_21 : x_21.toInt = v_3.toInt + 1 := by rw [ex_21, ad_I (by rw [ti_1]; omega) (by rw [ti_1]; omega), ti_1]
    have bx_21 : (1 ≤ x_21.toInt ∧ x_21.toInt ≤ 8) := by constructor <;> omega
    refine tk_putP (D := (dC, dI)) (ci := 7) (v := .int x_21) (ty := .int) (C := RX7) (T := TX7) (N := 16) hx hb hU inlX7 tyX7 tyX7_ok nmX7 hown hK hP hD hS mo0 hfo_1 rfl 1 (by decide) (hU _ wd_262) (fun _ h9 => h9) rfl (by decide +kernel) rfl rfl (Nat.le_of_ble_eq_true rfl) dX7_addLetter_16 (fun H locs hP hD hS => ?_)
    obtain ⟨f_22, ef_22⟩ : ∃ y : Nat → va_E, y = va_up f o0 (.inr (7, [.ref a_2, .int x_21, .ref a_4, .ref a_5, .ref a_6, .ref a_7, .int v_8, .ref a_9, .ref a_10, .ref a_11, .ref a_12, .ref a_13, .int v_14, .ref a_15, .ref a_16, .ref a_17])) := ⟨_, rfl⟩
    have hP : va_P (dC, dI) vwCl (va_pl L f_22) H := by rw [ef_22]; exact hP
    have hD : va_D (fun q => q ∈ L) (va_pl L f_22) := by rw [ef_22]; exact hD
    have hG : GI (okc cI cL cZ cR L kd) kd L f_22 := by rw [ef_22]; exact hG.set o0 (mk_7 ko0 ⟨a_2, x_21, a_4, a_5, a_6, a_7, v_8, a_9, a_10, a_11, a_12, a_13, v_14, a_15, a_16, a_17, rfl, ⟨ma_2, ka_2⟩, (by constructor <;> omega), ⟨ma_4, ka_4⟩, ⟨ma_5, ka_5⟩, ⟨ma_6, ka_6⟩, ⟨ma_7, ka_7⟩, (by constructor <;> omega), ⟨ma_9, ka_9⟩, ⟨ma_10, ka_10⟩, ⟨ma_11, ka_11⟩, ⟨ma_12, ka_12⟩, ⟨ma_13, ka_13⟩, (by constructor <;> omega), ⟨ma_15, ka_15⟩, ⟨ma_16, ka_16⟩, ⟨ma_17, ka_17⟩⟩)
    have hfo_23 : f_22 o0 = .inr (7, [.ref a_2, .int x_21, .ref a_4, .ref a_5, .ref a_6, .ref a_7, .int v_8, .ref a_9, .ref a_10, .ref a_11, .ref a_12, .ref a_13, .int v_14, .ref a_15, .ref a_16, .ref a_17]) := by rw [ef_22]; exact up_self
    refine lv_aload_n hx hb dX7_addLetter_19 rfl (lv_at hl 0 rfl) ?_
    refine tk_getP (D := (dC, dI)) (ci := 7) (v := .ref a_2) (C := RX7) (T := TX7) (N := 16) hx hb hU inlX7 hown hK hP mo0 hfo_23 rfl 0 (by decide) (hU _ wd_72) (fun _ h9 => h9) rfl dX7_addLetter_20 ?_
    refine lv_iload_n hx hb dX7_addLetter_23 rfl (lv_at hl 1 rfl) ?_
    refine lv_bipush (v := 97) hx hb dX7_addLetter_24 (by decide) ?_
    refine lv_isub hx hb dX7_addLetter_26 ?_
    refine lv_topi (fun x_24 ex_24 => ?_)
    have hx_24 : x_24.toInt = p1.toInt - 97 := by rw [ex_24, sb_I (by rw [ti_97]; omega) (by rw [ti_97]; omega), ti_97]
    have bx_24 : (0 ≤ x_24.toInt ∧ x_24.toInt ≤ 25) := by constructor <;> omega
    refine lv_aload_n hx hb dX7_addLetter_27 rfl (lv_at hl 0 rfl) ?_
    refine tk_getP (D := (dC, dI)) (ci := 7) (v := .int x_21) (C := RX7) (T := TX7) (N := 16) hx hb hU inlX7 hown hK hP mo0 hfo_23 rfl 1 (by decide) (hU _ wd_262) (fun _ h9 => h9) rfl dX7_addLetter_28 ?_
    obtain ⟨g_26, hfo_25, hbg_26⟩ := un_28 (hG _ ma_2) ka_2
    refine tk_istP hx hb hK hP hD hS 0 ma_2 hfo_25 rfl (vp_in_iff.mpr (by constructor <;> omega)) dX7_addLetter_31 (fun H locs hP hD hS => ?_)
    obtain ⟨f_27, ef_27⟩ : ∃ y : Nat → va_E, y = va_up f_22 a_2 (.inl (cI, 26, .inl (upd g_26 (Int32.toNatClampNeg x_24) x_21))) := ⟨_, rfl⟩
    have hP : va_P (dC, dI) vwCl (va_pl L f_27) H := by rw [ef_27]; exact hP
    have hD : va_D (fun q => q ∈ L) (va_pl L f_27) := by rw [ef_27]; exact hD
    have hG : GI (okc cI cL cZ cR L kd) kd L f_27 := by rw [ef_27]; exact hG.set a_2 (mk_28 ka_2 ⟨_, rfl, okI_up hbg_26 (by constructor <;> omega) _⟩)
    have hfo_28 : f_27 o0 = .inr (7, [.ref a_2, .int x_21, .ref a_4, .ref a_5, .ref a_6, .ref a_7, .int v_8, .ref a_9, .ref a_10, .ref a_11, .ref a_12, .ref a_13, .int v_14, .ref a_15, .ref a_16, .ref a_17]) := by rw [ef_27, up_ne (kd_ne ka_2 ko0 (by decide))]; exact hfo_23
    have hfo_29 : f_27 a_2 = .inl (cI, 26, .inl (upd g_26 (Int32.toNatClampNeg x_24) x_21)) := by rw [ef_27]; exact up_self
    refine lv_aload_n hx hb dX7_addLetter_32 rfl (lv_at hl 0 rfl) ?_
    refine lv_aload_n hx hb dX7_addLetter_33 rfl (lv_at hl 0 rfl) ?_
    refine tk_getP (D := (dC, dI)) (ci := 7) (v := .int x_21) (C := RX7) (T := TX7) (N := 16) hx hb hU inlX7 hown hK hP mo0 hfo_28 rfl 1 (by decide) (hU _ wd_262) (fun _ h9 => h9) rfl dX7_addLetter_34 ?_
    refine lv_aload_n hx hb dX7_addLetter_37 rfl (lv_at hl 0 rfl) ?_
    refine tk_getP (D := (dC, dI)) (ci := 7) (v := .int x_21) (C := RX7) (T := TX7) (N := 16) hx hb hU inlX7 hown hK hP mo0 hfo_28 rfl 1 (by decide) (hU _ wd_262) (fun _ h9 => h9) rfl dX7_addLetter_38 ?_
    refine lv_iconst (v := 0) hx hb dX7_addLetter_41 (by decide) ?_
    refine lv_iconst (v := 0) hx hb dX7_addLetter_42 (by decide) ?_
    refine tk_VvP (As := [.int x_21, .int x_21, .int 0, .int 0]) (rest := []) (n := 4) hx hb hml hown hU hN (s_X7_keepPair_k7 l (dC, dI) cI cL cZ cR kd L f_27 hG o0 mo0 ko0 x_21 (by constructor <;> omega) x_21 (by constructor <;> omega) 0 (by decide) 0 (by decide) (by intro w6 w1 e6 e1; rw [hfo_28] at e6 e1; cases e6; cases e1; omega)) wd_357 wd_358 wd_359 wd_28 wd_360 (by decide +kernel) ⟨Nat.le_of_ble_eq_true rfl, Nat.le_of_ble_eq_true rfl⟩ hK hP hD hS mo0 hfo_28 7 rfl rfl rfl hl.1 rfl (Nat.le_of_ble_eq_true rfl) dX7_addLetter_43 ⟨Nat.le_of_ble_eq_true rfl, Nat.le_of_ble_eq_true rfl⟩ (fun f_31 H locs hw hP hD hS => ?_)
    have hG : GI (okc cI cL cZ cR L kd) kd L f_31 := hw
    exact hcut_19 f_31 hG _ _ hP hD hS ls (lv_sub hl [0, 1] rfl)
set_option maxHeartbeats 8000000 in
set_option maxRecDepth 100000 in
theorem s_X7_addPair_k7 (l : Launch) (D : va_G) (cI cL cZ cR : ClassId) (kd : Nat → Nat) (L : List Nat) (f : Nat → va_E) (hG : GI (okc cI cL cZ cR L kd) kd L f) (o0 : Nat) (mo0 : o0 ∈ L) (ko0 : kd o0 = 7) (p1 : Int32) (bp1 : (0 ≤ p1.toInt ∧ p1.toInt ≤ 8)) (p2 : Int32) (bp2 : (0 ≤ p2.toInt ∧ p2.toInt ≤ 8)) : mPI l D cI cL cZ cR yX7_addPair cX7_addPair 4 (some .boolean) 1 24 [.ref o0, .int p1, .int p2] L f (fun (r : Int32) (f9 : Nat → va_E) => GI (okc cI cL cZ cR L kd) kd L f9 ∧ (0 ≤ r.toInt ∧ r.toInt ≤ 1)) := by
  obtain ⟨dC, dI⟩ := D
  refine Met.ofW (cc := cX7_addPair) (maxL := 4) (ret := (some .boolean)) (by decide) rfl ?_
  intro p e s m args below meth c s₁ B hml hv
  obtain ⟨rfl, hP, hK, hD0, hN⟩ := hv
  have hx := B.exec
  have hb := B.bytes
  have hr := B.returns
  have hU : ∀ w ∈ wsU, w.before _ s = true := fun w h => atoms_spec (ws := wU yX7_addPair cX7_addPair 4 (some .boolean)) B.pre w (List.mem_cons_of_mem _ h)
  have hown : s.vm.findClass RX7 = some m.cls := findClass_of_methodNamed B.named
  have hlocks := B.notSynchronized
  have hD := pl_in hD0
  have hS : va_S (fun q => q ∈ L) s.heap s.heap [] := va_S.rf
  have hl := lv_entry ([.ref o0, .int p1, .int p2]) (n := 4) (Nat.le_of_ble_eq_true rfl)
  rw [lg_entry_eq]
  generalize (lg_sl ([.ref o0, .int p1, .int p2]) ++ List.replicate (4 - (lg_sl ([.ref o0, .int p1, .int p2])).length) Slot.unset).toArray = ls at hl ⊢
  have hl : lv_has ls 4 [(0, .ref o0), (1, .int p1), (2, .int p2)] := hl
  refine lv_aload_n hx hb dX7_addPair_0 rfl (lv_at hl 0 rfl) ?_
  refine lv_iload_n hx hb dX7_addPair_1 rfl (lv_at hl 1 rfl) ?_
  refine lv_iload_n hx hb dX7_addPair_2 rfl (lv_at hl 2 rfl) ?_
  obtain ⟨a_2, v_3, a_4, a_5, a_6, a_7, v_8, a_9, a_10, a_11, a_12, a_13, v_14, a_15, a_16, a_17, hfo_1, ⟨ma_2, ka_2⟩, bv_3, ⟨ma_4, ka_4⟩, ⟨ma_5, ka_5⟩, ⟨ma_6, ka_6⟩, ⟨ma_7, ka_7⟩, bv_8, ⟨ma_9, ka_9⟩, ⟨ma_10, ka_10⟩, ⟨ma_11, ka_11⟩, ⟨ma_12, ka_12⟩, ⟨ma_13, ka_13⟩, bv_14, ⟨ma_15, ka_15⟩, ⟨ma_16, ka_16⟩, ⟨ma_17, ka_17⟩⟩ := un_7 (hG _ mo0) ko0
  refine tk_ViP (As := [.int p1, .int p2]) (rest := []) (n := 2) hx hb hml hown hU hN (s_X7_pairOf_k7 l (dC, dI) cI cL cZ cR kd L f hG o0 mo0 ko0 p1 p2) wd_392 wd_393 wd_394 wd_28 wd_395 (by decide +kernel) ⟨Nat.le_of_ble_eq_true rfl, Nat.le_of_ble_eq_true rfl⟩ hK hP hD hS mo0 hfo_1 7 rfl rfl rfl hl.1 rfl (Nat.le_of_ble_eq_true rfl) dX7_addPair_3 ⟨Nat.le_of_ble_eq_true rfl, Nat.le_of_ble_eq_true rfl⟩ (fun x_18 f_19 H locs hw hP hD hS => ?_)
  obtain ⟨hG, bx_18⟩ := hw
  refine lv_iconst (v := (-1)) hx hb dX7_addPair_6 (by decide) ?_
  refine lv_icmp_eq (tgt := 12) hx hb dX7_addPair_7 (by decide) (fun c_20 => ?_) (fun c_20 => ?_)
  · skip
    rw [← Int32.toInt_inj, ti_m1] at c_20
    refine lv_aload_n hx hb dX7_addPair_12 rfl (lv_at hl 0 rfl) ?_
    obtain ⟨a_22, v_23, a_24, a_25, a_26, a_27, v_28, a_29, a_30, a_31, a_32, a_33, v_34, a_35, a_36, a_37, hfo_21, ⟨ma_22, ka_22⟩, bv_23, ⟨ma_24, ka_24⟩, ⟨ma_25, ka_25⟩, ⟨ma_26, ka_26⟩, ⟨ma_27, ka_27⟩, bv_28, ⟨ma_29, ka_29⟩, ⟨ma_30, ka_30⟩, ⟨ma_31, ka_31⟩, ⟨ma_32, ka_32⟩, ⟨ma_33, ka_33⟩, bv_34, ⟨ma_35, ka_35⟩, ⟨ma_36, ka_36⟩, ⟨ma_37, ka_37⟩⟩ := un_7 (hG _ mo0) ko0
    refine tk_getP (D := (dC, dI)) (ci := 7) (v := .int v_28) (C := RX7) (T := TX7) (N := 16) hx hb hU inlX7 hown hK hP mo0 hfo_21 rfl 6 (by decide) (hU _ wd_263) (fun _ h9 => h9) rfl dX7_addPair_13 ?_
    refine lv_aload_n hx hb dX7_addPair_16 rfl (lv_at hl 0 rfl) ?_
    refine tk_getP (D := (dC, dI)) (ci := 7) (v := .int v_23) (C := RX7) (T := TX7) (N := 16) hx hb hU inlX7 hown hK hP mo0 hfo_21 rfl 1 (by decide) (hU _ wd_262) (fun _ h9 => h9) rfl dX7_addPair_17 ?_
    refine lv_isub hx hb dX7_addPair_20 ?_
    refine lv_topi (fun x_38 ex_38 => ?_)
    have hx_38 : x_38.toInt = v_28.toInt - v_23.toInt := by rw [ex_38, sb_I (by omega) (by omega)]
    have bx_38 : ((-8) ≤ x_38.toInt ∧ x_38.toInt ≤ 20) := by constructor <;> omega
    refine lv_bipush (v := 12) hx hb dX7_addPair_21 (by decide) ?_
    refine lv_icmp_lt (tgt := 30) hx hb dX7_addPair_23 (by decide) (fun c_39 => ?_) (fun c_39 => ?_)
    · skip
      rw [Int32.lt_iff_toInt_lt, ti_12] at c_39
      refine lv_iconst (v := 0) hx hb dX7_addPair_30 (by decide) ?_
      refine lv_istore_n (lv' := [(3, .int 0), (0, .ref o0), (1, .int p1), (2, .int p2)]) hx hb dX7_addPair_31 rfl hl (by decide) rfl (fun ls hl => ?_)
      refine lv_iload_n hx hb dX7_addPair_32 rfl (lv_at hl 0 rfl) ?_
      refine lv_if_ne (tgt := 56) hx hb dX7_addPair_33 (by decide) (fun c9 => absurd (by decide) c9) (fun _ => ?_)
      refine lv_aload_n hx hb dX7_addPair_36 rfl (lv_at hl 1 rfl) ?_
      refine tk_getP (D := (dC, dI)) (ci := 7) (v := .ref a_29) (C := RX7) (T := TX7) (N := 16) hx hb hU inlX7 hown hK hP mo0 hfo_21 rfl 7 (by decide) (hU _ wd_77) (fun _ h9 => h9) rfl dX7_addPair_37 ?_
      refine lv_iload_n hx hb dX7_addPair_40 rfl (lv_at hl 2 rfl) ?_
      obtain ⟨g_41, hfo_40, hbg_41⟩ := un_32 (hG _ ma_29) ka_29
      refine tk_ildP hx hb hK hP 0 ma_29 hfo_40 rfl (vp_in_iff.mpr (by constructor <;> omega)) dX7_addPair_41 ?_
      refine lv_topi (fun x_42 ex_42 => ?_)
      have bx_42 : (0 ≤ x_42.toInt ∧ x_42.toInt ≤ 3) := by rw [ex_42]; exact hbg_41 _
      refine lv_iconst (v := 3) hx hb dX7_addPair_42 (by decide) ?_
      refine lv_icmp_ge (tgt := 56) hx hb dX7_addPair_43 (by decide) (fun c_43 => ?_) (fun c_43 => ?_)
      · skip
        rw [Int32.le_iff_toInt_le, ti_3] at c_43
        refine lv_iconst (v := 0) hx hb dX7_addPair_56 (by decide) ?_
        exact W.zret (v := 0) (ty := .boolean) hx hb hr rfl (fun t ht hW => ⟨⟨0, f_19, rfl, ⟨hG, (by decide)⟩, by rw [ht]; exact hP, va_K.moved hW.alike hK, pl_in hD⟩, hS.F ht⟩) hS.2.2 dX7_addPair_57
      · skip
        rw [Int32.le_iff_toInt_le, ti_3] at c_43
        refine lv_aload_n hx hb dX7_addPair_46 rfl (lv_at hl 1 rfl) ?_
        refine tk_getP (D := (dC, dI)) (ci := 7) (v := .ref a_30) (C := RX7) (T := TX7) (N := 16) hx hb hU inlX7 hown hK hP mo0 hfo_21 rfl 8 (by decide) (hU _ wd_78) (fun _ h9 => h9) rfl dX7_addPair_47 ?_
        refine lv_iload_n hx hb dX7_addPair_50 rfl (lv_at hl 3 rfl) ?_
        obtain ⟨g_45, hfo_44, hbg_45⟩ := un_33 (hG _ ma_30) ka_30
        refine tk_ildP hx hb hK hP 0 ma_30 hfo_44 rfl (vp_in_iff.mpr (by constructor <;> omega)) dX7_addPair_51 ?_
        refine lv_topi (fun x_46 ex_46 => ?_)
        have bx_46 : (0 ≤ x_46.toInt ∧ x_46.toInt ≤ 3) := by rw [ex_46]; exact hbg_45 _
        refine lv_iconst (v := 3) hx hb dX7_addPair_52 (by decide) ?_
        refine lv_icmp_lt (tgt := 58) hx hb dX7_addPair_53 (by decide) (fun c_47 => ?_) (fun c_47 => ?_)
        · skip
          rw [Int32.lt_iff_toInt_lt, ti_3] at c_47
          refine lv_aload_n hx hb dX7_addPair_58 rfl (lv_at hl 1 rfl) ?_
          refine tk_getP (D := (dC, dI)) (ci := 7) (v := .ref a_29) (C := RX7) (T := TX7) (N := 16) hx hb hU inlX7 hown hK hP mo0 hfo_21 rfl 7 (by decide) (hU _ wd_77) (fun _ h9 => h9) rfl dX7_addPair_59 ?_
          refine lv_iload_n hx hb dX7_addPair_62 rfl (lv_at hl 2 rfl) ?_
          refine lv_dup2_11 hx hb dX7_addPair_63 rfl rfl ?_
          refine tk_ildP hx hb hK hP 0 ma_29 hfo_40 rfl (vp_in_iff.mpr (by constructor <;> omega)) dX7_addPair_64 ?_
          refine tk_topi (y := x_42) ex_42.symm ?_
          refine lv_iconst (v := 1) hx hb dX7_addPair_65 (by decide) ?_
          refine lv_iadd hx hb dX7_addPair_66 ?_
          refine lv_topi (fun x_48 ex_48 => ?_)
          have hx_48 : x_48.toInt = x_42.toInt + 1 := by rw [ex_48, ad_I (by rw [ti_1]; omega) (by rw [ti_1]; omega), ti_1]
          have bx_48 : (1 ≤ x_48.toInt ∧ x_48.toInt ≤ 3) := by constructor <;> omega
          refine tk_istP hx hb hK hP hD hS 0 ma_29 hfo_40 rfl (vp_in_iff.mpr (by constructor <;> omega)) dX7_addPair_67 (fun H locs hP hD hS => ?_)
          obtain ⟨f_49, ef_49⟩ : ∃ y : Nat → va_E, y = va_up f_19 a_29 (.inl (cI, 9, .inl (upd g_41 (Int32.toNatClampNeg p1) x_48))) := ⟨_, rfl⟩
          have hP : va_P (dC, dI) vwCl (va_pl L f_49) H := by rw [ef_49]; exact hP
          have hD : va_D (fun q => q ∈ L) (va_pl L f_49) := by rw [ef_49]; exact hD
          have hG : GI (okc cI cL cZ cR L kd) kd L f_49 := by rw [ef_49]; exact hG.set a_29 (mk_32 ka_29 ⟨_, rfl, okI_up hbg_41 (by constructor <;> omega) _⟩)
          have hfo_50 : f_49 o0 = .inr (7, [.ref a_22, .int v_23, .ref a_24, .ref a_25, .ref a_26, .ref a_27, .int v_28, .ref a_29, .ref a_30, .ref a_31, .ref a_32, .ref a_33, .int v_34, .ref a_35, .ref a_36, .ref a_37]) := by rw [ef_49, up_ne (kd_ne ka_29 ko0 (by decide))]; exact hfo_21
          have hfo_51 : f_49 a_30 = .inl (cI, 9, .inl g_45) := by rw [ef_49, up_ne (kd_ne ka_29 ka_30 (by decide))]; exact hfo_44
          have hfo_52 : f_49 a_29 = .inl (cI, 9, .inl (upd g_41 (Int32.toNatClampNeg p1) x_48)) := by rw [ef_49]; exact up_self
          refine lv_aload_n hx hb dX7_addPair_68 rfl (lv_at hl 1 rfl) ?_
          refine tk_getP (D := (dC, dI)) (ci := 7) (v := .ref a_30) (C := RX7) (T := TX7) (N := 16) hx hb hU inlX7 hown hK hP mo0 hfo_50 rfl 8 (by decide) (hU _ wd_78) (fun _ h9 => h9) rfl dX7_addPair_69 ?_
          refine lv_iload_n hx hb dX7_addPair_72 rfl (lv_at hl 3 rfl) ?_
          refine lv_dup2_11 hx hb dX7_addPair_73 rfl rfl ?_
          refine tk_ildP hx hb hK hP 0 ma_30 hfo_51 rfl (vp_in_iff.mpr (by constructor <;> omega)) dX7_addPair_74 ?_
          refine tk_topi (y := x_46) ex_46.symm ?_
          refine lv_iconst (v := 1) hx hb dX7_addPair_75 (by decide) ?_
          refine lv_iadd hx hb dX7_addPair_76 ?_
          refine lv_topi (fun x_53 ex_53 => ?_)
          have hx_53 : x_53.toInt = x_46.toInt + 1 := by rw [ex_53, ad_I (by rw [ti_1]; omega) (by rw [ti_1]; omega), ti_1]
          have bx_53 : (1 ≤ x_53.toInt ∧ x_53.toInt ≤ 3) := by constructor <;> omega
          refine tk_istP hx hb hK hP hD hS 0 ma_30 hfo_51 rfl (vp_in_iff.mpr (by constructor <;> omega)) dX7_addPair_77 (fun H locs hP hD hS => ?_)
          obtain ⟨f_54, ef_54⟩ : ∃ y : Nat → va_E, y = va_up f_49 a_30 (.inl (cI, 9, .inl (upd g_45 (Int32.toNatClampNeg p2) x_53))) := ⟨_, rfl⟩
          have hP : va_P (dC, dI) vwCl (va_pl L f_54) H := by rw [ef_54]; exact hP
          have hD : va_D (fun q => q ∈ L) (va_pl L f_54) := by rw [ef_54]; exact hD
          have hG : GI (okc cI cL cZ cR L kd) kd L f_54 := by rw [ef_54]; exact hG.set a_30 (mk_33 ka_30 ⟨_, rfl, okI_up hbg_45 (by constructor <;> omega) _⟩)
          have hfo_55 : f_54 o0 = .inr (7, [.ref a_22, .int v_23, .ref a_24, .ref a_25, .ref a_26, .ref a_27, .int v_28, .ref a_29, .ref a_30, .ref a_31, .ref a_32, .ref a_33, .int v_34, .ref a_35, .ref a_36, .ref a_37]) := by rw [ef_54, up_ne (kd_ne ka_30 ko0 (by decide))]; exact hfo_50
          have hfo_56 : f_54 a_30 = .inl (cI, 9, .inl (upd g_45 (Int32.toNatClampNeg p2) x_53)) := by rw [ef_54]; exact up_self
          refine lv_aload_n hx hb dX7_addPair_78 rfl (lv_at hl 1 rfl) ?_
          refine lv_iload_n hx hb dX7_addPair_79 rfl (lv_at hl 2 rfl) ?_
          refine lv_iload_n hx hb dX7_addPair_80 rfl (lv_at hl 3 rfl) ?_
          refine lv_aload_n hx hb dX7_addPair_81 rfl (lv_at hl 1 rfl) ?_
          refine tk_getP (D := (dC, dI)) (ci := 7) (v := .ref a_29) (C := RX7) (T := TX7) (N := 16) hx hb hU inlX7 hown hK hP mo0 hfo_55 rfl 7 (by decide) (hU _ wd_77) (fun _ h9 => h9) rfl dX7_addPair_82 ?_
          refine lv_iload_n hx hb dX7_addPair_85 rfl (lv_at hl 2 rfl) ?_
          obtain ⟨g_58, hfo_57, hbg_58⟩ := un_32 (hG _ ma_29) ka_29
          refine tk_ildP hx hb hK hP 0 ma_29 hfo_57 rfl (vp_in_iff.mpr (by constructor <;> omega)) dX7_addPair_86 ?_
          refine lv_topi (fun x_59 ex_59 => ?_)
          have bx_59 : (0 ≤ x_59.toInt ∧ x_59.toInt ≤ 3) := by rw [ex_59]; exact hbg_58 _
          refine lv_aload_n hx hb dX7_addPair_87 rfl (lv_at hl 1 rfl) ?_
          refine tk_getP (D := (dC, dI)) (ci := 7) (v := .ref a_30) (C := RX7) (T := TX7) (N := 16) hx hb hU inlX7 hown hK hP mo0 hfo_55 rfl 8 (by decide) (hU _ wd_78) (fun _ h9 => h9) rfl dX7_addPair_88 ?_
          refine lv_iload_n hx hb dX7_addPair_91 rfl (lv_at hl 3 rfl) ?_
          obtain ⟨g_61, hfo_60, hbg_61⟩ := un_33 (hG _ ma_30) ka_30
          refine tk_ildP hx hb hK hP 0 ma_30 hfo_60 rfl (vp_in_iff.mpr (by constructor <;> omega)) dX7_addPair_92 ?_
          refine lv_topi (fun x_62 ex_62 => ?_)
          have bx_62 : (0 ≤ x_62.toInt ∧ x_62.toInt ≤ 3) := by rw [ex_62]; exact hbg_61 _
          refine tk_VvP (As := [.int p1, .int p2, .int x_59, .int x_62]) (rest := []) (n := 4) hx hb hml hown hU hN (s_X7_keepPair_k7 l (dC, dI) cI cL cZ cR kd L f_54 hG o0 mo0 ko0 p1 (by constructor <;> omega) p2 (by constructor <;> omega) x_59 (by constructor <;> omega) x_62 (by constructor <;> omega) (by intro w6 w1 e6 e1; rw [hfo_55] at e6 e1; cases e6; cases e1; omega)) wd_357 wd_358 wd_359 wd_28 wd_360 (by decide +kernel) ⟨Nat.le_of_ble_eq_true rfl, Nat.le_of_ble_eq_true rfl⟩ hK hP hD hS mo0 hfo_55 7 rfl rfl rfl hl.1 rfl (Nat.le_of_ble_eq_true rfl) dX7_addPair_93 ⟨Nat.le_of_ble_eq_true rfl, Nat.le_of_ble_eq_true rfl⟩ (fun f_64 H locs hw hP hD hS => ?_)
          have hG : GI (okc cI cL cZ cR L kd) kd L f_64 := hw
          refine lv_iconst (v := 1) hx hb dX7_addPair_96 (by decide) ?_
          exact W.zret (v := 1) (ty := .boolean) hx hb hr rfl (fun t ht hW => ⟨⟨1, f_64, rfl, ⟨hG, (by decide)⟩, by rw [ht]; exact hP, va_K.moved hW.alike hK, pl_in hD⟩, hS.F ht⟩) hS.2.2 dX7_addPair_97
        · skip
          rw [Int32.lt_iff_toInt_lt, ti_3] at c_47
          refine lv_iconst (v := 0) hx hb dX7_addPair_56 (by decide) ?_
          exact W.zret (v := 0) (ty := .boolean) hx hb hr rfl (fun t ht hW => ⟨⟨0, f_19, rfl, ⟨hG, (by decide)⟩, by rw [ht]; exact hP, va_K.moved hW.alike hK, pl_in hD⟩, hS.F ht⟩) hS.2.2 dX7_addPair_57
    · skip
      rw [Int32.lt_iff_toInt_lt, ti_12] at c_39
      refine lv_iconst (v := 1) hx hb dX7_addPair_26 (by decide) ?_
      refine lv_goto (tgt := 31) hx hb dX7_addPair_27 (by decide) ?_
      refine lv_istore_n (lv' := [(3, .int 1), (0, .ref o0), (1, .int p1), (2, .int p2)]) hx hb dX7_addPair_31 rfl hl (by decide) rfl (fun ls hl => ?_)
      refine lv_iload_n hx hb dX7_addPair_32 rfl (lv_at hl 0 rfl) ?_
      refine lv_if_ne (tgt := 56) hx hb dX7_addPair_33 (by decide) (fun _ => ?_) (fun c9 => absurd c9 (by decide))
      refine lv_iconst (v := 0) hx hb dX7_addPair_56 (by decide) ?_
      exact W.zret (v := 0) (ty := .boolean) hx hb hr rfl (fun t ht hW => ⟨⟨0, f_19, rfl, ⟨hG, (by decide)⟩, by rw [ht]; exact hP, va_K.moved hW.alike hK, pl_in hD⟩, hS.F ht⟩) hS.2.2 dX7_addPair_57
  · skip
    rw [← Int32.toInt_inj, ti_m1] at c_20
    refine lv_iconst (v := 1) hx hb dX7_addPair_10 (by decide) ?_
    exact W.zret (v := 1) (ty := .boolean) hx hb hr rfl (fun t ht hW => ⟨⟨1, f_19, rfl, ⟨hG, (by decide)⟩, by rw [ht]; exact hP, va_K.moved hW.alike hK, pl_in hD⟩, hS.F ht⟩) hS.2.2 dX7_addPair_11
set_option maxHeartbeats 8000000 in
set_option maxRecDepth 100000 in
theorem s_X8_begin_k8_k7 (l : Launch) (D : va_G) (cI cL cZ cR : ClassId) (kd : Nat → Nat) (L : List Nat) (f : Nat → va_E) (hG : GI (okc cI cL cZ cR L kd) kd L f) (o0 : Nat) (mo0 : o0 ∈ L) (ko0 : kd o0 = 8) (o1 : Nat) (mo1 : o1 ∈ L) (ko1 : kd o1 = 7) : mPV l D cI cL cZ cR yX8_begin cX8_begin 3 none 0 0 [.ref o0, .ref o1] L f (fun (f9 : Nat → va_E) => GI (okc cI cL cZ cR L kd) kd L f9) := by
  obtain ⟨dC, dI⟩ := D
  refine Met.ofW (cc := cX8_begin) (maxL := 3) (ret := none) (by decide) rfl ?_
  intro p e s m args below meth c s₁ B hml hv
  obtain ⟨rfl, hP, hK, hD0, hN⟩ := hv
  have hx := B.exec
  have hb := B.bytes
  have hr := B.returns
  have hU : ∀ w ∈ wsU, w.before _ s = true := fun w h => atoms_spec (ws := wU yX8_begin cX8_begin 3 none) B.pre w (List.mem_cons_of_mem _ h)
  have hown : s.vm.findClass RX8 = some m.cls := findClass_of_methodNamed B.named
  have hlocks := B.notSynchronized
  have hD := pl_in hD0
  have hS : va_S (fun q => q ∈ L) s.heap s.heap [] := va_S.rf
  have hl := lv_entry ([.ref o0, .ref o1]) (n := 3) (Nat.le_of_ble_eq_true rfl)
  rw [lg_entry_eq]
  generalize (lg_sl ([.ref o0, .ref o1]) ++ List.replicate (3 - (lg_sl ([.ref o0, .ref o1])).length) Slot.unset).toArray = ls at hl ⊢
  have hl : lv_has ls 3 [(0, .ref o0), (1, .ref o1)] := hl
  refine lv_aload_n hx hb dX8_begin_0 rfl (lv_at hl 0 rfl) ?_
  obtain ⟨a_2, a_3, a_4, a_5, a_6, hfo_1, ⟨ma_2, ka_2⟩, ⟨ma_3, ka_3⟩, ⟨ma_4, ka_4⟩, ⟨ma_5, ka_5⟩, ⟨ma_6, ka_6⟩⟩ := un_8 (hG _ mo0) ko0
  refine tk_getP (D := (dC, dI)) (ci := 8) (v := .ref a_6) (C := RX8) (T := TX8) (N := 5) hx hb hU inlX8 hown hK hP mo0 hfo_1 rfl 4 (by decide) (hU _ wd_124) (fun _ h9 => h9) rfl dX8_begin_1 ?_
  refine lv_iconst (v := 0) hx hb dX8_begin_4 (by decide) ?_
  refine lv_iconst (v := 0) hx hb dX8_begin_5 (by decide) ?_
  obtain ⟨g_8, hfo_7, hbg_8⟩ := un_40 (hG _ ma_6) ka_6
  refine tk_istP hx hb hK hP hD hS 0 ma_6 hfo_7 rfl (vp_in_nI (n := 0) (by decide) (by decide)) dX8_begin_6 (fun H locs hP hD hS => ?_)
  obtain ⟨f_9, ef_9⟩ : ∃ y : Nat → va_E, y = va_up f a_6 (.inl (cI, 10, .inl (upd g_8 (Int32.toNatClampNeg 0) 0))) := ⟨_, rfl⟩
  have hP : va_P (dC, dI) vwCl (va_pl L f_9) H := by rw [ef_9]; exact hP
  have hD : va_D (fun q => q ∈ L) (va_pl L f_9) := by rw [ef_9]; exact hD
  have hG : GI (okc cI cL cZ cR L kd) kd L f_9 := by rw [ef_9]; exact hG.set a_6 (mk_40 ka_6 ⟨_, rfl, okI_up hbg_8 (by decide) _⟩)
  have hfo_10 : f_9 o0 = .inr (8, [.ref a_2, .ref a_3, .ref a_4, .ref a_5, .ref a_6]) := by rw [ef_9, up_ne (kd_ne ka_6 ko0 (by decide))]; exact hfo_1
  have hfo_11 : f_9 a_6 = .inl (cI, 10, .inl (upd g_8 (Int32.toNatClampNeg 0) 0)) := by rw [ef_9]; exact up_self
  refine lv_iconst (v := 0) hx hb dX8_begin_7 (by decide) ?_
  refine lv_istore_n (lv' := [(2, .int 0), (0, .ref o0), (1, .ref o1)]) hx hb dX8_begin_8 rfl hl (by decide) rfl (fun ls hl => ?_)
  have hloop_20 : ∀ (n : Nat), ∀ (y_18 : Int32), (0 ≤ y_18.toInt ∧ y_18.toInt ≤ 8) → ∀ (f_19 : Nat → va_E), GI (okc cI cL cZ cR L kd) kd L f_19 → ∀ (H : Heap) (locs : List Loc), va_P (dC, dI) vwCl (va_pl L f_19) H → va_D (fun q => q ∈ L) (va_pl L f_19) → va_S (fun q => q ∈ L) s.heap H locs → (∀ b, kd b ≠ 37 → kd b ≠ 38 → f_19 b = f_9 b) → 8 - y_18.toInt < (n : Int) → ∀ (ls : Array Slot), lv_has ls 3 [(2, .int y_18), (0, .ref o0), (1, .ref o1)] → W p l e (headSpec (wU yX8_begin cX8_begin 3 none) { frames := 0, cells := 0, slots := 0, locals := 0 }).room s m [.ref o0, .ref o1].toArray below meth c H locs 0 0 (MQ below (va_Qv (fun (f9 : Nat → va_E) => GI (okc cI cL cZ cR L kd) kd L f9) (qP (dC, dI) cI cL cZ cR L) (fun q => q ∈ L)) [.ref o0, .ref o1].toArray s 0 0 (fun q => q ∈ L)) (F0 m 9 ls []) := by
    intro n
    induction n with
    | zero => intro y_18 by_18 f_19 hG H locs hP hD hS hfr_hloop_20 hmuhloop_20 ls hl; exfalso; omega
    | succ n ih_hloop_20 =>
      intro y_18 by_18 f_19 hG H locs hP hD hS hfr_hloop_20 hmuhloop_20 ls hl
      have hfo_21 : f_19 o0 = .inr (8, [.ref a_2, .ref a_3, .ref a_4, .ref a_5, .ref a_6]) := by rw [hfr_hloop_20 o0 (by rw [ko0]; decide) (by rw [ko0]; decide)]; exact hfo_10
      refine lv_iload_n hx hb dX8_begin_9 rfl (lv_at hl 0 rfl) ?_
      refine lv_aload_n hx hb dX8_begin_10 rfl (lv_at hl 2 rfl) ?_
      obtain ⟨a_23, v_24, a_25, a_26, a_27, a_28, v_29, a_30, a_31, a_32, a_33, a_34, v_35, a_36, a_37, a_38, hfo_22, ⟨ma_23, ka_23⟩, bv_24, ⟨ma_25, ka_25⟩, ⟨ma_26, ka_26⟩, ⟨ma_27, ka_27⟩, ⟨ma_28, ka_28⟩, bv_29, ⟨ma_30, ka_30⟩, ⟨ma_31, ka_31⟩, ⟨ma_32, ka_32⟩, ⟨ma_33, ka_33⟩, ⟨ma_34, ka_34⟩, bv_35, ⟨ma_36, ka_36⟩, ⟨ma_37, ka_37⟩, ⟨ma_38, ka_38⟩⟩ := un_7 (hG _ mo1) ko1
      refine tk_getP (D := (dC, dI)) (ci := 7) (v := .int v_35) (C := RX7) (T := TX7) (N := 16) hx hb hU inlX7 hown hK hP mo1 hfo_22 rfl 12 (by decide) (hU _ wd_759) (fun _ h9 => h9) rfl dX8_begin_11 ?_
      refine lv_icmp_ge (tgt := 52) hx hb dX8_begin_14 (by decide) (fun c_39 => ?_) (fun c_39 => ?_)
      · skip
        rw [Int32.le_iff_toInt_le] at c_39
        exact W.vret hx hb hr (fun t ht hW => ⟨⟨f_19, rfl, hG, by rw [ht]; exact hP, va_K.moved hW.alike hK, pl_in hD⟩, hS.F ht⟩) hS.2.2 dX8_begin_52
      · skip
        rw [Int32.le_iff_toInt_le] at c_39
        refine lv_aload_n hx hb dX8_begin_17 rfl (lv_at hl 1 rfl) ?_
        refine tk_getP (D := (dC, dI)) (ci := 8) (v := .ref a_2) (C := RX8) (T := TX8) (N := 5) hx hb hU inlX8 hown hK hP mo0 hfo_21 rfl 0 (by decide) (hU _ wd_120) (fun _ h9 => h9) rfl dX8_begin_18 ?_
        refine lv_iload_n hx hb dX8_begin_21 rfl (lv_at hl 0 rfl) ?_
        refine lv_aload_n hx hb dX8_begin_22 rfl (lv_at hl 2 rfl) ?_
        refine tk_getP (D := (dC, dI)) (ci := 7) (v := .ref a_34) (C := RX7) (T := TX7) (N := 16) hx hb hU inlX7 hown hK hP mo1 hfo_22 rfl 11 (by decide) (hU _ wd_760) (fun _ h9 => h9) rfl dX8_begin_23 ?_
        refine lv_iload_n hx hb dX8_begin_26 rfl (lv_at hl 0 rfl) ?_
        obtain ⟨g_41, hfo_40, hbg_41⟩ := un_35 (hG _ ma_34) ka_34
        obtain ⟨a_42, hga_42, ma_42, ka_42⟩ := hbg_41 (Int32.toNatClampNeg y_18) (in_lt (vp_in_iff.mpr (by constructor <;> omega)))
        refine tk_aldP hx hb hK hP 3 ma_34 hfo_40 rfl (vp_in_iff.mpr (by constructor <;> omega)) hga_42 dX8_begin_27 ?_
        obtain ⟨v_44, v_45, v_46, v_47, a_48, a_49, a_50, a_51, v_52, v_53, v_54, hfo_43, bv_44, bv_45, bv_46, bv_47, ⟨ma_48, ka_48⟩, ⟨ma_49, ka_49⟩, ⟨ma_50, ka_50⟩, ⟨ma_51, ka_51⟩⟩ := un_4 (hG _ ma_42) ka_42
        have bv_52 : ((-2147483648) ≤ v_52.toInt ∧ v_52.toInt ≤ 2147483647) := ⟨i32_lo _, i32_hi _⟩
        have bv_53 : ((-2147483648) ≤ v_53.toInt ∧ v_53.toInt ≤ 2147483647) := ⟨i32_lo _, i32_hi _⟩
        have bv_54 : ((-2147483648) ≤ v_54.toInt ∧ v_54.toInt ≤ 2147483647) := ⟨i32_lo _, i32_hi _⟩
        refine tk_getP (D := (dC, dI)) (ci := 4) (v := .int v_52) (C := RX4) (T := TX4) (N := 11) hx hb hU inlX4 hown hK hP ma_42 hfo_43 rfl 8 (by decide) (hU _ wd_761) (fun _ h9 => h9) rfl dX8_begin_28 ?_
        obtain ⟨g_56, hfo_55, hbg_56⟩ := un_37 (hG _ ma_2) ka_2
        refine tk_istP hx hb hK hP hD hS 0 ma_2 hfo_55 rfl (vp_in_iff.mpr (by constructor <;> omega)) dX8_begin_31 (fun H locs hP hD hS => ?_)
        obtain ⟨f_57, ef_57⟩ : ∃ y : Nat → va_E, y = va_up f_19 a_2 (.inl (cI, 80, .inl (upd g_56 (Int32.toNatClampNeg y_18) v_52))) := ⟨_, rfl⟩
        have hP : va_P (dC, dI) vwCl (va_pl L f_57) H := by rw [ef_57]; exact hP
        have hD : va_D (fun q => q ∈ L) (va_pl L f_57) := by rw [ef_57]; exact hD
        have hG : GI (okc cI cL cZ cR L kd) kd L f_57 := by rw [ef_57]; exact hG.set a_2 (mk_37 ka_2 ⟨_, rfl, okI_up hbg_56 ⟨i32_lo _, i32_hi _⟩ _⟩)
        have hfo_58 : f_57 o0 = .inr (8, [.ref a_2, .ref a_3, .ref a_4, .ref a_5, .ref a_6]) := by rw [ef_57, up_ne (kd_ne ka_2 ko0 (by decide))]; exact hfo_21
        have hfo_59 : f_57 o1 = .inr (7, [.ref a_23, .int v_24, .ref a_25, .ref a_26, .ref a_27, .ref a_28, .int v_29, .ref a_30, .ref a_31, .ref a_32, .ref a_33, .ref a_34, .int v_35, .ref a_36, .ref a_37, .ref a_38]) := by rw [ef_57, up_ne (kd_ne ka_2 ko1 (by decide))]; exact hfo_22
        have hfo_60 : f_57 a_34 = .inl (cR, 8, .inr (.inr (.inr (.inr g_41)))) := by rw [ef_57, up_ne (kd_ne ka_2 ka_34 (by decide))]; exact hfo_40
        have hfo_61 : f_57 a_42 = .inr (4, [.int v_44, .int v_45, .int v_46, .int v_47, .ref a_48, .ref a_49, .ref a_50, .ref a_51, .int v_52, .int v_53, .int v_54]) := by rw [ef_57, up_ne (kd_ne ka_2 ka_42 (by decide))]; exact hfo_43
        have hfr_hloop_20 : ∀ b, kd b ≠ 37 → kd b ≠ 38 → f_57 b = f_9 b := fun b q37 q38 => by rw [ef_57, up_ne (fun e9 => q37 (by rw [e9]; exact ka_2))]; exact hfr_hloop_20 b q37 q38
        have hfo_62 : f_57 a_2 = .inl (cI, 80, .inl (upd g_56 (Int32.toNatClampNeg y_18) v_52)) := by rw [ef_57]; exact up_self
        refine lv_aload_n hx hb dX8_begin_32 rfl (lv_at hl 1 rfl) ?_
        refine tk_getP (D := (dC, dI)) (ci := 8) (v := .ref a_3) (C := RX8) (T := TX8) (N := 5) hx hb hU inlX8 hown hK hP mo0 hfo_58 rfl 1 (by decide) (hU _ wd_121) (fun _ h9 => h9) rfl dX8_begin_33 ?_
        refine lv_iload_n hx hb dX8_begin_36 rfl (lv_at hl 0 rfl) ?_
        refine lv_iconst (v := 0) hx hb dX8_begin_37 (by decide) ?_
        obtain ⟨g_64, hfo_63, hbg_64⟩ := un_37 (hG _ ma_3) ka_3
        refine tk_istP hx hb hK hP hD hS 0 ma_3 hfo_63 rfl (vp_in_iff.mpr (by constructor <;> omega)) dX8_begin_38 (fun H locs hP hD hS => ?_)
        obtain ⟨f_65, ef_65⟩ : ∃ y : Nat → va_E, y = va_up f_57 a_3 (.inl (cI, 80, .inl (upd g_64 (Int32.toNatClampNeg y_18) 0))) := ⟨_, rfl⟩
        have hP : va_P (dC, dI) vwCl (va_pl L f_65) H := by rw [ef_65]; exact hP
        have hD : va_D (fun q => q ∈ L) (va_pl L f_65) := by rw [ef_65]; exact hD
        have hG : GI (okc cI cL cZ cR L kd) kd L f_65 := by rw [ef_65]; exact hG.set a_3 (mk_37 ka_3 ⟨_, rfl, okI_up hbg_64 ⟨i32_lo _, i32_hi _⟩ _⟩)
        have hfo_66 : f_65 o0 = .inr (8, [.ref a_2, .ref a_3, .ref a_4, .ref a_5, .ref a_6]) := by rw [ef_65, up_ne (kd_ne ka_3 ko0 (by decide))]; exact hfo_58
        have hfo_67 : f_65 o1 = .inr (7, [.ref a_23, .int v_24, .ref a_25, .ref a_26, .ref a_27, .ref a_28, .int v_29, .ref a_30, .ref a_31, .ref a_32, .ref a_33, .ref a_34, .int v_35, .ref a_36, .ref a_37, .ref a_38]) := by rw [ef_65, up_ne (kd_ne ka_3 ko1 (by decide))]; exact hfo_59
        have hfo_68 : f_65 a_34 = .inl (cR, 8, .inr (.inr (.inr (.inr g_41)))) := by rw [ef_65, up_ne (kd_ne ka_3 ka_34 (by decide))]; exact hfo_60
        have hfo_69 : f_65 a_42 = .inr (4, [.int v_44, .int v_45, .int v_46, .int v_47, .ref a_48, .ref a_49, .ref a_50, .ref a_51, .int v_52, .int v_53, .int v_54]) := by rw [ef_65, up_ne (kd_ne ka_3 ka_42 (by decide))]; exact hfo_61
        have hfr_hloop_20 : ∀ b, kd b ≠ 37 → kd b ≠ 38 → f_65 b = f_9 b := fun b q37 q38 => by rw [ef_65, up_ne (fun e9 => q37 (by rw [e9]; exact ka_3))]; exact hfr_hloop_20 b q37 q38
        have hfo_70 : f_65 a_3 = .inl (cI, 80, .inl (upd g_64 (Int32.toNatClampNeg y_18) 0)) := by rw [ef_65]; exact up_self
        refine lv_aload_n hx hb dX8_begin_39 rfl (lv_at hl 1 rfl) ?_
        refine tk_getP (D := (dC, dI)) (ci := 8) (v := .ref a_4) (C := RX8) (T := TX8) (N := 5) hx hb hU inlX8 hown hK hP mo0 hfo_66 rfl 2 (by decide) (hU _ wd_122) (fun _ h9 => h9) rfl dX8_begin_40 ?_
        refine lv_iload_n hx hb dX8_begin_43 rfl (lv_at hl 0 rfl) ?_
        refine lv_iconst (v := 0) hx hb dX8_begin_44 (by decide) ?_
        obtain ⟨g_72, hfo_71, hbg_72⟩ := un_38 (hG _ ma_4) ka_4
        refine tk_istP hx hb hK hP hD hS 0 ma_4 hfo_71 rfl (vp_in_iff.mpr (by constructor <;> omega)) dX8_begin_45 (fun H locs hP hD hS => ?_)
        obtain ⟨f_73, ef_73⟩ : ∃ y : Nat → va_E, y = va_up f_65 a_4 (.inl (cI, 80, .inl (upd g_72 (Int32.toNatClampNeg y_18) 0))) := ⟨_, rfl⟩
        have hP : va_P (dC, dI) vwCl (va_pl L f_73) H := by rw [ef_73]; exact hP
        have hD : va_D (fun q => q ∈ L) (va_pl L f_73) := by rw [ef_73]; exact hD
        have hG : GI (okc cI cL cZ cR L kd) kd L f_73 := by rw [ef_73]; exact hG.set a_4 (mk_38 ka_4 ⟨_, rfl, okI_up hbg_72 (by decide) _⟩)
        have hfo_74 : f_73 o0 = .inr (8, [.ref a_2, .ref a_3, .ref a_4, .ref a_5, .ref a_6]) := by rw [ef_73, up_ne (kd_ne ka_4 ko0 (by decide))]; exact hfo_66
        have hfo_75 : f_73 o1 = .inr (7, [.ref a_23, .int v_24, .ref a_25, .ref a_26, .ref a_27, .ref a_28, .int v_29, .ref a_30, .ref a_31, .ref a_32, .ref a_33, .ref a_34, .int v_35, .ref a_36, .ref a_37, .ref a_38]) := by rw [ef_73, up_ne (kd_ne ka_4 ko1 (by decide))]; exact hfo_67
        have hfo_76 : f_73 a_34 = .inl (cR, 8, .inr (.inr (.inr (.inr g_41)))) := by rw [ef_73, up_ne (kd_ne ka_4 ka_34 (by decide))]; exact hfo_68
        have hfo_77 : f_73 a_42 = .inr (4, [.int v_44, .int v_45, .int v_46, .int v_47, .ref a_48, .ref a_49, .ref a_50, .ref a_51, .int v_52, .int v_53, .int v_54]) := by rw [ef_73, up_ne (kd_ne ka_4 ka_42 (by decide))]; exact hfo_69
        have hfr_hloop_20 : ∀ b, kd b ≠ 37 → kd b ≠ 38 → f_73 b = f_9 b := fun b q37 q38 => by rw [ef_73, up_ne (fun e9 => q38 (by rw [e9]; exact ka_4))]; exact hfr_hloop_20 b q37 q38
        have hfo_78 : f_73 a_4 = .inl (cI, 80, .inl (upd g_72 (Int32.toNatClampNeg y_18) 0)) := by rw [ef_73]; exact up_self
        obtain ⟨x_79, ex_79⟩ : ∃ y : Int32, y_18 + 1 = y := ⟨_, rfl⟩
        have hx_79 : x_79.toInt = y_18.toInt + 1 := by rw [← ex_79, ad_I (by rw [ti_1]; omega) (by rw [ti_1]; omega), ti_1]
        have bx_79 : (1 ≤ x_79.toInt ∧ x_79.toInt ≤ 8) := by constructor <;> omega
        refine lv_iinc (v := x_79) (lv' := [(2, .int x_79), (0, .ref o0), (1, .ref o1)]) hx hb dX8_begin_46 hl (k := 0) rfl ex_79 (by decide) rfl (fun ls hl => ?_)
        refine lv_goto (tgt := 9) hx hb dX8_begin_49 (by decide) ?_
        exact ih_hloop_20 x_79 (by constructor <;> omega) f_73 hG _ _ hP hD hS hfr_hloop_20 (by omega) ls (lv_sub hl [0, 1, 2] rfl)
  exact hloop_20 9 0 (by decide) f_9 hG _ _ hP hD hS (fun _ _ _ => rfl) (by (try simp only [ti_0]); omega) ls hl
set_option maxHeartbeats 8000000 in
set_option maxRecDepth 100000 in
theorem s_X8_owe_k8_k4 (l : Launch) (D : va_G) (cI cL cZ cR : ClassId) (kd : Nat → Nat) (L : List Nat) (f : Nat → va_E) (hG : GI (okc cI cL cZ cR L kd) kd L f) (o0 : Nat) (mo0 : o0 ∈ L) (ko0 : kd o0 = 8) (o1 : Nat) (mo1 : o1 ∈ L) (ko1 : kd o1 = 4) (p2 : Int32) (bp2 : (0 ≤ p2.toInt ∧ p2.toInt ≤ 79)) (p3 : Int32) : mPI l D cI cL cZ cR yX8_owe cX8_owe 8 (some .boolean) 0 0 [.ref o0, .ref o1, .int p2, .int p3] L f (fun (r : Int32) (f9 : Nat → va_E) => GI (okc cI cL cZ cR L kd) kd L f9 ∧ (0 ≤ r.toInt ∧ r.toInt ≤ 1)) := by
  obtain ⟨dC, dI⟩ := D
  refine Met.ofW (cc := cX8_owe) (maxL := 8) (ret := (some .boolean)) (by decide) rfl ?_
  intro p e s m args below meth c s₁ B hml hv
  obtain ⟨rfl, hP, hK, hD0, hN⟩ := hv
  have hx := B.exec
  have hb := B.bytes
  have hr := B.returns
  have hU : ∀ w ∈ wsU, w.before _ s = true := fun w h => atoms_spec (ws := wU yX8_owe cX8_owe 8 (some .boolean)) B.pre w (List.mem_cons_of_mem _ h)
  have hown : s.vm.findClass RX8 = some m.cls := findClass_of_methodNamed B.named
  have hlocks := B.notSynchronized
  have hD := pl_in hD0
  have hS : va_S (fun q => q ∈ L) s.heap s.heap [] := va_S.rf
  have hl := lv_entry ([.ref o0, .ref o1, .int p2, .int p3]) (n := 8) (Nat.le_of_ble_eq_true rfl)
  rw [lg_entry_eq]
  generalize (lg_sl ([.ref o0, .ref o1, .int p2, .int p3]) ++ List.replicate (8 - (lg_sl ([.ref o0, .ref o1, .int p2, .int p3])).length) Slot.unset).toArray = ls at hl ⊢
  have hl : lv_has ls 8 [(0, .ref o0), (1, .ref o1), (2, .int p2), (3, .int p3)] := hl
  have bp3 : ((-2147483648) ≤ p3.toInt ∧ p3.toInt ≤ 2147483647) := ⟨i32_lo _, i32_hi _⟩
  refine lv_iload_n hx hb dX8_owe_0 rfl (lv_at hl 3 rfl) ?_
  refine lv_aload_n hx hb dX8_owe_1 rfl (lv_at hl 1 rfl) ?_
  obtain ⟨v_2, v_3, v_4, v_5, a_6, a_7, a_8, a_9, v_10, v_11, v_12, hfo_1, bv_2, bv_3, bv_4, bv_5, ⟨ma_6, ka_6⟩, ⟨ma_7, ka_7⟩, ⟨ma_8, ka_8⟩, ⟨ma_9, ka_9⟩⟩ := un_4 (hG _ mo1) ko1
  have bv_10 : ((-2147483648) ≤ v_10.toInt ∧ v_10.toInt ≤ 2147483647) := ⟨i32_lo _, i32_hi _⟩
  have bv_11 : ((-2147483648) ≤ v_11.toInt ∧ v_11.toInt ≤ 2147483647) := ⟨i32_lo _, i32_hi _⟩
  have bv_12 : ((-2147483648) ≤ v_12.toInt ∧ v_12.toInt ≤ 2147483647) := ⟨i32_lo _, i32_hi _⟩
  refine tk_getP (D := (dC, dI)) (ci := 4) (v := .int v_12) (C := RX4) (T := TX4) (N := 11) hx hb hU inlX4 hown hK hP mo1 hfo_1 rfl 10 (by decide) (hU _ wd_842) (fun _ h9 => h9) rfl dX8_owe_2 ?_
  refine lv_iand hx hb dX8_owe_5 ?_
  refine lv_topi (fun x_13 ex_13 => ?_)
  have bx_13 : ((-2147483648) ≤ x_13.toInt ∧ x_13.toInt ≤ 2147483647) := ⟨i32_lo _, i32_hi _⟩
  refine lv_if_eq (tgt := 11) hx hb dX8_owe_6 (by decide) (fun c_14 => ?_) (fun c_14 => ?_)
  · skip
    rw [← Int32.toInt_inj, ti_0] at c_14
    refine lv_iload_n hx hb dX8_owe_11 rfl (lv_at hl 2 rfl) ?_
    refine lv_bipush (v := 10) hx hb dX8_owe_12 (by decide) ?_
    refine lv_imul hx hb dX8_owe_14 ?_
    refine lv_topi (fun x_15 ex_15 => ?_)
    have hx_15 : x_15.toInt = p2.toInt * 10 := by rw [ex_15, ml_I (by rw [ti_10]; omega) (by rw [ti_10]; omega), ti_10]
    have bx_15 : (0 ≤ x_15.toInt ∧ x_15.toInt ≤ 790) := by constructor <;> omega
    refine lv_istore (lv' := [(4, .int x_15), (0, .ref o0), (1, .ref o1), (2, .int p2), (3, .int p3)]) hx hb dX8_owe_15 hl (by decide) rfl (fun ls hl => ?_)
    refine lv_iload hx hb dX8_owe_17 (lv_at hl 0 rfl) ?_
    refine lv_aload_n hx hb dX8_owe_19 rfl (lv_at hl 1 rfl) ?_
    obtain ⟨a_17, a_18, a_19, a_20, a_21, hfo_16, ⟨ma_17, ka_17⟩, ⟨ma_18, ka_18⟩, ⟨ma_19, ka_19⟩, ⟨ma_20, ka_20⟩, ⟨ma_21, ka_21⟩⟩ := un_8 (hG _ mo0) ko0
    refine tk_getP (D := (dC, dI)) (ci := 8) (v := .ref a_19) (C := RX8) (T := TX8) (N := 5) hx hb hU inlX8 hown hK hP mo0 hfo_16 rfl 2 (by decide) (hU _ wd_122) (fun _ h9 => h9) rfl dX8_owe_20 ?_
    refine lv_iload_n hx hb dX8_owe_23 rfl (lv_at hl 3 rfl) ?_
    obtain ⟨g_23, hfo_22, hbg_23⟩ := un_38 (hG _ ma_19) ka_19
    refine tk_ildP hx hb hK hP 0 ma_19 hfo_22 rfl (vp_in_iff.mpr (by constructor <;> omega)) dX8_owe_24 ?_
    refine lv_topi (fun x_24 ex_24 => ?_)
    have bx_24 : (0 ≤ x_24.toInt ∧ x_24.toInt ≤ 10) := by rw [ex_24]; exact hbg_23 _
    refine lv_iadd hx hb dX8_owe_25 ?_
    refine lv_topi (fun x_25 ex_25 => ?_)
    have hx_25 : x_25.toInt = x_15.toInt + x_24.toInt := by rw [ex_25, ad_I (by omega) (by omega)]
    have bx_25 : (0 ≤ x_25.toInt ∧ x_25.toInt ≤ 800) := by constructor <;> omega
    refine lv_istore (lv' := [(5, .int x_25), (4, .int x_15), (0, .ref o0), (1, .ref o1), (2, .int p2), (3, .int p3)]) hx hb dX8_owe_26 hl (by decide) rfl (fun ls hl => ?_)
    have hloop_28 : ∀ (n : Nat), ∀ (y_27 : Int32), (0 ≤ y_27.toInt ∧ y_27.toInt ≤ 800) → y_27.toInt ≤ x_25.toInt → y_27.toInt - 0 < (n : Int) → ∀ (ls : Array Slot), lv_has ls 8 [(5, .int y_27), (4, .int x_15), (0, .ref o0), (1, .ref o1), (2, .int p2), (3, .int p3)] → W p l e (headSpec (wU yX8_owe cX8_owe 8 (some .boolean)) { frames := 0, cells := 0, slots := 0, locals := 0 }).room s m [.ref o0, .ref o1, .int p2, .int p3].toArray below meth c s.heap [] 0 0 (MQ below (va_Qi (fun (r : Int32) (f9 : Nat → va_E) => GI (okc cI cL cZ cR L kd) kd L f9 ∧ (0 ≤ r.toInt ∧ r.toInt ≤ 1)) (qP (dC, dI) cI cL cZ cR L) (fun q => q ∈ L)) [.ref o0, .ref o1, .int p2, .int p3].toArray s 0 0 (fun q => q ∈ L)) (F0 m 28 ls []) := by
      intro n
      induction n with
      | zero => intro y_27 by_27 hrelhloop_28_0 hmuhloop_28 ls hl; exfalso; omega
      | succ n ih_hloop_28 =>
        intro y_27 by_27 hrelhloop_28_0 hmuhloop_28 ls hl
        refine lv_iload hx hb dX8_owe_28 (lv_at hl 0 rfl) ?_
        refine lv_iload hx hb dX8_owe_30 (lv_at hl 1 rfl) ?_
        have hcut_29 : ∀ (ls : Array Slot), lv_has ls 8 [(5, .int y_27), (4, .int x_15), (0, .ref o0), (1, .ref o1), (2, .int p2), (3, .int p3)] → W p l e (headSpec (wU yX8_owe cX8_owe 8 (some .boolean)) { frames := 0, cells := 0, slots := 0, locals := 0 }).room s m [.ref o0, .ref o1, .int p2, .int p3].toArray below meth c s.heap [] 0 0 (MQ below (va_Qi (fun (r : Int32) (f9 : Nat → va_E) => GI (okc cI cL cZ cR L kd) kd L f9 ∧ (0 ≤ r.toInt ∧ r.toInt ≤ 1)) (qP (dC, dI) cI cL cZ cR L) (fun q => q ∈ L)) [.ref o0, .ref o1, .int p2, .int p3].toArray s 0 0 (fun q => q ∈ L)) (F0 m 54 ls []) := by
          intro ls hl
          refine lv_iload hx hb dX8_owe_54 (lv_at hl 0 rfl) ?_
          refine lv_iload hx hb dX8_owe_56 (lv_at hl 1 rfl) ?_
          have hcut_31 : ∀ (y_30 : Int32), (0 ≤ y_30.toInt ∧ y_30.toInt ≤ 1) → ∀ (ls : Array Slot), lv_has ls 8 [(5, .int y_27), (4, .int x_15), (0, .ref o0), (1, .ref o1), (2, .int p2), (3, .int p3)] → W p l e (headSpec (wU yX8_owe cX8_owe 8 (some .boolean)) { frames := 0, cells := 0, slots := 0, locals := 0 }).room s m [.ref o0, .ref o1, .int p2, .int p3].toArray below meth c s.heap [] 0 0 (MQ below (va_Qi (fun (r : Int32) (f9 : Nat → va_E) => GI (okc cI cL cZ cR L kd) kd L f9 ∧ (0 ≤ r.toInt ∧ r.toInt ≤ 1)) (qP (dC, dI) cI cL cZ cR L) (fun q => q ∈ L)) [.ref o0, .ref o1, .int p2, .int p3].toArray s 0 0 (fun q => q ∈ L)) (F0 m 79 ls [.int y_30]) := by
            intro y_30 by_30 ls hl
            refine lv_istore (lv' := [(6, .int y_30), (5, .int y_27), (4, .int x_15), (0, .ref o0), (1, .ref o1), (2, .int p2), (3, .int p3)]) hx hb dX8_owe_79 hl (by decide) rfl (fun ls hl => ?_)
            refine lv_iload_n hx hb dX8_owe_81 rfl (lv_at hl 6 rfl) ?_
            refine lv_if_eq (tgt := 101) hx hb dX8_owe_82 (by decide) (fun c_32 => ?_) (fun c_32 => ?_)
            · skip
              rw [← Int32.toInt_inj, ti_0] at c_32
              refine lv_iload_n hx hb dX8_owe_101 rfl (lv_at hl 6 rfl) ?_
              refine lv_if_eq (tgt := 109) hx hb dX8_owe_102 (by decide) (fun c_33 => ?_) (fun c_33 => ?_)
              · skip
                rw [← Int32.toInt_inj, ti_0] at c_33
                refine lv_iconst (v := 0) hx hb dX8_owe_109 (by decide) ?_
                exact W.zret (v := 0) (ty := .boolean) hx hb hr rfl (fun t ht hW => ⟨⟨0, f, rfl, ⟨hG, (by decide)⟩, by rw [ht]; exact hP, va_K.moved hW.alike hK, pl_in hD⟩, hS.F ht⟩) hS.2.2 dX8_owe_110
              · skip
                rw [← Int32.toInt_inj, ti_0] at c_33
                exfalso
                omega
            · skip
              rw [← Int32.toInt_inj, ti_0] at c_32
              refine lv_iload hx hb dX8_owe_85 (lv_at hl 0 rfl) ?_
              refine lv_if_ne (tgt := 101) hx hb dX8_owe_87 (by decide) (fun c_34 => ?_) (fun c_34 => ?_)
              · skip
                rw [← Int32.toInt_inj, ti_0] at c_34
                refine lv_iload_n hx hb dX8_owe_101 rfl (lv_at hl 6 rfl) ?_
                refine lv_if_eq (tgt := 109) hx hb dX8_owe_102 (by decide) (fun c_35 => ?_) (fun c_35 => ?_)
                · skip
                  rw [← Int32.toInt_inj, ti_0] at c_35
                  refine lv_iconst (v := 0) hx hb dX8_owe_109 (by decide) ?_
                  exact W.zret (v := 0) (ty := .boolean) hx hb hr rfl (fun t ht hW => ⟨⟨0, f, rfl, ⟨hG, (by decide)⟩, by rw [ht]; exact hP, va_K.moved hW.alike hK, pl_in hD⟩, hS.F ht⟩) hS.2.2 dX8_owe_110
                · skip
                  rw [← Int32.toInt_inj, ti_0] at c_35
                  refine lv_iconst (v := 1) hx hb dX8_owe_105 (by decide) ?_
                  refine lv_goto (tgt := 110) hx hb dX8_owe_106 (by decide) ?_
                  exact W.zret (v := 1) (ty := .boolean) hx hb hr rfl (fun t ht hW => ⟨⟨1, f, rfl, ⟨hG, (by decide)⟩, by rw [ht]; exact hP, va_K.moved hW.alike hK, pl_in hD⟩, hS.F ht⟩) hS.2.2 dX8_owe_110
              · skip
                rw [← Int32.toInt_inj, ti_0] at c_34
                refine lv_aload_n hx hb dX8_owe_90 rfl (lv_at hl 3 rfl) ?_
                refine tk_getP (D := (dC, dI)) (ci := 8) (v := .ref a_19) (C := RX8) (T := TX8) (N := 5) hx hb hU inlX8 hown hK hP mo0 hfo_16 rfl 2 (by decide) (hU _ wd_122) (fun _ h9 => h9) rfl dX8_owe_91 ?_
                refine lv_iload_n hx hb dX8_owe_94 rfl (lv_at hl 5 rfl) ?_
                refine tk_ildP hx hb hK hP 0 ma_19 hfo_22 rfl (vp_in_iff.mpr (by constructor <;> omega)) dX8_owe_95 ?_
                refine tk_topi (y := x_24) ex_24.symm ?_
                refine lv_bipush (v := 10) hx hb dX8_owe_96 (by decide) ?_
                refine lv_icmp_lt (tgt := 111) hx hb dX8_owe_98 (by decide) (fun c_36 => ?_) (fun c_36 => ?_)
                · skip
                  rw [Int32.lt_iff_toInt_lt, ti_10] at c_36
                  refine lv_iload hx hb dX8_owe_111 (lv_at hl 2 rfl) ?_
                  refine lv_aload_n hx hb dX8_owe_113 rfl (lv_at hl 3 rfl) ?_
                  refine tk_getP (D := (dC, dI)) (ci := 8) (v := .ref a_19) (C := RX8) (T := TX8) (N := 5) hx hb hU inlX8 hown hK hP mo0 hfo_16 rfl 2 (by decide) (hU _ wd_122) (fun _ h9 => h9) rfl dX8_owe_114 ?_
                  refine lv_iload_n hx hb dX8_owe_117 rfl (lv_at hl 5 rfl) ?_
                  refine tk_ildP hx hb hK hP 0 ma_19 hfo_22 rfl (vp_in_iff.mpr (by constructor <;> omega)) dX8_owe_118 ?_
                  refine tk_topi (y := x_24) ex_24.symm ?_
                  refine lv_iadd hx hb dX8_owe_119 ?_
                  refine lv_topi (fun x_37 ex_37 => ?_)
                  have hx_37 : x_37.toInt = x_15.toInt + x_24.toInt := by rw [ex_37, ad_I (by omega) (by omega)]
                  have bx_37 : (0 ≤ x_37.toInt ∧ x_37.toInt ≤ 799) := by constructor <;> omega
                  refine lv_istore (lv' := [(7, .int x_37), (6, .int y_30), (5, .int y_27), (4, .int x_15), (0, .ref o0), (1, .ref o1), (2, .int p2), (3, .int p3)]) hx hb dX8_owe_120 hl (by decide) rfl (fun ls hl => ?_)
                  have hloop_42 : ∀ (n : Nat), ∀ (y_40 : Int32), (0 ≤ y_40.toInt ∧ y_40.toInt ≤ 799) → ∀ (f_41 : Nat → va_E), GI (okc cI cL cZ cR L kd) kd L f_41 → ∀ (H : Heap) (locs : List Loc), va_P (dC, dI) vwCl (va_pl L f_41) H → va_D (fun q => q ∈ L) (va_pl L f_41) → va_S (fun q => q ∈ L) s.heap H locs → (∀ b, kd b ≠ 39 → f_41 b = f b) → y_40.toInt - 0 < (n : Int) → ∀ (ls : Array Slot), lv_has ls 8 [(7, .int y_40), (6, .int y_30), (5, .int y_27), (4, .int x_15), (0, .ref o0), (1, .ref o1), (2, .int p2), (3, .int p3)] → W p l e (headSpec (wU yX8_owe cX8_owe 8 (some .boolean)) { frames := 0, cells := 0, slots := 0, locals := 0 }).room s m [.ref o0, .ref o1, .int p2, .int p3].toArray below meth c H locs 0 0 (MQ below (va_Qi (fun (r : Int32) (f9 : Nat → va_E) => GI (okc cI cL cZ cR L kd) kd L f9 ∧ (0 ≤ r.toInt ∧ r.toInt ≤ 1)) (qP (dC, dI) cI cL cZ cR L) (fun q => q ∈ L)) [.ref o0, .ref o1, .int p2, .int p3].toArray s 0 0 (fun q => q ∈ L)) (F0 m 122 ls []) := by
                    intro n
                    induction n with
                    | zero => intro y_40 by_40 f_41 hG H locs hP hD hS hfr_hloop_42 hmuhloop_42 ls hl; exfalso; omega
                    | succ n ih_hloop_42 =>
                      intro y_40 by_40 f_41 hG H locs hP hD hS hfr_hloop_42 hmuhloop_42 ls hl
                      have hfo_43 : f_41 o1 = .inr (4, [.int v_2, .int v_3, .int v_4, .int v_5, .ref a_6, .ref a_7, .ref a_8, .ref a_9, .int v_10, .int v_11, .int v_12]) := by rw [hfr_hloop_42 o1 (by rw [ko1]; decide)]; exact hfo_1
                      have hfo_44 : f_41 o0 = .inr (8, [.ref a_17, .ref a_18, .ref a_19, .ref a_20, .ref a_21]) := by rw [hfr_hloop_42 o0 (by rw [ko0]; decide)]; exact hfo_16
                      have hfo_45 : f_41 a_19 = .inl (cI, 80, .inl g_23) := by rw [hfr_hloop_42 a_19 (by rw [ka_19]; decide)]; exact hfo_22
                      refine lv_iload hx hb dX8_owe_122 (lv_at hl 0 rfl) ?_
                      refine lv_iload hx hb dX8_owe_124 (lv_at hl 2 rfl) ?_
                      refine lv_icmp_le (tgt := 151) hx hb dX8_owe_126 (by decide) (fun c_46 => ?_) (fun c_46 => ?_)
                      · skip
                        rw [Int32.le_iff_toInt_le] at c_46
                        refine lv_aload_n hx hb dX8_owe_151 rfl (lv_at hl 4 rfl) ?_
                        refine tk_getP (D := (dC, dI)) (ci := 8) (v := .ref a_20) (C := RX8) (T := TX8) (N := 5) hx hb hU inlX8 hown hK hP mo0 hfo_44 rfl 3 (by decide) (hU _ wd_123) (fun _ h9 => h9) rfl dX8_owe_152 ?_
                        refine lv_iload hx hb dX8_owe_155 (lv_at hl 2 rfl) ?_
                        refine lv_iload_n hx hb dX8_owe_157 rfl (lv_at hl 7 rfl) ?_
                        obtain ⟨g_48, hfo_47, hbg_48⟩ := un_39 (hG _ ma_20) ka_20
                        refine tk_istP hx hb hK hP hD hS 0 ma_20 hfo_47 rfl (vp_in_iff.mpr (by constructor <;> omega)) dX8_owe_158 (fun H locs hP hD hS => ?_)
                        obtain ⟨f_49, ef_49⟩ : ∃ y : Nat → va_E, y = va_up f_41 a_20 (.inl (cI, 800, .inl (upd g_48 (Int32.toNatClampNeg y_27) p3))) := ⟨_, rfl⟩
                        have hP : va_P (dC, dI) vwCl (va_pl L f_49) H := by rw [ef_49]; exact hP
                        have hD : va_D (fun q => q ∈ L) (va_pl L f_49) := by rw [ef_49]; exact hD
                        have hG : GI (okc cI cL cZ cR L kd) kd L f_49 := by rw [ef_49]; exact hG.set a_20 (mk_39 ka_20 ⟨_, rfl, okI_up hbg_48 ⟨i32_lo _, i32_hi _⟩ _⟩)
                        have hfo_50 : f_49 o1 = .inr (4, [.int v_2, .int v_3, .int v_4, .int v_5, .ref a_6, .ref a_7, .ref a_8, .ref a_9, .int v_10, .int v_11, .int v_12]) := by rw [ef_49, up_ne (kd_ne ka_20 ko1 (by decide))]; exact hfo_43
                        have hfo_51 : f_49 o0 = .inr (8, [.ref a_17, .ref a_18, .ref a_19, .ref a_20, .ref a_21]) := by rw [ef_49, up_ne (kd_ne ka_20 ko0 (by decide))]; exact hfo_44
                        have hfo_52 : f_49 a_19 = .inl (cI, 80, .inl g_23) := by rw [ef_49, up_ne (kd_ne ka_20 ka_19 (by decide))]; exact hfo_45
                        have hfr_hloop_42 : ∀ b, kd b ≠ 39 → f_49 b = f b := fun b q39 => by rw [ef_49, up_ne (fun e9 => q39 (by rw [e9]; exact ka_20))]; exact hfr_hloop_42 b q39
                        have hfo_53 : f_49 a_20 = .inl (cI, 800, .inl (upd g_48 (Int32.toNatClampNeg y_27) p3)) := by rw [ef_49]; exact up_self
                        refine lv_aload_n hx hb dX8_owe_159 rfl (lv_at hl 4 rfl) ?_
                        refine tk_getP (D := (dC, dI)) (ci := 8) (v := .ref a_19) (C := RX8) (T := TX8) (N := 5) hx hb hU inlX8 hown hK hP mo0 hfo_51 rfl 2 (by decide) (hU _ wd_122) (fun _ h9 => h9) rfl dX8_owe_160 ?_
                        refine lv_iload_n hx hb dX8_owe_163 rfl (lv_at hl 6 rfl) ?_
                        refine lv_dup2_11 hx hb dX8_owe_164 rfl rfl ?_
                        refine tk_ildP hx hb hK hP 0 ma_19 hfo_52 rfl (vp_in_iff.mpr (by constructor <;> omega)) dX8_owe_165 ?_
                        refine tk_topi (y := x_24) ex_24.symm ?_
                        refine lv_iconst (v := 1) hx hb dX8_owe_166 (by decide) ?_
                        refine lv_iadd hx hb dX8_owe_167 ?_
                        refine lv_topi (fun x_54 ex_54 => ?_)
                        have hx_54 : x_54.toInt = x_24.toInt + 1 := by rw [ex_54, ad_I (by rw [ti_1]; omega) (by rw [ti_1]; omega), ti_1]
                        have bx_54 : (1 ≤ x_54.toInt ∧ x_54.toInt ≤ 10) := by constructor <;> omega
                        refine tk_istP hx hb hK hP hD hS 0 ma_19 hfo_52 rfl (vp_in_iff.mpr (by constructor <;> omega)) dX8_owe_168 (fun H locs hP hD hS => ?_)
                        obtain ⟨f_55, ef_55⟩ : ∃ y : Nat → va_E, y = va_up f_49 a_19 (.inl (cI, 80, .inl (upd g_23 (Int32.toNatClampNeg p2) x_54))) := ⟨_, rfl⟩
                        have hP : va_P (dC, dI) vwCl (va_pl L f_55) H := by rw [ef_55]; exact hP
                        have hD : va_D (fun q => q ∈ L) (va_pl L f_55) := by rw [ef_55]; exact hD
                        have hG : GI (okc cI cL cZ cR L kd) kd L f_55 := by rw [ef_55]; exact hG.set a_19 (mk_38 ka_19 ⟨_, rfl, okI_up hbg_23 (by constructor <;> omega) _⟩)
                        have hfo_56 : f_55 o1 = .inr (4, [.int v_2, .int v_3, .int v_4, .int v_5, .ref a_6, .ref a_7, .ref a_8, .ref a_9, .int v_10, .int v_11, .int v_12]) := by rw [ef_55, up_ne (kd_ne ka_19 ko1 (by decide))]; exact hfo_50
                        have hfo_57 : f_55 o0 = .inr (8, [.ref a_17, .ref a_18, .ref a_19, .ref a_20, .ref a_21]) := by rw [ef_55, up_ne (kd_ne ka_19 ko0 (by decide))]; exact hfo_51
                        have hfo_58 : f_55 a_19 = .inl (cI, 80, .inl (upd g_23 (Int32.toNatClampNeg p2) x_54)) := by rw [ef_55]; exact up_self
                        refine lv_iconst (v := 1) hx hb dX8_owe_169 (by decide) ?_
                        exact W.zret (v := 1) (ty := .boolean) hx hb hr rfl (fun t ht hW => ⟨⟨1, f_55, rfl, ⟨hG, (by decide)⟩, by rw [ht]; exact hP, va_K.moved hW.alike hK, pl_in hD⟩, hS.F ht⟩) hS.2.2 dX8_owe_170
                      · skip
                        rw [Int32.le_iff_toInt_le] at c_46
                        refine lv_aload_n hx hb dX8_owe_129 rfl (lv_at hl 4 rfl) ?_
                        refine tk_getP (D := (dC, dI)) (ci := 8) (v := .ref a_20) (C := RX8) (T := TX8) (N := 5) hx hb hU inlX8 hown hK hP mo0 hfo_44 rfl 3 (by decide) (hU _ wd_123) (fun _ h9 => h9) rfl dX8_owe_130 ?_
                        refine lv_iload hx hb dX8_owe_133 (lv_at hl 0 rfl) ?_
                        refine lv_aload_n hx hb dX8_owe_135 rfl (lv_at hl 4 rfl) ?_
                        refine tk_getP (D := (dC, dI)) (ci := 8) (v := .ref a_20) (C := RX8) (T := TX8) (N := 5) hx hb hU inlX8 hown hK hP mo0 hfo_44 rfl 3 (by decide) (hU _ wd_123) (fun _ h9 => h9) rfl dX8_owe_136 ?_
                        refine lv_iload hx hb dX8_owe_139 (lv_at hl 0 rfl) ?_
                        refine lv_iconst (v := 1) hx hb dX8_owe_141 (by decide) ?_
                        refine lv_isub hx hb dX8_owe_142 ?_
                        refine lv_topi (fun x_59 ex_59 => ?_)
                        have hx_59 : x_59.toInt = y_40.toInt - 1 := by rw [ex_59, sb_I (by rw [ti_1]; omega) (by rw [ti_1]; omega), ti_1]
                        have bx_59 : (0 ≤ x_59.toInt ∧ x_59.toInt ≤ 798) := by constructor <;> omega
                        obtain ⟨g_61, hfo_60, hbg_61⟩ := un_39 (hG _ ma_20) ka_20
                        refine tk_ildP hx hb hK hP 0 ma_20 hfo_60 rfl (vp_in_iff.mpr (by constructor <;> omega)) dX8_owe_143 ?_
                        refine lv_topi (fun x_62 ex_62 => ?_)
                        have bx_62 : ((-2147483648) ≤ x_62.toInt ∧ x_62.toInt ≤ 2147483647) := ⟨i32_lo _, i32_hi _⟩
                        refine tk_istP hx hb hK hP hD hS 0 ma_20 hfo_60 rfl (vp_in_iff.mpr (by constructor <;> omega)) dX8_owe_144 (fun H locs hP hD hS => ?_)
                        obtain ⟨f_63, ef_63⟩ : ∃ y : Nat → va_E, y = va_up f_41 a_20 (.inl (cI, 800, .inl (upd g_61 (Int32.toNatClampNeg y_40) x_62))) := ⟨_, rfl⟩
                        have hP : va_P (dC, dI) vwCl (va_pl L f_63) H := by rw [ef_63]; exact hP
                        have hD : va_D (fun q => q ∈ L) (va_pl L f_63) := by rw [ef_63]; exact hD
                        have hG : GI (okc cI cL cZ cR L kd) kd L f_63 := by rw [ef_63]; exact hG.set a_20 (mk_39 ka_20 ⟨_, rfl, okI_up hbg_61 ⟨i32_lo _, i32_hi _⟩ _⟩)
                        have hfo_64 : f_63 o1 = .inr (4, [.int v_2, .int v_3, .int v_4, .int v_5, .ref a_6, .ref a_7, .ref a_8, .ref a_9, .int v_10, .int v_11, .int v_12]) := by rw [ef_63, up_ne (kd_ne ka_20 ko1 (by decide))]; exact hfo_43
                        have hfo_65 : f_63 o0 = .inr (8, [.ref a_17, .ref a_18, .ref a_19, .ref a_20, .ref a_21]) := by rw [ef_63, up_ne (kd_ne ka_20 ko0 (by decide))]; exact hfo_44
                        have hfo_66 : f_63 a_19 = .inl (cI, 80, .inl g_23) := by rw [ef_63, up_ne (kd_ne ka_20 ka_19 (by decide))]; exact hfo_45
                        have hfr_hloop_42 : ∀ b, kd b ≠ 39 → f_63 b = f b := fun b q39 => by rw [ef_63, up_ne (fun e9 => q39 (by rw [e9]; exact ka_20))]; exact hfr_hloop_42 b q39
                        have hfo_67 : f_63 a_20 = .inl (cI, 800, .inl (upd g_61 (Int32.toNatClampNeg y_40) x_62)) := by rw [ef_63]; exact up_self
                        obtain ⟨x_68, ex_68⟩ : ∃ y : Int32, y_40 + (-1) = y := ⟨_, rfl⟩
                        have hx_68 : x_68.toInt = y_40.toInt + (-1) := by rw [← ex_68, ad_I (by rw [ti_m1]; omega) (by rw [ti_m1]; omega), ti_m1]
                        have bx_68 : (0 ≤ x_68.toInt ∧ x_68.toInt ≤ 798) := by constructor <;> omega
                        refine lv_iinc (v := x_68) (lv' := [(7, .int x_68), (6, .int y_30), (5, .int y_27), (4, .int x_15), (0, .ref o0), (1, .ref o1), (2, .int p2), (3, .int p3)]) hx hb dX8_owe_145 hl (k := 0) rfl ex_68 (by decide) rfl (fun ls hl => ?_)
                        refine lv_goto (tgt := 122) hx hb dX8_owe_148 (by decide) ?_
                        exact ih_hloop_42 x_68 (by constructor <;> omega) f_63 hG _ _ hP hD hS hfr_hloop_42 (by omega) ls (lv_sub hl [0, 1, 2, 3, 4, 5, 6, 7] rfl)
                  exact hloop_42 800 x_37 (by constructor <;> omega) f hG _ _ hP hD hS (fun _ _ => rfl) (by omega) ls hl
                · skip
                  rw [Int32.lt_iff_toInt_lt, ti_10] at c_36
                  refine lv_iload_n hx hb dX8_owe_101 rfl (lv_at hl 6 rfl) ?_
                  refine lv_if_eq (tgt := 109) hx hb dX8_owe_102 (by decide) (fun c_69 => ?_) (fun c_69 => ?_)
                  · skip
                    rw [← Int32.toInt_inj, ti_0] at c_69
                    refine lv_iconst (v := 0) hx hb dX8_owe_109 (by decide) ?_
                    exact W.zret (v := 0) (ty := .boolean) hx hb hr rfl (fun t ht hW => ⟨⟨0, f, rfl, ⟨hG, (by decide)⟩, by rw [ht]; exact hP, va_K.moved hW.alike hK, pl_in hD⟩, hS.F ht⟩) hS.2.2 dX8_owe_110
                  · skip
                    rw [← Int32.toInt_inj, ti_0] at c_69
                    refine lv_iconst (v := 1) hx hb dX8_owe_105 (by decide) ?_
                    refine lv_goto (tgt := 110) hx hb dX8_owe_106 (by decide) ?_
                    exact W.zret (v := 1) (ty := .boolean) hx hb hr rfl (fun t ht hW => ⟨⟨1, f, rfl, ⟨hG, (by decide)⟩, by rw [ht]; exact hP, va_K.moved hW.alike hK, pl_in hD⟩, hS.F ht⟩) hS.2.2 dX8_owe_110
          refine lv_icmp_le (tgt := 78) hx hb dX8_owe_58 (by decide) (fun c_70 => ?_) (fun c_70 => ?_)
          · skip
            rw [Int32.le_iff_toInt_le] at c_70
            refine lv_iconst (v := 0) hx hb dX8_owe_78 (by decide) ?_
            exact hcut_31 0 (by decide) ls (lv_sub hl [0, 1, 2, 3, 4, 5] rfl)
          · skip
            rw [Int32.le_iff_toInt_le] at c_70
            refine lv_aload_n hx hb dX8_owe_61 rfl (lv_at hl 2 rfl) ?_
            refine tk_getP (D := (dC, dI)) (ci := 8) (v := .ref a_20) (C := RX8) (T := TX8) (N := 5) hx hb hU inlX8 hown hK hP mo0 hfo_16 rfl 3 (by decide) (hU _ wd_123) (fun _ h9 => h9) rfl dX8_owe_62 ?_
            refine lv_iload hx hb dX8_owe_65 (lv_at hl 0 rfl) ?_
            refine lv_iconst (v := 1) hx hb dX8_owe_67 (by decide) ?_
            refine lv_isub hx hb dX8_owe_68 ?_
            refine lv_topi (fun x_71 ex_71 => ?_)
            have hx_71 : x_71.toInt = y_27.toInt - 1 := by rw [ex_71, sb_I (by rw [ti_1]; omega) (by rw [ti_1]; omega), ti_1]
            have bx_71 : (0 ≤ x_71.toInt ∧ x_71.toInt ≤ 799) := by constructor <;> omega
            obtain ⟨g_73, hfo_72, hbg_73⟩ := un_39 (hG _ ma_20) ka_20
            refine tk_ildP hx hb hK hP 0 ma_20 hfo_72 rfl (vp_in_iff.mpr (by constructor <;> omega)) dX8_owe_69 ?_
            refine lv_topi (fun x_74 ex_74 => ?_)
            have bx_74 : ((-2147483648) ≤ x_74.toInt ∧ x_74.toInt ≤ 2147483647) := ⟨i32_lo _, i32_hi _⟩
            refine lv_iload_n hx hb dX8_owe_70 rfl (lv_at hl 5 rfl) ?_
            refine lv_icmp_ne (tgt := 78) hx hb dX8_owe_71 (by decide) (fun c_75 => ?_) (fun c_75 => ?_)
            · skip
              rw [← Int32.toInt_inj] at c_75
              refine lv_iconst (v := 0) hx hb dX8_owe_78 (by decide) ?_
              exact hcut_31 0 (by decide) ls (lv_sub hl [0, 1, 2, 3, 4, 5] rfl)
            · skip
              rw [← Int32.toInt_inj] at c_75
              refine lv_iconst (v := 1) hx hb dX8_owe_74 (by decide) ?_
              refine lv_goto (tgt := 79) hx hb dX8_owe_75 (by decide) ?_
              exact hcut_31 1 (by decide) ls (lv_sub hl [0, 1, 2, 3, 4, 5] rfl)
        refine lv_icmp_le (tgt := 54) hx hb dX8_owe_32 (by decide) (fun c_76 => ?_) (fun c_76 => ?_)
        · skip
          rw [Int32.le_iff_toInt_le] at c_76
          exact hcut_29 ls (lv_sub hl [0, 1, 2, 3, 4, 5] rfl)
        · skip
          rw [Int32.le_iff_toInt_le] at c_76
          refine lv_aload_n hx hb dX8_owe_35 rfl (lv_at hl 2 rfl) ?_
          refine tk_getP (D := (dC, dI)) (ci := 8) (v := .ref a_20) (C := RX8) (T := TX8) (N := 5) hx hb hU inlX8 hown hK hP mo0 hfo_16 rfl 3 (by decide) (hU _ wd_123) (fun _ h9 => h9) rfl dX8_owe_36 ?_
          refine lv_iload hx hb dX8_owe_39 (lv_at hl 0 rfl) ?_
          refine lv_iconst (v := 1) hx hb dX8_owe_41 (by decide) ?_
          refine lv_isub hx hb dX8_owe_42 ?_
          refine lv_topi (fun x_77 ex_77 => ?_)
          have hx_77 : x_77.toInt = y_27.toInt - 1 := by rw [ex_77, sb_I (by rw [ti_1]; omega) (by rw [ti_1]; omega), ti_1]
          have bx_77 : (0 ≤ x_77.toInt ∧ x_77.toInt ≤ 799) := by constructor <;> omega
          obtain ⟨g_79, hfo_78, hbg_79⟩ := un_39 (hG _ ma_20) ka_20
          refine tk_ildP hx hb hK hP 0 ma_20 hfo_78 rfl (vp_in_iff.mpr (by constructor <;> omega)) dX8_owe_43 ?_
          refine lv_topi (fun x_80 ex_80 => ?_)
          have bx_80 : ((-2147483648) ≤ x_80.toInt ∧ x_80.toInt ≤ 2147483647) := ⟨i32_lo _, i32_hi _⟩
          refine lv_iload_n hx hb dX8_owe_44 rfl (lv_at hl 5 rfl) ?_
          refine lv_icmp_le (tgt := 54) hx hb dX8_owe_45 (by decide) (fun c_81 => ?_) (fun c_81 => ?_)
          · skip
            rw [Int32.le_iff_toInt_le] at c_81
            exact hcut_29 ls (lv_sub hl [0, 1, 2, 3, 4, 5] rfl)
          · skip
            rw [Int32.le_iff_toInt_le] at c_81
            obtain ⟨x_82, ex_82⟩ : ∃ y : Int32, y_27 + (-1) = y := ⟨_, rfl⟩
            have hx_82 : x_82.toInt = y_27.toInt + (-1) := by rw [← ex_82, ad_I (by rw [ti_m1]; omega) (by rw [ti_m1]; omega), ti_m1]
            have bx_82 : (0 ≤ x_82.toInt ∧ x_82.toInt ≤ 799) := by constructor <;> omega
            refine lv_iinc (v := x_82) (lv' := [(5, .int x_82), (4, .int x_15), (0, .ref o0), (1, .ref o1), (2, .int p2), (3, .int p3)]) hx hb dX8_owe_48 hl (k := 0) rfl ex_82 (by decide) rfl (fun ls hl => ?_)
            refine lv_goto (tgt := 28) hx hb dX8_owe_51 (by decide) ?_
            exact ih_hloop_28 x_82 (by constructor <;> omega) (by omega) (by omega) ls (lv_sub hl [0, 1, 2, 3, 4, 5] rfl)
    exact hloop_28 801 x_25 (by constructor <;> omega) (by omega) (by omega) ls hl
  · skip
    rw [← Int32.toInt_inj, ti_0] at c_14
    refine lv_iconst (v := 1) hx hb dX8_owe_9 (by decide) ?_
    exact W.zret (v := 1) (ty := .boolean) hx hb hr rfl (fun t ht hW => ⟨⟨1, f, rfl, ⟨hG, (by decide)⟩, by rw [ht]; exact hP, va_K.moved hW.alike hK, pl_in hD⟩, hS.F ht⟩) hS.2.2 dX8_owe_10
