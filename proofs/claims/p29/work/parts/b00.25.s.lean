set_option maxHeartbeats 8000000 in
set_option maxRecDepth 100000 in
theorem s_X6_moveRule_k6 (l : Launch) (D : va_G) (cI cL cZ cR cG cH : ClassId) (Z : zT) (kd : Nat → Nat) (L : List Nat) (f : Nat → va_E) (hG : GI (okc cI cL cZ cR cG cH L kd) kd L f) (o0 : Nat) (mo0 : o0 ∈ L) (ko0 : kd o0 = 6) (p1 : Int32) (bp1 : (0 ≤ p1.toInt ∧ p1.toInt ≤ 7)) (p2 : Int32) (bp2 : (0 ≤ p2.toInt ∧ p2.toInt ≤ 7)) (p3 : Int32) (bp3 : (0 ≤ p3.toInt ∧ p3.toInt ≤ 8)) : mPV l D cI cL cZ cR cG cH Z yX6_moveRule cX6_moveRule 5 none 0 0 [.ref o0, .int p1, .int p2, .int p3] L f (fun (f9 : Nat → va_E) => GI (okc cI cL cZ cR cG cH L kd) kd L f9 ∧ (∀ b, kd b ≠ 530 → f9 b = f b)) := by
  obtain ⟨dC, dI⟩ := D
  refine Met.ofW (cc := cX6_moveRule) (maxL := 5) (ret := none) (by decide) rfl ?_
  intro p e s m args below meth c s₁ B hml hv
  obtain ⟨rfl, hP, hK, hD0, hN, hZ⟩ := hv
  have hx := B.exec
  have hb := B.bytes
  have hr := B.returns
  have hU : ∀ w ∈ wsU, w.before _ s = true := fun w h => atoms_spec (ws := wU yX6_moveRule cX6_moveRule 5 none) B.pre w (List.mem_cons_of_mem _ h)
  have hown : s.vm.findClass RX6 = some m.cls := findClass_of_methodNamed B.named
  have hlocks := B.notSynchronized
  have hD := pl_in hD0
  have hS : va_S (fun q => q ∈ L) s.heap s.heap [] := va_S.rf
  have hl := lv_entry ([.ref o0, .int p1, .int p2, .int p3]) (n := 5) (Nat.le_of_ble_eq_true rfl)
  rw [lg_entry_eq]
  generalize (lg_sl ([.ref o0, .int p1, .int p2, .int p3]) ++ List.replicate (5 - (lg_sl ([.ref o0, .int p1, .int p2, .int p3])).length) Slot.unset).toArray = ls at hl ⊢
  have hl : lv_has ls 5 [(0, .ref o0), (1, .int p1), (2, .int p2), (3, .int p3)] := hl
  have hfr0 : ∀ b, kd b ≠ 530 → f b = f b := fun _ _ => rfl
  refine lv_iconst (v := 0) hx hb dX6_moveRule_0 (by decide) ?_
  refine lv_istore (lv' := [(4, .int 0), (0, .ref o0), (1, .int p1), (2, .int p2), (3, .int p3)]) hx hb dX6_moveRule_1 hl (by decide) rfl (fun ls hl => ?_)
  have hloop_13 : ∀ (n : Nat), ∀ (y_14 : Int32), (0 ≤ y_14.toInt ∧ y_14.toInt ≤ 8) → ∀ (f_16 : Nat → va_E), GI (okc cI cL cZ cR cG cH L kd) kd L f_16 → ∀ (H : Heap) (locs : List Loc), va_P (dC, dI) vwCl (va_pl L f_16) H → va_S (fun q => q ∈ L) s.heap H locs → va_D (fun q => q ∈ L) (va_pl L f_16) → (∀ b, kd b ≠ 530 → f_16 b = f b) → 8 - y_14.toInt < (n : Int) → ∀ (ls : Array Slot), lv_has ls 5 [(4, .int y_14), (0, .ref o0), (1, .int p1), (2, .int p2), (3, .int p3)] → W p l e (headSpec (wU yX6_moveRule cX6_moveRule 5 none) { frames := 0, cells := 0, slots := 0, locals := 0 }).room s m [.ref o0, .int p1, .int p2, .int p3].toArray below meth c H locs 0 0 (MQ below (va_Qv (fun (f9 : Nat → va_E) => GI (okc cI cL cZ cR cG cH L kd) kd L f9 ∧ (∀ b, kd b ≠ 530 → f9 b = f b)) (qP (dC, dI) cI cL cZ cR cG cH L) (fun q => q ∈ L)) [.ref o0, .int p1, .int p2, .int p3].toArray s 0 0 (fun q => q ∈ L)) (F0 m 3 ls []) := by
    intro n
    induction n with
    | zero => intro y_14 by_14 f_16 hG H locs hP hS hD hfr0 hmuhloop_13 ls hl; exfalso; omega
    | succ n ih_hloop_13 =>
      intro y_14 by_14 f_16 hG H locs hP hS hD hfr0 hmuhloop_13 ls hl
      refine lv_iload hx hb dX6_moveRule_3 (lv_at hl 0 rfl) ?_
      refine lv_iload_n hx hb dX6_moveRule_5 rfl (lv_at hl 4 rfl) ?_
      refine lv_icmp_ge (tgt := 47) hx hb dX6_moveRule_6 (by decide) (fun c_17 => ?_) (fun c_17 => ?_)
      · skip
        rw [Int32.le_iff_toInt_le] at c_17
        exact W.vret hx hb hr (fun t ht hW => ⟨⟨f_16, rfl, ⟨hG, hfr0⟩, by rw [ht]; exact hP, va_K.moved hW.alike hK, pl_in hD⟩, hS.F ht⟩) hS.2.2 dX6_moveRule_47
      · skip
        rw [Int32.le_iff_toInt_le] at c_17
        refine lv_aload_n hx hb dX6_moveRule_9 rfl (lv_at hl 1 rfl) ?_
        obtain ⟨v_19, v_20, a_21, a_22, a_23, v_24, a_25, a_26, a_27, hfo_18, bv_20, ⟨ma_21, ka_21⟩, ⟨ma_22, ka_22⟩, ⟨ma_23, ka_23⟩, ⟨ma_25, ka_25⟩, ⟨ma_26, ka_26⟩, ⟨ma_27, ka_27⟩⟩ := un_6 (hG _ mo0) ko0
        have bv_19 : ((-2147483648) ≤ v_19.toInt ∧ v_19.toInt ≤ 2147483647) := ⟨i32_lo _, i32_hi _⟩
        have bv_24 : ((-2147483648) ≤ v_24.toInt ∧ v_24.toInt ≤ 2147483647) := ⟨i32_lo _, i32_hi _⟩
        refine tk_getP (D := (dC, dI)) (ci := 6) (v := .ref a_21) (C := RX6) (T := TX6) (N := 9) hx hb hU inlX6 hown hK hP mo0 hfo_18 rfl 2 (by decide) (hU _ wd_137) (fun _ h9 => h9) rfl dX6_moveRule_10 ?_
        refine lv_iload hx hb dX6_moveRule_13 (lv_at hl 0 rfl) ?_
        obtain ⟨g_29, hfo_28, hbg_29⟩ := un_530 (hG _ ma_21) ka_21
        refine tk_ildP hx hb hK hP 0 ma_21 hfo_28 rfl (vp_in_iff.mpr (by constructor <;> omega)) dX6_moveRule_15 ?_
        refine lv_topi (fun x_30 ex_30 => ?_)
        have bx_30 : (0 ≤ x_30.toInt ∧ x_30.toInt ≤ 7) := by rw [ex_30]; exact hbg_29 _
        refine lv_iload_n hx hb dX6_moveRule_16 rfl (lv_at hl 3 rfl) ?_
        refine lv_icmp_ne (tgt := 41) hx hb dX6_moveRule_17 (by decide) (fun c_31 => ?_) (fun c_31 => ?_)
        · skip
          rw [← Int32.toInt_inj] at c_31
          obtain ⟨x_32, ex_32⟩ : ∃ y : Int32, y_14 + 1 = y := ⟨_, rfl⟩
          have hx_32 : x_32.toInt = y_14.toInt + 1 := by rw [← ex_32, ad_I (by rw [ti_1]; omega) (by rw [ti_1]; omega), ti_1]
          have bx_32 : (1 ≤ x_32.toInt ∧ x_32.toInt ≤ 8) := by constructor <;> omega
          refine lv_iinc (v := x_32) (lv' := [(4, .int x_32), (0, .ref o0), (1, .int p1), (2, .int p2), (3, .int p3)]) hx hb dX6_moveRule_41 hl (k := 0) rfl ex_32 (by decide) rfl (fun ls hl => ?_)
          refine lv_goto (tgt := 3) hx hb dX6_moveRule_44 (by decide) ?_
          exact ih_hloop_13 x_32 (by constructor <;> omega) f_16 hG _ _ hP hS hD hfr0 (by omega) ls (lv_sub hl [0, 1, 2, 3, 4] rfl)
        · skip
          rw [← Int32.toInt_inj] at c_31
          refine lv_aload_n hx hb dX6_moveRule_20 rfl (lv_at hl 1 rfl) ?_
          refine tk_getP (D := (dC, dI)) (ci := 6) (v := .ref a_21) (C := RX6) (T := TX6) (N := 9) hx hb hU inlX6 hown hK hP mo0 hfo_18 rfl 2 (by decide) (hU _ wd_137) (fun _ h9 => h9) rfl dX6_moveRule_21 ?_
          refine lv_iload hx hb dX6_moveRule_24 (lv_at hl 0 rfl) ?_
          refine lv_aload_n hx hb dX6_moveRule_26 rfl (lv_at hl 1 rfl) ?_
          refine tk_getP (D := (dC, dI)) (ci := 6) (v := .ref a_21) (C := RX6) (T := TX6) (N := 9) hx hb hU inlX6 hown hK hP mo0 hfo_18 rfl 2 (by decide) (hU _ wd_137) (fun _ h9 => h9) rfl dX6_moveRule_27 ?_
          refine lv_iload_n hx hb dX6_moveRule_30 rfl (lv_at hl 2 rfl) ?_
          refine tk_ildP hx hb hK hP 0 ma_21 hfo_28 rfl (vp_in_iff.mpr (by constructor <;> omega)) dX6_moveRule_31 ?_
          refine lv_topi (fun x_33 ex_33 => ?_)
          have bx_33 : (0 ≤ x_33.toInt ∧ x_33.toInt ≤ 7) := by rw [ex_33]; exact hbg_29 _
          refine tk_istP hx hb hK hP hD hS 0 ma_21 hfo_28 rfl (vp_in_iff.mpr (by constructor <;> omega)) dX6_moveRule_32 (fun H locs hP hD hS => ?_)
          obtain ⟨f_35, ef_35⟩ : ∃ y : Nat → va_E, y = va_up f_16 a_21 (.inl (cI, 8, .inl (upd g_29 (Int32.toNatClampNeg y_14) x_33))) := ⟨_, rfl⟩
          have hP : va_P (dC, dI) vwCl (va_pl L f_35) H := by rw [ef_35]; exact hP
          have hD : va_D (fun q => q ∈ L) (va_pl L f_35) := by rw [ef_35]; exact hD
          have hG : GI (okc cI cL cZ cR cG cH L kd) kd L f_35 := by rw [ef_35]; exact hG.set a_21 (mk_530 ka_21 ⟨_, rfl, okI_up hbg_29 (by constructor <;> omega) _⟩)
          have hfo_36 : f_35 o0 = .inr (6, [.int v_19, .int v_20, .ref a_21, .ref a_22, .ref a_23, .int v_24, .ref a_25, .ref a_26, .ref a_27]) := by rw [ef_35, up_ne (kd_ne ka_21 ko0 (by decide))]; exact hfo_18
          have hfr0 : ∀ b, kd b ≠ 530 → f_35 b = f b := fun b q530 => (congrFun ef_35 b).trans ((up_ne (fun e9 => q530 (by rw [e9]; exact ka_21))).trans (hfr0 b q530))
          have hfo_37 : f_35 a_21 = .inl (cI, 8, .inl (upd g_29 (Int32.toNatClampNeg y_14) x_33)) := by rw [ef_35]; exact up_self
          refine lv_aload_n hx hb dX6_moveRule_33 rfl (lv_at hl 1 rfl) ?_
          refine tk_getP (D := (dC, dI)) (ci := 6) (v := .ref a_21) (C := RX6) (T := TX6) (N := 9) hx hb hU inlX6 hown hK hP mo0 hfo_36 rfl 2 (by decide) (hU _ wd_137) (fun _ h9 => h9) rfl dX6_moveRule_34 ?_
          refine lv_iload_n hx hb dX6_moveRule_37 rfl (lv_at hl 2 rfl) ?_
          refine lv_iload_n hx hb dX6_moveRule_38 rfl (lv_at hl 3 rfl) ?_
          obtain ⟨g_39, hfo_38, hbg_39⟩ := un_530 (hG _ ma_21) ka_21
          refine tk_istP hx hb hK hP hD hS 0 ma_21 hfo_38 rfl (vp_in_iff.mpr (by constructor <;> omega)) dX6_moveRule_39 (fun H locs hP hD hS => ?_)
          obtain ⟨f_41, ef_41⟩ : ∃ y : Nat → va_E, y = va_up f_35 a_21 (.inl (cI, 8, .inl (upd g_39 (Int32.toNatClampNeg p1) p2))) := ⟨_, rfl⟩
          have hP : va_P (dC, dI) vwCl (va_pl L f_41) H := by rw [ef_41]; exact hP
          have hD : va_D (fun q => q ∈ L) (va_pl L f_41) := by rw [ef_41]; exact hD
          have hG : GI (okc cI cL cZ cR cG cH L kd) kd L f_41 := by rw [ef_41]; exact hG.set a_21 (mk_530 ka_21 ⟨_, rfl, okI_up hbg_39 (by constructor <;> omega) _⟩)
          have hfo_42 : f_41 o0 = .inr (6, [.int v_19, .int v_20, .ref a_21, .ref a_22, .ref a_23, .int v_24, .ref a_25, .ref a_26, .ref a_27]) := by rw [ef_41, up_ne (kd_ne ka_21 ko0 (by decide))]; exact hfo_36
          have hfr0 : ∀ b, kd b ≠ 530 → f_41 b = f b := fun b q530 => (congrFun ef_41 b).trans ((up_ne (fun e9 => q530 (by rw [e9]; exact ka_21))).trans (hfr0 b q530))
          have hfo_43 : f_41 a_21 = .inl (cI, 8, .inl (upd g_39 (Int32.toNatClampNeg p1) p2)) := by rw [ef_41]; exact up_self
          exact W.vret hx hb hr (fun t ht hW => ⟨⟨f_41, rfl, ⟨hG, hfr0⟩, by rw [ht]; exact hP, va_K.moved hW.alike hK, pl_in hD⟩, hS.F ht⟩) hS.2.2 dX6_moveRule_40
  exact hloop_13 9 0 (by decide) f hG _ _ hP hS hD hfr0 (by (try rw [ti_0]) <;> omega) ls hl
set_option maxHeartbeats 8000000 in
set_option maxRecDepth 100000 in
theorem s_X6_openExample_k6 (l : Launch) (D : va_G) (cI cL cZ cR cG cH : ClassId) (Z : zT) (kd : Nat → Nat) (L : List Nat) (f : Nat → va_E) (hG : GI (okc cI cL cZ cR cG cH L kd) kd L f) (o0 : Nat) (mo0 : o0 ∈ L) (ko0 : kd o0 = 6) (p1 : Int32) (bp1 : (0 ≤ p1.toInt ∧ p1.toInt ≤ 1)) : mPV l D cI cL cZ cR cG cH Z yX6_openExample cX6_openExample 2 none 1 20 [.ref o0, .int p1] L f (fun (f9 : Nat → va_E) => GI (okc cI cL cZ cR cG cH L kd) kd L f9 ∧ (∀ b, kd b ≠ 6 → kd b ≠ 9 → kd b ≠ 505 → f9 b = f b) ∧ (∀ b, kd b = 6 → fldI (f9 b) 0 = fldI (f b) 0)) := by
  obtain ⟨dC, dI⟩ := D
  refine Met.ofW (cc := cX6_openExample) (maxL := 2) (ret := none) (by decide) rfl ?_
  intro p e s m args below meth c s₁ B hml hv
  obtain ⟨rfl, hP, hK, hD0, hN, hZ⟩ := hv
  have hx := B.exec
  have hb := B.bytes
  have hr := B.returns
  have hU : ∀ w ∈ wsU, w.before _ s = true := fun w h => atoms_spec (ws := wU yX6_openExample cX6_openExample 2 none) B.pre w (List.mem_cons_of_mem _ h)
  have hown : s.vm.findClass RX6 = some m.cls := findClass_of_methodNamed B.named
  have hlocks := B.notSynchronized
  have hD := pl_in hD0
  have hS : va_S (fun q => q ∈ L) s.heap s.heap [] := va_S.rf
  have hl := lv_entry ([.ref o0, .int p1]) (n := 2) (Nat.le_of_ble_eq_true rfl)
  rw [lg_entry_eq]
  generalize (lg_sl ([.ref o0, .int p1]) ++ List.replicate (2 - (lg_sl ([.ref o0, .int p1])).length) Slot.unset).toArray = ls at hl ⊢
  have hl : lv_has ls 2 [(0, .ref o0), (1, .int p1)] := hl
  have hfr0 : ∀ b, kd b ≠ 6 → kd b ≠ 9 → kd b ≠ 505 → f b = f b := fun _ _ _ _ => rfl
  have hfr6_0 : ∀ b, kd b = 6 → fldI (f b) 0 = fldI (f b) 0 := fun _ _ => rfl
  refine lv_iload_n hx hb dX6_openExample_0 rfl (lv_at hl 1 rfl) ?_
  have hcut_3 : ∀ (f_2 : Nat → va_E), GI (okc cI cL cZ cR cG cH L kd) kd L f_2 → ∀ (H : Heap) (locs : List Loc), va_P (dC, dI) vwCl (va_pl L f_2) H → va_S (fun q => q ∈ L) s.heap H locs → va_D (fun q => q ∈ L) (va_pl L f_2) → (∀ b, kd b ≠ 6 → kd b ≠ 9 → kd b ≠ 505 → f_2 b = f b) → (∀ b, kd b = 6 → fldI (f_2 b) 0 = fldI (f b) 0) → ∀ (ls : Array Slot), lv_has ls 2 [(0, .ref o0), (1, .int p1)] → W p l e (headSpec (wU yX6_openExample cX6_openExample 2 none) { frames := 1, cells := 0, slots := 0, locals := 20 }).room s m [.ref o0, .int p1].toArray below meth c H locs 0 0 (MQ below (va_Qv (fun (f9 : Nat → va_E) => GI (okc cI cL cZ cR cG cH L kd) kd L f9 ∧ (∀ b, kd b ≠ 6 → kd b ≠ 9 → kd b ≠ 505 → f9 b = f b) ∧ (∀ b, kd b = 6 → fldI (f9 b) 0 = fldI (f b) 0)) (qP (dC, dI) cI cL cZ cR cG cH L) (fun q => q ∈ L)) [.ref o0, .int p1].toArray s 0 0 (fun q => q ∈ L)) (F0 m 22 ls []) := by
    intro f_2 hG H locs hP hS hD hfr0 hfr6_0 ls hl
    refine lv_aload_n hx hb dX6_openExample_22 rfl (lv_at hl 0 rfl) ?_
    obtain ⟨v_5, v_6, a_7, a_8, a_9, v_10, a_11, a_12, a_13, hfo_4, bv_6, ⟨ma_7, ka_7⟩, ⟨ma_8, ka_8⟩, ⟨ma_9, ka_9⟩, ⟨ma_11, ka_11⟩, ⟨ma_12, ka_12⟩, ⟨ma_13, ka_13⟩⟩ := un_6 (hG _ mo0) ko0
    have bv_5 : ((-2147483648) ≤ v_5.toInt ∧ v_5.toInt ≤ 2147483647) := ⟨i32_lo _, i32_hi _⟩
    have bv_10 : ((-2147483648) ≤ v_10.toInt ∧ v_10.toInt ≤ 2147483647) := ⟨i32_lo _, i32_hi _⟩
    refine tk_getP (D := (dC, dI)) (ci := 6) (v := .ref a_8) (C := RX6) (T := TX6) (N := 9) hx hb hU inlX6 hown hK hP mo0 hfo_4 rfl 3 (by decide) (hU _ wd_139) (fun _ h9 => h9) rfl dX6_openExample_23 ?_
    obtain ⟨a_15, a_16, v_17, hfo_14, ⟨ma_15, ka_15⟩, ⟨ma_16, ka_16⟩, bv_17⟩ := un_9 (hG _ ma_8) ka_8
    refine tk_VvP (As := []) (rest := []) (n := 0) hx hb hml hown hU hN hZ (s_X9_open_k9 l (dC, dI) cI cL cZ cR cG cH Z kd L f_2 hG a_8 ma_8 ka_8) wd_1398 wd_474 wd_475 wd_85 wd_476 (by decide +kernel) ⟨Nat.le_of_ble_eq_true rfl, Nat.le_of_ble_eq_true rfl⟩ hK hP hD hS ma_8 hfo_14 9 rfl rfl rfl hl.1 rfl (Nat.le_of_ble_eq_true rfl) dX6_openExample_26 ⟨Nat.le_of_ble_eq_true rfl, Nat.le_of_ble_eq_true rfl⟩ (fun f_19 H locs hw hP hD hS => ?_)
    obtain ⟨hG, hkc_20⟩ := hw
    have hfo_22 : f_19 o0 = .inr (6, [.int v_5, .int v_6, .ref a_7, .ref a_8, .ref a_9, .int v_10, .ref a_11, .ref a_12, .ref a_13]) := by rw [hkc_20 o0 (by rw [ko0]; decide) (by rw [ko0]; decide)]; exact hfo_4
    have hfr0 : ∀ b, kd b ≠ 6 → kd b ≠ 9 → kd b ≠ 505 → f_19 b = f b := fun b q6 q9 q505 => (hkc_20 b q9 q505).trans (hfr0 b q6 q9 q505)
    have hfr6_0 : ∀ b, kd b = 6 → fldI (f_19 b) 0 = fldI (f b) 0 := fun b kb => (congrArg (fun x => fldI x 0) (hkc_20 b (by rw [kb]; decide) (by rw [kb]; decide))).trans (hfr6_0 b kb)
    refine lv_aload_n hx hb dX6_openExample_29 rfl (lv_at hl 0 rfl) ?_
    refine tk_getP (D := (dC, dI)) (ci := 6) (v := .ref a_9) (C := RX6) (T := TX6) (N := 9) hx hb hU inlX6 hown hK hP mo0 hfo_22 rfl 4 (by decide) (hU _ wd_140) (fun _ h9 => h9) rfl dX6_openExample_30 ?_
    obtain ⟨a_24, a_25, v_26, hfo_23, ⟨ma_24, ka_24⟩, ⟨ma_25, ka_25⟩, bv_26⟩ := un_9 (hG _ ma_9) ka_9
    refine tk_VvP (As := []) (rest := []) (n := 0) hx hb hml hown hU hN hZ (s_X9_open_k9 l (dC, dI) cI cL cZ cR cG cH Z kd L f_19 hG a_9 ma_9 ka_9) wd_1398 wd_474 wd_475 wd_85 wd_476 (by decide +kernel) ⟨Nat.le_of_ble_eq_true rfl, Nat.le_of_ble_eq_true rfl⟩ hK hP hD hS ma_9 hfo_23 9 rfl rfl rfl hl.1 rfl (Nat.le_of_ble_eq_true rfl) dX6_openExample_33 ⟨Nat.le_of_ble_eq_true rfl, Nat.le_of_ble_eq_true rfl⟩ (fun f_28 H locs hw hP hD hS => ?_)
    obtain ⟨hG, hkc_29⟩ := hw
    have hfo_31 : f_28 o0 = .inr (6, [.int v_5, .int v_6, .ref a_7, .ref a_8, .ref a_9, .int v_10, .ref a_11, .ref a_12, .ref a_13]) := by rw [hkc_29 o0 (by rw [ko0]; decide) (by rw [ko0]; decide)]; exact hfo_22
    have hfr0 : ∀ b, kd b ≠ 6 → kd b ≠ 9 → kd b ≠ 505 → f_28 b = f b := fun b q6 q9 q505 => (hkc_29 b q9 q505).trans (hfr0 b q6 q9 q505)
    have hfr6_0 : ∀ b, kd b = 6 → fldI (f_28 b) 0 = fldI (f b) 0 := fun b kb => (congrArg (fun x => fldI x 0) (hkc_29 b (by rw [kb]; decide) (by rw [kb]; decide))).trans (hfr6_0 b kb)
    exact W.vret hx hb hr (fun t ht hW => ⟨⟨f_28, rfl, ⟨hG, hfr0, hfr6_0⟩, by rw [ht]; exact hP, va_K.moved hW.alike hK, pl_in hD⟩, hS.F ht⟩) hS.2.2 dX6_openExample_36
  refine lv_if_eq (tgt := 22) hx hb dX6_openExample_1 (by decide) (fun c_32 => ?_) (fun c_32 => ?_)
  · skip
    rw [← Int32.toInt_inj, ti_0] at c_32
    exact hcut_3 f hG _ _ hP hS hD hfr0 hfr6_0 ls (lv_sub hl [0, 1] rfl)
  · skip
    rw [← Int32.toInt_inj, ti_0] at c_32
    refine lv_aload_n hx hb dX6_openExample_4 rfl (lv_at hl 0 rfl) ?_
    refine lv_dup hx hb dX6_openExample_5 rfl ?_
    obtain ⟨v_34, v_35, a_36, a_37, a_38, v_39, a_40, a_41, a_42, hfo_33, bv_35, ⟨ma_36, ka_36⟩, ⟨ma_37, ka_37⟩, ⟨ma_38, ka_38⟩, ⟨ma_40, ka_40⟩, ⟨ma_41, ka_41⟩, ⟨ma_42, ka_42⟩⟩ := un_6 (hG _ mo0) ko0
    have bv_34 : ((-2147483648) ≤ v_34.toInt ∧ v_34.toInt ≤ 2147483647) := ⟨i32_lo _, i32_hi _⟩
    have bv_39 : ((-2147483648) ≤ v_39.toInt ∧ v_39.toInt ≤ 2147483647) := ⟨i32_lo _, i32_hi _⟩
    refine tk_getP (D := (dC, dI)) (ci := 6) (v := .int v_39) (C := RX6) (T := TX6) (N := 9) hx hb hU inlX6 hown hK hP mo0 hfo_33 rfl 5 (by decide) (hU _ wd_554) (fun _ h9 => h9) rfl dX6_openExample_6 ?_
    refine lv_iconst (v := 1) hx hb dX6_openExample_9 (by decide) ?_
    refine lv_aload_n hx hb dX6_openExample_10 rfl (lv_at hl 0 rfl) ?_
    refine tk_getP (D := (dC, dI)) (ci := 6) (v := .ref a_37) (C := RX6) (T := TX6) (N := 9) hx hb hU inlX6 hown hK hP mo0 hfo_33 rfl 3 (by decide) (hU _ wd_139) (fun _ h9 => h9) rfl dX6_openExample_11 ?_
    obtain ⟨a_44, a_45, v_46, hfo_43, ⟨ma_44, ka_44⟩, ⟨ma_45, ka_45⟩, bv_46⟩ := un_9 (hG _ ma_37) ka_37
    refine tk_getP (D := (dC, dI)) (ci := 9) (v := .int v_46) (C := RX9) (T := TX9) (N := 3) hx hb hU inlX9 hown hK hP ma_37 hfo_43 rfl 2 (by decide) (hU _ wd_1397) (fun _ h9 => h9) rfl dX6_openExample_14 ?_
    refine lv_ishl hx hb dX6_openExample_17 ?_
    refine lv_topi (fun x_47 ex_47 => ?_)
    have bx_47 : ((-2147483648) ≤ x_47.toInt ∧ x_47.toInt ≤ 2147483647) := ⟨i32_lo _, i32_hi _⟩
    refine lv_ior hx hb dX6_openExample_18 ?_
    refine lv_topi (fun x_48 ex_48 => ?_)
    have bx_48 : ((-2147483648) ≤ x_48.toInt ∧ x_48.toInt ≤ 2147483647) := ⟨i32_lo _, i32_hi _⟩
    refine tk_putP (D := (dC, dI)) (ci := 6) (v := .int x_48) (ty := .int) (C := RX6) (T := TX6) (N := 9) hx hb hU inlX6 tyX6 tyX6_ok nmX6 hown hK hP hD hS mo0 hfo_33 rfl 5 (by decide) (hU _ wd_554) (fun _ h9 => h9) rfl (by decide +kernel) rfl rfl (Nat.le_of_ble_eq_true rfl) dX6_openExample_19 (fun H locs hP hD hS => ?_)
    obtain ⟨f_50, ef_50⟩ : ∃ y : Nat → va_E, y = va_up f o0 (.inr (6, [.int v_34, .int v_35, .ref a_36, .ref a_37, .ref a_38, .int x_48, .ref a_40, .ref a_41, .ref a_42])) := ⟨_, rfl⟩
    have hP : va_P (dC, dI) vwCl (va_pl L f_50) H := by rw [ef_50]; exact hP
    have hD : va_D (fun q => q ∈ L) (va_pl L f_50) := by rw [ef_50]; exact hD
    have hG : GI (okc cI cL cZ cR cG cH L kd) kd L f_50 := by rw [ef_50]; exact hG.set o0 (mk_6 ko0 ⟨v_34, v_35, a_36, a_37, a_38, x_48, a_40, a_41, a_42, rfl, (by constructor <;> omega), ⟨ma_36, ka_36⟩, ⟨ma_37, ka_37⟩, ⟨ma_38, ka_38⟩, ⟨ma_40, ka_40⟩, ⟨ma_41, ka_41⟩, ⟨ma_42, ka_42⟩⟩)
    have hfo_51 : f_50 a_37 = .inr (9, [.ref a_44, .ref a_45, .int v_46]) := by rw [ef_50, up_ne (kd_ne ko0 ka_37 (by decide))]; exact hfo_43
    have hfr0 : ∀ b, kd b ≠ 6 → kd b ≠ 9 → kd b ≠ 505 → f_50 b = f b := fun b q6 q9 q505 => (congrFun ef_50 b).trans ((up_ne (fun e9 => q6 (by rw [e9]; exact ko0))).trans (hfr0 b q6 q9 q505))
    have hfr6_0 : ∀ b, kd b = 6 → fldI (f_50 b) 0 = fldI (f b) 0 := fun b kb => ((congrArg (fun x => fldI x 0) (congrFun ef_50 b)).trans (fk_up (by rw [hfo_33]; rfl) b)).trans (hfr6_0 b kb)
    have hfo_52 : f_50 o0 = .inr (6, [.int v_34, .int v_35, .ref a_36, .ref a_37, .ref a_38, .int x_48, .ref a_40, .ref a_41, .ref a_42]) := by rw [ef_50]; exact up_self
    exact hcut_3 f_50 hG _ _ hP hS hD hfr0 hfr6_0 ls (lv_sub hl [0, 1] rfl)
set_option maxHeartbeats 8000000 in
set_option maxRecDepth 100000 in
theorem s_X6_firstUntrue_k6 (l : Launch) (D : va_G) (cI cL cZ cR cG cH : ClassId) (Z : zT) (kd : Nat → Nat) (L : List Nat) (f : Nat → va_E) (hG : GI (okc cI cL cZ cR cG cH L kd) kd L f) (o0 : Nat) (mo0 : o0 ∈ L) (ko0 : kd o0 = 6) (p1 : Int32) : mPI l D cI cL cZ cR cG cH Z yX6_firstUntrue cX6_firstUntrue 5 (some .int) 0 0 [.ref o0, .int p1] L f (fun (r : Int32) (f9 : Nat → va_E) => f = f9 ∧ ((-1) ≤ r.toInt ∧ r.toInt ≤ 11)) := by
  obtain ⟨dC, dI⟩ := D
  refine Met.ofW (cc := cX6_firstUntrue) (maxL := 5) (ret := (some .int)) (by decide) rfl ?_
  intro p e s m args below meth c s₁ B hml hv
  obtain ⟨rfl, hP, hK, hD0, hN, hZ⟩ := hv
  have hx := B.exec
  have hb := B.bytes
  have hr := B.returns
  have hU : ∀ w ∈ wsU, w.before _ s = true := fun w h => atoms_spec (ws := wU yX6_firstUntrue cX6_firstUntrue 5 (some .int)) B.pre w (List.mem_cons_of_mem _ h)
  have hown : s.vm.findClass RX6 = some m.cls := findClass_of_methodNamed B.named
  have hlocks := B.notSynchronized
  have hD := pl_in hD0
  have hS : va_S (fun q => q ∈ L) s.heap s.heap [] := va_S.rf
  have hl := lv_entry ([.ref o0, .int p1]) (n := 5) (Nat.le_of_ble_eq_true rfl)
  rw [lg_entry_eq]
  generalize (lg_sl ([.ref o0, .int p1]) ++ List.replicate (5 - (lg_sl ([.ref o0, .int p1])).length) Slot.unset).toArray = ls at hl ⊢
  have hl : lv_has ls 5 [(0, .ref o0), (1, .int p1)] := hl
  have bp1 : ((-2147483648) ≤ p1.toInt ∧ p1.toInt ≤ 2147483647) := ⟨i32_lo _, i32_hi _⟩
  refine lv_iconst (v := 0) hx hb dX6_firstUntrue_0 (by decide) ?_
  refine lv_istore_n (lv' := [(2, .int 0), (0, .ref o0), (1, .int p1)]) hx hb dX6_firstUntrue_1 rfl hl (by decide) rfl (fun ls hl => ?_)
  have hloop_7 : ∀ (n : Nat), ∀ (y_8 : Int32), (0 ≤ y_8.toInt ∧ y_8.toInt ≤ 12) → 12 - y_8.toInt < (n : Int) → ∀ (ls : Array Slot), lv_has ls 5 [(2, .int y_8), (0, .ref o0), (1, .int p1)] → W p l e (headSpec (wU yX6_firstUntrue cX6_firstUntrue 5 (some .int)) { frames := 0, cells := 0, slots := 0, locals := 0 }).room s m [.ref o0, .int p1].toArray below meth c s.heap [] 0 0 (MQ below (va_Qi (fun (r : Int32) (f9 : Nat → va_E) => f = f9 ∧ ((-1) ≤ r.toInt ∧ r.toInt ≤ 11)) (qP (dC, dI) cI cL cZ cR cG cH L) (fun q => q ∈ L)) [.ref o0, .int p1].toArray s 0 0 (fun q => q ∈ L)) (F0 m 2 ls []) := by
    intro n
    induction n with
    | zero => intro y_8 by_8 hmuhloop_7 ls hl; exfalso; omega
    | succ n ih_hloop_7 =>
      intro y_8 by_8 hmuhloop_7 ls hl
      refine lv_iload_n hx hb dX6_firstUntrue_2 rfl (lv_at hl 0 rfl) ?_
      refine lv_aload_n hx hb dX6_firstUntrue_3 rfl (lv_at hl 1 rfl) ?_
      obtain ⟨v_10, v_11, a_12, a_13, a_14, v_15, a_16, a_17, a_18, hfo_9, bv_11, ⟨ma_12, ka_12⟩, ⟨ma_13, ka_13⟩, ⟨ma_14, ka_14⟩, ⟨ma_16, ka_16⟩, ⟨ma_17, ka_17⟩, ⟨ma_18, ka_18⟩⟩ := un_6 (hG _ mo0) ko0
      have bv_10 : ((-2147483648) ≤ v_10.toInt ∧ v_10.toInt ≤ 2147483647) := ⟨i32_lo _, i32_hi _⟩
      have bv_15 : ((-2147483648) ≤ v_15.toInt ∧ v_15.toInt ≤ 2147483647) := ⟨i32_lo _, i32_hi _⟩
      refine tk_getP (D := (dC, dI)) (ci := 6) (v := .ref a_13) (C := RX6) (T := TX6) (N := 9) hx hb hU inlX6 hown hK hP mo0 hfo_9 rfl 3 (by decide) (hU _ wd_139) (fun _ h9 => h9) rfl dX6_firstUntrue_4 ?_
      obtain ⟨a_20, a_21, v_22, hfo_19, ⟨ma_20, ka_20⟩, ⟨ma_21, ka_21⟩, bv_22⟩ := un_9 (hG _ ma_13) ka_13
      refine tk_getP (D := (dC, dI)) (ci := 9) (v := .int v_22) (C := RX9) (T := TX9) (N := 3) hx hb hU inlX9 hown hK hP ma_13 hfo_19 rfl 2 (by decide) (hU _ wd_1397) (fun _ h9 => h9) rfl dX6_firstUntrue_7 ?_
      refine lv_icmp_ge (tgt := 89) hx hb dX6_firstUntrue_10 (by decide) (fun c_23 => ?_) (fun c_23 => ?_)
      · skip
        rw [Int32.le_iff_toInt_le] at c_23
        refine lv_iconst (v := (-1)) hx hb dX6_firstUntrue_89 (by decide) ?_
        exact W.iret (v := (-1)) hx hb hr (fun t ht hW => ⟨⟨(-1), f, rfl, ⟨rfl, (by decide)⟩, by rw [ht]; exact hP, va_K.moved hW.alike hK, pl_in hD⟩, hS.F ht⟩) hS.2.2 dX6_firstUntrue_90
      · skip
        rw [Int32.le_iff_toInt_le] at c_23
        refine lv_iconst (v := 0) hx hb dX6_firstUntrue_13 (by decide) ?_
        refine lv_istore_n (lv' := [(3, .int 0), (2, .int y_8), (0, .ref o0), (1, .int p1)]) hx hb dX6_firstUntrue_14 rfl hl (by decide) rfl (fun ls hl => ?_)
        refine lv_iconst (v := 0) hx hb dX6_firstUntrue_15 (by decide) ?_
        refine lv_istore (lv' := [(4, .int 0), (3, .int 0), (2, .int y_8), (0, .ref o0), (1, .int p1)]) hx hb dX6_firstUntrue_16 hl (by decide) rfl (fun ls hl => ?_)
        have hloop_33 : ∀ (n : Nat), ∀ (y_34 : Int32), (0 ≤ y_34.toInt ∧ y_34.toInt ≤ 9) → ∀ (y_35 : Int32), ((-2147483648) ≤ y_35.toInt ∧ y_35.toInt ≤ 2147483647) → 9 - y_34.toInt < (n : Int) → ∀ (ls : Array Slot), lv_has ls 5 [(4, .int y_34), (3, .int y_35), (2, .int y_8), (0, .ref o0), (1, .int p1)] → W p l e (headSpec (wU yX6_firstUntrue cX6_firstUntrue 5 (some .int)) { frames := 0, cells := 0, slots := 0, locals := 0 }).room s m [.ref o0, .int p1].toArray below meth c s.heap [] 0 0 (MQ below (va_Qi (fun (r : Int32) (f9 : Nat → va_E) => f = f9 ∧ ((-1) ≤ r.toInt ∧ r.toInt ≤ 11)) (qP (dC, dI) cI cL cZ cR cG cH L) (fun q => q ∈ L)) [.ref o0, .int p1].toArray s 0 0 (fun q => q ∈ L)) (F0 m 18 ls []) := by
          intro n
          induction n with
          | zero => intro y_34 by_34 y_35 by_35 hmuhloop_33 ls hl; exfalso; omega
          | succ n ih_hloop_33 =>
            intro y_34 by_34 y_35 by_35 hmuhloop_33 ls hl
            refine lv_iload hx hb dX6_firstUntrue_18 (lv_at hl 0 rfl) ?_
            refine lv_aload_n hx hb dX6_firstUntrue_20 rfl (lv_at hl 3 rfl) ?_
            refine tk_getP (D := (dC, dI)) (ci := 6) (v := .ref a_17) (C := RX6) (T := TX6) (N := 9) hx hb hU inlX6 hown hK hP mo0 hfo_9 rfl 7 (by decide) (hU _ wd_142) (fun _ h9 => h9) rfl dX6_firstUntrue_21 ?_
            refine lv_iload_n hx hb dX6_firstUntrue_24 rfl (lv_at hl 2 rfl) ?_
            obtain ⟨g_37, hfo_36, hbg_37⟩ := un_532 (hG _ ma_17) ka_17
            refine tk_ildP hx hb hK hP 0 ma_17 hfo_36 rfl (vp_in_iff.mpr (by constructor <;> omega)) dX6_firstUntrue_25 ?_
            refine lv_topi (fun x_38 ex_38 => ?_)
            have bx_38 : (0 ≤ x_38.toInt ∧ x_38.toInt ≤ 9) := by rw [ex_38]; exact hbg_37 _
            refine lv_icmp_ge (tgt := 60) hx hb dX6_firstUntrue_26 (by decide) (fun c_39 => ?_) (fun c_39 => ?_)
            · skip
              rw [Int32.le_iff_toInt_le] at c_39
              refine lv_iload_n hx hb dX6_firstUntrue_60 rfl (lv_at hl 1 rfl) ?_
              refine lv_aload_n hx hb dX6_firstUntrue_61 rfl (lv_at hl 3 rfl) ?_
              refine tk_getP (D := (dC, dI)) (ci := 6) (v := .int v_15) (C := RX6) (T := TX6) (N := 9) hx hb hU inlX6 hown hK hP mo0 hfo_9 rfl 5 (by decide) (hU _ wd_554) (fun _ h9 => h9) rfl dX6_firstUntrue_62 ?_
              refine lv_iload_n hx hb dX6_firstUntrue_65 rfl (lv_at hl 2 rfl) ?_
              refine lv_ishr hx hb dX6_firstUntrue_66 ?_
              refine lv_topi (fun x_40 ex_40 => ?_)
              have bx_40 : ((-2147483648) ≤ x_40.toInt ∧ x_40.toInt ≤ 2147483647) := ⟨i32_lo _, i32_hi _⟩
              refine lv_iconst (v := 1) hx hb dX6_firstUntrue_67 (by decide) ?_
              refine lv_iand hx hb dX6_firstUntrue_68 ?_
              refine lv_topi (fun x_41 ex_41 => ?_)
              have bx_41 : (0 ≤ x_41.toInt ∧ x_41.toInt ≤ 1) := by rw [ex_41]; have h8 := an_C x_40 (m := 1) (by decide); rw [ti_1] at h8; exact h8
              refine lv_iconst (v := 1) hx hb dX6_firstUntrue_69 (by decide) ?_
              have hcut_43 : ∀ (y_42 : Int32), (0 ≤ y_42.toInt ∧ y_42.toInt ≤ 1) → ∀ (ls : Array Slot), lv_has ls 5 [(4, .int y_34), (3, .int y_35), (2, .int y_8), (0, .ref o0), (1, .int p1)] → W p l e (headSpec (wU yX6_firstUntrue cX6_firstUntrue 5 (some .int)) { frames := 0, cells := 0, slots := 0, locals := 0 }).room s m [.ref o0, .int p1].toArray below meth c s.heap [] 0 0 (MQ below (va_Qi (fun (r : Int32) (f9 : Nat → va_E) => f = f9 ∧ ((-1) ≤ r.toInt ∧ r.toInt ≤ 11)) (qP (dC, dI) cI cL cZ cR cG cH L) (fun q => q ∈ L)) [.ref o0, .int p1].toArray s 0 0 (fun q => q ∈ L)) (F0 m 78 ls [.int y_42, .int y_35]) := by
                intro y_42 by_42 ls hl
                refine lv_icmp_eq (tgt := 83) hx hb dX6_firstUntrue_78 (by decide) (fun c_44 => ?_) (fun c_44 => ?_)
                · skip
                  rw [← Int32.toInt_inj] at c_44
                  obtain ⟨x_45, ex_45⟩ : ∃ y : Int32, y_8 + 1 = y := ⟨_, rfl⟩
                  have hx_45 : x_45.toInt = y_8.toInt + 1 := by rw [← ex_45, ad_I (by rw [ti_1]; omega) (by rw [ti_1]; omega), ti_1]
                  have bx_45 : (1 ≤ x_45.toInt ∧ x_45.toInt ≤ 12) := by constructor <;> omega
                  refine lv_iinc (v := x_45) (lv' := [(2, .int x_45), (4, .int y_34), (3, .int y_35), (0, .ref o0), (1, .int p1)]) hx hb dX6_firstUntrue_83 hl (k := 2) rfl ex_45 (by decide) rfl (fun ls hl => ?_)
                  refine lv_goto (tgt := 2) hx hb dX6_firstUntrue_86 (by decide) ?_
                  exact ih_hloop_7 x_45 (by constructor <;> omega) (by omega) ls (lv_sub hl [0, 3, 4] rfl)
                · skip
                  rw [← Int32.toInt_inj] at c_44
                  refine lv_iload_n hx hb dX6_firstUntrue_81 rfl (lv_at hl 2 rfl) ?_
                  exact W.iret (v := y_8) hx hb hr (fun t ht hW => ⟨⟨y_8, f, rfl, ⟨rfl, (by constructor <;> omega)⟩, by rw [ht]; exact hP, va_K.moved hW.alike hK, pl_in hD⟩, hS.F ht⟩) hS.2.2 dX6_firstUntrue_82
              refine lv_icmp_ne (tgt := 77) hx hb dX6_firstUntrue_70 (by decide) (fun c_46 => ?_) (fun c_46 => ?_)
              · skip
                rw [← Int32.toInt_inj, ti_1] at c_46
                refine lv_iconst (v := 0) hx hb dX6_firstUntrue_77 (by decide) ?_
                exact hcut_43 0 (by decide) ls (lv_sub hl [0, 1, 2, 3, 4] rfl)
              · skip
                rw [← Int32.toInt_inj, ti_1] at c_46
                refine lv_iconst (v := 1) hx hb dX6_firstUntrue_73 (by decide) ?_
                refine lv_goto (tgt := 78) hx hb dX6_firstUntrue_74 (by decide) ?_
                exact hcut_43 1 (by decide) ls (lv_sub hl [0, 1, 2, 3, 4] rfl)
            · skip
              rw [Int32.le_iff_toInt_le] at c_39
              refine lv_iload_n hx hb dX6_firstUntrue_29 rfl (lv_at hl 1 rfl) ?_
              refine lv_aload_n hx hb dX6_firstUntrue_30 rfl (lv_at hl 3 rfl) ?_
              refine tk_getP (D := (dC, dI)) (ci := 6) (v := .ref a_16) (C := RX6) (T := TX6) (N := 9) hx hb hU inlX6 hown hK hP mo0 hfo_9 rfl 6 (by decide) (hU _ wd_141) (fun _ h9 => h9) rfl dX6_firstUntrue_31 ?_
              refine lv_iload_n hx hb dX6_firstUntrue_34 rfl (lv_at hl 2 rfl) ?_
              refine lv_bipush (v := 9) hx hb dX6_firstUntrue_35 (by decide) ?_
              refine lv_imul hx hb dX6_firstUntrue_37 ?_
              refine lv_topi (fun x_47 ex_47 => ?_)
              have hx_47 : x_47.toInt = y_8.toInt * 9 := by rw [ex_47, ml_I (by rw [ti_9]; omega) (by rw [ti_9]; omega), ti_9]
              have bx_47 : (0 ≤ x_47.toInt ∧ x_47.toInt ≤ 99) := by constructor <;> omega
              refine lv_iload hx hb dX6_firstUntrue_38 (lv_at hl 0 rfl) ?_
              refine lv_iadd hx hb dX6_firstUntrue_40 ?_
              refine lv_topi (fun x_48 ex_48 => ?_)
              have hx_48 : x_48.toInt = x_47.toInt + y_34.toInt := by rw [ex_48, ad_I (by omega) (by omega)]
              have bx_48 : (0 ≤ x_48.toInt ∧ x_48.toInt ≤ 107) := by constructor <;> omega
              obtain ⟨g_50, hfo_49, hbg_50⟩ := un_531 (hG _ ma_16) ka_16
              refine tk_ildP hx hb hK hP 0 ma_16 hfo_49 rfl (vp_in_iff.mpr (by constructor <;> omega)) dX6_firstUntrue_41 ?_
              refine lv_topi (fun x_51 ex_51 => ?_)
              have bx_51 : ((-2147483648) ≤ x_51.toInt ∧ x_51.toInt ≤ 2147483647) := ⟨i32_lo _, i32_hi _⟩
              refine lv_iload_n hx hb dX6_firstUntrue_42 rfl (lv_at hl 4 rfl) ?_
              refine lv_iand hx hb dX6_firstUntrue_43 ?_
              refine lv_topi (fun x_52 ex_52 => ?_)
              have bx_52 : ((-2147483648) ≤ x_52.toInt ∧ x_52.toInt ≤ 2147483647) := ⟨i32_lo _, i32_hi _⟩
              have hcut_54 : ∀ (y_53 : Int32), (0 ≤ y_53.toInt ∧ y_53.toInt ≤ 1) → ∀ (ls : Array Slot), lv_has ls 5 [(4, .int y_34), (3, .int y_35), (2, .int y_8), (0, .ref o0), (1, .int p1)] → W p l e (headSpec (wU yX6_firstUntrue cX6_firstUntrue 5 (some .int)) { frames := 0, cells := 0, slots := 0, locals := 0 }).room s m [.ref o0, .int p1].toArray below meth c s.heap [] 0 0 (MQ below (va_Qi (fun (r : Int32) (f9 : Nat → va_E) => f = f9 ∧ ((-1) ≤ r.toInt ∧ r.toInt ≤ 11)) (qP (dC, dI) cI cL cZ cR cG cH L) (fun q => q ∈ L)) [.ref o0, .int p1].toArray s 0 0 (fun q => q ∈ L)) (F0 m 52 ls [.int y_53, .int y_35]) := by
                intro y_53 by_53 ls hl
                refine lv_ior hx hb dX6_firstUntrue_52 ?_
                refine lv_topi (fun x_55 ex_55 => ?_)
                have bx_55 : ((-2147483648) ≤ x_55.toInt ∧ x_55.toInt ≤ 2147483647) := ⟨i32_lo _, i32_hi _⟩
                refine lv_istore_n (lv' := [(3, .int x_55), (4, .int y_34), (2, .int y_8), (0, .ref o0), (1, .int p1)]) hx hb dX6_firstUntrue_53 rfl hl (by decide) rfl (fun ls hl => ?_)
                obtain ⟨x_56, ex_56⟩ : ∃ y : Int32, y_34 + 1 = y := ⟨_, rfl⟩
                have hx_56 : x_56.toInt = y_34.toInt + 1 := by rw [← ex_56, ad_I (by rw [ti_1]; omega) (by rw [ti_1]; omega), ti_1]
                have bx_56 : (1 ≤ x_56.toInt ∧ x_56.toInt ≤ 9) := by constructor <;> omega
                refine lv_iinc (v := x_56) (lv' := [(4, .int x_56), (3, .int x_55), (2, .int y_8), (0, .ref o0), (1, .int p1)]) hx hb dX6_firstUntrue_54 hl (k := 1) rfl ex_56 (by decide) rfl (fun ls hl => ?_)
                refine lv_goto (tgt := 18) hx hb dX6_firstUntrue_57 (by decide) ?_
                exact ih_hloop_33 x_56 (by constructor <;> omega) x_55 (by constructor <;> omega) (by omega) ls (lv_sub hl [0, 1, 2, 3, 4] rfl)
              refine lv_if_ne (tgt := 51) hx hb dX6_firstUntrue_44 (by decide) (fun c_57 => ?_) (fun c_57 => ?_)
              · skip
                rw [← Int32.toInt_inj, ti_0] at c_57
                refine lv_iconst (v := 0) hx hb dX6_firstUntrue_51 (by decide) ?_
                exact hcut_54 0 (by decide) ls (lv_sub hl [0, 1, 2, 3, 4] rfl)
              · skip
                rw [← Int32.toInt_inj, ti_0] at c_57
                refine lv_iconst (v := 1) hx hb dX6_firstUntrue_47 (by decide) ?_
                refine lv_goto (tgt := 52) hx hb dX6_firstUntrue_48 (by decide) ?_
                exact hcut_54 1 (by decide) ls (lv_sub hl [0, 1, 2, 3, 4] rfl)
        exact hloop_33 10 0 (by decide) 0 (by decide) (by (try rw [ti_0]) <;> omega) ls hl
  exact hloop_7 13 0 (by decide) (by (try rw [ti_0]) <;> omega) ls hl
set_option maxHeartbeats 8000000 in
set_option maxRecDepth 100000 in
theorem s_X6_leastTrue_k6 (l : Launch) (D : va_G) (cI cL cZ cR cG cH : ClassId) (Z : zT) (kd : Nat → Nat) (L : List Nat) (f : Nat → va_E) (hG : GI (okc cI cL cZ cR cG cH L kd) kd L f) (o0 : Nat) (mo0 : o0 ∈ L) (ko0 : kd o0 = 6) (p1 : Int32) (bp1 : (0 ≤ p1.toInt ∧ p1.toInt ≤ 8)) : mPI l D cI cL cZ cR cG cH Z yX6_leastTrue cX6_leastTrue 5 (some .int) 1 24 [.ref o0, .int p1] L f (fun (r : Int32) (f9 : Nat → va_E) => f = f9 ∧ ((-1) ≤ r.toInt ∧ r.toInt ≤ 255)) := by
  obtain ⟨dC, dI⟩ := D
  refine Met.ofW (cc := cX6_leastTrue) (maxL := 5) (ret := (some .int)) (by decide) rfl ?_
  intro p e s m args below meth c s₁ B hml hv
  obtain ⟨rfl, hP, hK, hD0, hN, hZ⟩ := hv
  have hx := B.exec
  have hb := B.bytes
  have hr := B.returns
  have hU : ∀ w ∈ wsU, w.before _ s = true := fun w h => atoms_spec (ws := wU yX6_leastTrue cX6_leastTrue 5 (some .int)) B.pre w (List.mem_cons_of_mem _ h)
  have hown : s.vm.findClass RX6 = some m.cls := findClass_of_methodNamed B.named
  have hlocks := B.notSynchronized
  have hD := pl_in hD0
  have hS : va_S (fun q => q ∈ L) s.heap s.heap [] := va_S.rf
  have hl := lv_entry ([.ref o0, .int p1]) (n := 5) (Nat.le_of_ble_eq_true rfl)
  rw [lg_entry_eq]
  generalize (lg_sl ([.ref o0, .int p1]) ++ List.replicate (5 - (lg_sl ([.ref o0, .int p1])).length) Slot.unset).toArray = ls at hl ⊢
  have hl : lv_has ls 5 [(0, .ref o0), (1, .int p1)] := hl
  refine lv_iconst (v := (-1)) hx hb dX6_leastTrue_0 (by decide) ?_
  refine lv_istore_n (lv' := [(2, .int (-1)), (0, .ref o0), (1, .int p1)]) hx hb dX6_leastTrue_1 rfl hl (by decide) rfl (fun ls hl => ?_)
  refine lv_bipush (v := 9) hx hb dX6_leastTrue_2 (by decide) ?_
  refine lv_istore_n (lv' := [(3, .int 9), (2, .int (-1)), (0, .ref o0), (1, .int p1)]) hx hb dX6_leastTrue_4 rfl hl (by decide) rfl (fun ls hl => ?_)
  refine lv_iconst (v := 0) hx hb dX6_leastTrue_5 (by decide) ?_
  refine lv_istore (lv' := [(4, .int 0), (3, .int 9), (2, .int (-1)), (0, .ref o0), (1, .int p1)]) hx hb dX6_leastTrue_6 hl (by decide) rfl (fun ls hl => ?_)
  have hloop_19 : ∀ (n : Nat), ∀ (y_20 : Int32), (0 ≤ y_20.toInt ∧ y_20.toInt ≤ 256) → ∀ (y_21 : Int32), ((-2147483648) ≤ y_21.toInt ∧ y_21.toInt ≤ 2147483647) → ∀ (y_22 : Int32), ((-1) ≤ y_22.toInt ∧ y_22.toInt ≤ 255) → ∀ (H : Heap) (locs : List Loc), va_P (dC, dI) vwCl (va_pl L f) H → va_S (fun q => q ∈ L) s.heap H locs → 256 - y_20.toInt < (n : Int) → ∀ (ls : Array Slot), lv_has ls 5 [(4, .int y_20), (3, .int y_21), (2, .int y_22), (0, .ref o0), (1, .int p1)] → W p l e (headSpec (wU yX6_leastTrue cX6_leastTrue 5 (some .int)) { frames := 1, cells := 0, slots := 0, locals := 24 }).room s m [.ref o0, .int p1].toArray below meth c H locs 0 0 (MQ below (va_Qi (fun (r : Int32) (f9 : Nat → va_E) => f = f9 ∧ ((-1) ≤ r.toInt ∧ r.toInt ≤ 255)) (qP (dC, dI) cI cL cZ cR cG cH L) (fun q => q ∈ L)) [.ref o0, .int p1].toArray s 0 0 (fun q => q ∈ L)) (F0 m 8 ls []) := by
    intro n
    induction n with
    | zero => intro y_20 by_20 y_21 by_21 y_22 by_22 H locs hP hS hmuhloop_19 ls hl; exfalso; omega
    | succ n ih_hloop_19 =>
      intro y_20 by_20 y_21 by_21 y_22 by_22 H locs hP hS hmuhloop_19 ls hl
      refine lv_iload hx hb dX6_leastTrue_8 (lv_at hl 0 rfl) ?_
      refine lv_iconst (v := 1) hx hb dX6_leastTrue_10 (by decide) ?_
      refine lv_iload_n hx hb dX6_leastTrue_11 rfl (lv_at hl 4 rfl) ?_
      refine lv_ishl hx hb dX6_leastTrue_12 ?_
      refine lv_topi (fun x_24 ex_24 => ?_)
      have bx_24 : (1 ≤ x_24.toInt ∧ x_24.toInt ≤ 256) := by rw [ex_24]; exact sh_8 (by constructor <;> omega)
      refine lv_icmp_ge (tgt := 50) hx hb dX6_leastTrue_13 (by decide) (fun c_25 => ?_) (fun c_25 => ?_)
      · skip
        rw [Int32.le_iff_toInt_le] at c_25
        refine lv_iload_n hx hb dX6_leastTrue_50 rfl (lv_at hl 2 rfl) ?_
        exact W.iret (v := y_22) hx hb hr (fun t ht hW => ⟨⟨y_22, f, rfl, ⟨rfl, (by constructor <;> omega)⟩, by rw [ht]; exact hP, va_K.moved hW.alike hK, pl_in hD⟩, hS.F ht⟩) hS.2.2 dX6_leastTrue_51
      · skip
        rw [Int32.le_iff_toInt_le] at c_25
        refine lv_iload hx hb dX6_leastTrue_16 (lv_at hl 0 rfl) ?_
        refine tk_SiP (As := [.int y_20]) (rest := []) (n := 1) hx hb hml hown hU hN hZ (s_J6_bitCount_0f7a4 l (dC, dI) cI cL cZ cR cG cH Z kd L f hG y_20) wd_1440 wd_1184 wd_1185 wd_1186 (by decide +kernel) ⟨Nat.le_of_ble_eq_true rfl, Nat.le_of_ble_eq_true rfl⟩ hK hP hD hS rfl hl.1 rfl (Nat.le_of_ble_eq_true rfl) dX6_leastTrue_18 ⟨Nat.le_of_ble_eq_true rfl, Nat.le_of_ble_eq_true rfl⟩ (fun x_26 f_27 H locs hw hP hD hS => ?_)
        obtain ⟨rfl, bx_26⟩ := hw
        refine lv_iload_n hx hb dX6_leastTrue_21 rfl (lv_at hl 1 rfl) ?_
        have hcut_32 : ∀ (y_29 : Int32), ((-2147483648) ≤ y_29.toInt ∧ y_29.toInt ≤ 2147483647) → ∀ (y_30 : Int32), ((-1) ≤ y_30.toInt ∧ y_30.toInt ≤ 255) → ∀ (H : Heap) (locs : List Loc), va_P (dC, dI) vwCl (va_pl L f) H → va_S (fun q => q ∈ L) s.heap H locs → ∀ (ls : Array Slot), lv_has ls 5 [(4, .int y_20), (3, .int y_29), (2, .int y_30), (0, .ref o0), (1, .int p1)] → W p l e (headSpec (wU yX6_leastTrue cX6_leastTrue 5 (some .int)) { frames := 1, cells := 0, slots := 0, locals := 24 }).room s m [.ref o0, .int p1].toArray below meth c H locs 0 0 (MQ below (va_Qi (fun (r : Int32) (f9 : Nat → va_E) => f = f9 ∧ ((-1) ≤ r.toInt ∧ r.toInt ≤ 255)) (qP (dC, dI) cI cL cZ cR cG cH L) (fun q => q ∈ L)) [.ref o0, .int p1].toArray s 0 0 (fun q => q ∈ L)) (F0 m 44 ls []) := by
          intro y_29 by_29 y_30 by_30 H locs hP hS ls hl
          obtain ⟨x_33, ex_33⟩ : ∃ y : Int32, y_20 + 1 = y := ⟨_, rfl⟩
          have hx_33 : x_33.toInt = y_20.toInt + 1 := by rw [← ex_33, ad_I (by rw [ti_1]; omega) (by rw [ti_1]; omega), ti_1]
          have bx_33 : (1 ≤ x_33.toInt ∧ x_33.toInt ≤ 256) := by constructor <;> omega
          refine lv_iinc (v := x_33) (lv' := [(4, .int x_33), (3, .int y_29), (2, .int y_30), (0, .ref o0), (1, .int p1)]) hx hb dX6_leastTrue_44 hl (k := 0) rfl ex_33 (by decide) rfl (fun ls hl => ?_)
          refine lv_goto (tgt := 8) hx hb dX6_leastTrue_47 (by decide) ?_
          exact ih_hloop_19 x_33 (by constructor <;> omega) y_29 (by constructor <;> omega) y_30 (by constructor <;> omega) _ _ hP hS (by omega) ls (lv_sub hl [0, 1, 2, 3, 4] rfl)
        refine lv_icmp_ge (tgt := 44) hx hb dX6_leastTrue_22 (by decide) (fun c_34 => ?_) (fun c_34 => ?_)
        · skip
          rw [Int32.le_iff_toInt_le] at c_34
          exact hcut_32 y_21 (by constructor <;> omega) y_22 (by constructor <;> omega) _ _ hP hS ls (lv_sub hl [0, 1, 2, 3, 4] rfl)
        · skip
          rw [Int32.le_iff_toInt_le] at c_34
          refine lv_aload_n hx hb dX6_leastTrue_25 rfl (lv_at hl 3 rfl) ?_
          refine lv_iload hx hb dX6_leastTrue_26 (lv_at hl 0 rfl) ?_
          obtain ⟨v_36, v_37, a_38, a_39, a_40, v_41, a_42, a_43, a_44, hfo_35, bv_37, ⟨ma_38, ka_38⟩, ⟨ma_39, ka_39⟩, ⟨ma_40, ka_40⟩, ⟨ma_42, ka_42⟩, ⟨ma_43, ka_43⟩, ⟨ma_44, ka_44⟩⟩ := un_6 (hG _ mo0) ko0
          have bv_36 : ((-2147483648) ≤ v_36.toInt ∧ v_36.toInt ≤ 2147483647) := ⟨i32_lo _, i32_hi _⟩
          have bv_41 : ((-2147483648) ≤ v_41.toInt ∧ v_41.toInt ≤ 2147483647) := ⟨i32_lo _, i32_hi _⟩
          refine tk_ViP (As := [.int y_20]) (rest := []) (n := 1) hx hb hml hown hU hN hZ (s_X6_firstUntrue_k6 l (dC, dI) cI cL cZ cR cG cH Z kd L f hG o0 mo0 ko0 y_20) wd_1441 wd_1417 wd_1418 wd_24 wd_1419 (by decide +kernel) ⟨Nat.le_of_ble_eq_true rfl, Nat.le_of_ble_eq_true rfl⟩ hK hP hD hS mo0 hfo_35 6 rfl rfl rfl hl.1 rfl (Nat.le_of_ble_eq_true rfl) dX6_leastTrue_28 ⟨Nat.le_of_ble_eq_true rfl, Nat.le_of_ble_eq_true rfl⟩ (fun x_45 f_46 H locs hw hP hD hS => ?_)
          obtain ⟨rfl, bx_45⟩ := hw
          refine lv_iconst (v := (-1)) hx hb dX6_leastTrue_31 (by decide) ?_
          refine lv_icmp_ne (tgt := 44) hx hb dX6_leastTrue_32 (by decide) (fun c_48 => ?_) (fun c_48 => ?_)
          · skip
            rw [← Int32.toInt_inj, ti_m1] at c_48
            exact hcut_32 y_21 (by constructor <;> omega) y_22 (by constructor <;> omega) _ _ hP hS ls (lv_sub hl [0, 1, 2, 3, 4] rfl)
          · skip
            rw [← Int32.toInt_inj, ti_m1] at c_48
            refine lv_iload hx hb dX6_leastTrue_35 (lv_at hl 0 rfl) ?_
            refine lv_istore_n (lv' := [(2, .int y_20), (4, .int y_20), (3, .int y_21), (0, .ref o0), (1, .int p1)]) hx hb dX6_leastTrue_37 rfl hl (by decide) rfl (fun ls hl => ?_)
            refine lv_iload hx hb dX6_leastTrue_38 (lv_at hl 1 rfl) ?_
            refine tk_SiP (As := [.int y_20]) (rest := []) (n := 1) hx hb hml hown hU hN hZ (s_J6_bitCount_0f7a4 l (dC, dI) cI cL cZ cR cG cH Z kd L f hG y_20) wd_1440 wd_1184 wd_1185 wd_1186 (by decide +kernel) ⟨Nat.le_of_ble_eq_true rfl, Nat.le_of_ble_eq_true rfl⟩ hK hP hD hS rfl hl.1 rfl (Nat.le_of_ble_eq_true rfl) dX6_leastTrue_40 ⟨Nat.le_of_ble_eq_true rfl, Nat.le_of_ble_eq_true rfl⟩ (fun x_49 f_50 H locs hw hP hD hS => ?_)
            obtain ⟨rfl, bx_49⟩ := hw
            refine lv_istore_n (lv' := [(3, .int x_49), (2, .int y_20), (4, .int y_20), (0, .ref o0), (1, .int p1)]) hx hb dX6_leastTrue_43 rfl hl (by decide) rfl (fun ls hl => ?_)
            exact hcut_32 x_49 (by constructor <;> omega) y_20 (by constructor <;> omega) _ _ hP hS ls (lv_sub hl [2, 0, 1, 3, 4] rfl)
  exact hloop_19 257 0 (by decide) 9 (by decide) (-1) (by decide) _ _ hP hS (by (try rw [ti_0]) <;> (try rw [ti_9]) <;> (try rw [ti_m1]) <;> omega) ls hl
set_option maxHeartbeats 8000000 in
set_option maxRecDepth 100000 in
theorem s_X3_hasSign_k3 (l : Launch) (D : va_G) (cI cL cZ cR cG cH : ClassId) (Z : zT) (kd : Nat → Nat) (L : List Nat) (f : Nat → va_E) (hG : GI (okc cI cL cZ cR cG cH L kd) kd L f) (o0 : Nat) (mo0 : o0 ∈ L) (ko0 : kd o0 = 3) (p1 : Int32) : mPI l D cI cL cZ cR cG cH Z yX3_hasSign cX3_hasSign 4 (some .boolean) 0 0 [.ref o0, .int p1] L f (fun (r : Int32) (f9 : Nat → va_E) => f = f9 ∧ (0 ≤ r.toInt ∧ r.toInt ≤ 1)) := by
  obtain ⟨dC, dI⟩ := D
  refine Met.ofW (cc := cX3_hasSign) (maxL := 4) (ret := (some .boolean)) (by decide) rfl ?_
  intro p e s m args below meth c s₁ B hml hv
  obtain ⟨rfl, hP, hK, hD0, hN, hZ⟩ := hv
  have hx := B.exec
  have hb := B.bytes
  have hr := B.returns
  have hU : ∀ w ∈ wsU, w.before _ s = true := fun w h => atoms_spec (ws := wU yX3_hasSign cX3_hasSign 4 (some .boolean)) B.pre w (List.mem_cons_of_mem _ h)
  have hown : s.vm.findClass RX3 = some m.cls := findClass_of_methodNamed B.named
  have hlocks := B.notSynchronized
  have hD := pl_in hD0
  have hS : va_S (fun q => q ∈ L) s.heap s.heap [] := va_S.rf
  have hl := lv_entry ([.ref o0, .int p1]) (n := 4) (Nat.le_of_ble_eq_true rfl)
  rw [lg_entry_eq]
  generalize (lg_sl ([.ref o0, .int p1]) ++ List.replicate (4 - (lg_sl ([.ref o0, .int p1])).length) Slot.unset).toArray = ls at hl ⊢
  have hl : lv_has ls 4 [(0, .ref o0), (1, .int p1)] := hl
  have bp1 : ((-2147483648) ≤ p1.toInt ∧ p1.toInt ≤ 2147483647) := ⟨i32_lo _, i32_hi _⟩
  refine lv_iload_n hx hb dX3_hasSign_0 rfl (lv_at hl 1 rfl) ?_
  have hcut_2 : ∀ (y_1 : Int32), (0 ≤ y_1.toInt ∧ y_1.toInt ≤ 1) → ∀ (ls : Array Slot), lv_has ls 4 [(0, .ref o0), (1, .int p1)] → W p l e (headSpec (wU yX3_hasSign cX3_hasSign 4 (some .boolean)) { frames := 0, cells := 0, slots := 0, locals := 0 }).room s m [.ref o0, .int p1].toArray below meth c s.heap [] 0 0 (MQ below (va_Qi (fun (r : Int32) (f9 : Nat → va_E) => f = f9 ∧ (0 ≤ r.toInt ∧ r.toInt ≤ 1)) (qP (dC, dI) cI cL cZ cR cG cH L) (fun q => q ∈ L)) [.ref o0, .int p1].toArray s 0 0 (fun q => q ∈ L)) (F0 m 9 ls [.int y_1]) := by
    intro y_1 by_1 ls hl
    refine lv_istore_n (lv' := [(2, .int y_1), (0, .ref o0), (1, .int p1)]) hx hb dX3_hasSign_9 rfl hl (by decide) rfl (fun ls hl => ?_)
    refine lv_iconst (v := 0) hx hb dX3_hasSign_10 (by decide) ?_
    refine lv_istore_n (lv' := [(3, .int 0), (2, .int y_1), (0, .ref o0), (1, .int p1)]) hx hb dX3_hasSign_11 rfl hl (by decide) rfl (fun ls hl => ?_)
    have hloop_12 : ∀ (n : Nat), ∀ (y_13 : Int32), (0 ≤ y_13.toInt ∧ y_13.toInt ≤ 8) → ∀ (y_14 : Int32), (0 ≤ y_14.toInt ∧ y_14.toInt ≤ 1) → 8 - y_13.toInt < (n : Int) → ∀ (ls : Array Slot), lv_has ls 4 [(3, .int y_13), (2, .int y_14), (0, .ref o0), (1, .int p1)] → W p l e (headSpec (wU yX3_hasSign cX3_hasSign 4 (some .boolean)) { frames := 0, cells := 0, slots := 0, locals := 0 }).room s m [.ref o0, .int p1].toArray below meth c s.heap [] 0 0 (MQ below (va_Qi (fun (r : Int32) (f9 : Nat → va_E) => f = f9 ∧ (0 ≤ r.toInt ∧ r.toInt ≤ 1)) (qP (dC, dI) cI cL cZ cR cG cH L) (fun q => q ∈ L)) [.ref o0, .int p1].toArray s 0 0 (fun q => q ∈ L)) (F0 m 12 ls []) := by
      intro n
      induction n with
      | zero => intro y_13 by_13 y_14 by_14 hmuhloop_12 ls hl; exfalso; omega
      | succ n ih_hloop_12 =>
        intro y_13 by_13 y_14 by_14 hmuhloop_12 ls hl
        refine lv_iload_n hx hb dX3_hasSign_12 rfl (lv_at hl 0 rfl) ?_
        refine lv_aload_n hx hb dX3_hasSign_13 rfl (lv_at hl 2 rfl) ?_
        obtain ⟨a_16, a_17, a_18, a_19, a_20, v_21, v_22, v_23, v_24, v_25, v_26, v_27, a_28, a_29, a_30, v_31, a_32, a_33, hfo_15, ⟨ma_16, ka_16⟩, ⟨ma_17, ka_17⟩, ⟨ma_18, ka_18⟩, ⟨ma_19, ka_19⟩, ⟨ma_20, ka_20⟩, bv_21, bv_22, bv_23, ⟨ma_28, ka_28⟩, ⟨ma_29, ka_29⟩, ⟨ma_30, ka_30⟩, bv_31, ⟨ma_32, ka_32⟩, ⟨ma_33, ka_33⟩⟩ := un_3 (hG _ mo0) ko0
        have bv_24 : ((-2147483648) ≤ v_24.toInt ∧ v_24.toInt ≤ 2147483647) := ⟨i32_lo _, i32_hi _⟩
        have bv_25 : ((-2147483648) ≤ v_25.toInt ∧ v_25.toInt ≤ 2147483647) := ⟨i32_lo _, i32_hi _⟩
        have bv_26 : ((-2147483648) ≤ v_26.toInt ∧ v_26.toInt ≤ 2147483647) := ⟨i32_lo _, i32_hi _⟩
        have bv_27 : ((-2147483648) ≤ v_27.toInt ∧ v_27.toInt ≤ 2147483647) := ⟨i32_lo _, i32_hi _⟩
        refine tk_getP (D := (dC, dI)) (ci := 3) (v := .int v_21) (C := RX3) (T := TX3) (N := 18) hx hb hU inlX3 hown hK hP mo0 hfo_15 rfl 5 (by decide) (hU _ wd_726) (fun _ h9 => h9) rfl dX3_hasSign_14 ?_
        refine lv_icmp_ge (tgt := 44) hx hb dX3_hasSign_17 (by decide) (fun c_34 => ?_) (fun c_34 => ?_)
        · skip
          rw [Int32.le_iff_toInt_le] at c_34
          refine lv_iload_n hx hb dX3_hasSign_44 rfl (lv_at hl 1 rfl) ?_
          exact W.zret (v := y_14) (ty := .boolean) hx hb hr (zb_n (by constructor <;> omega)) (fun t ht hW => ⟨⟨y_14, f, rfl, ⟨rfl, (by constructor <;> omega)⟩, by rw [ht]; exact hP, va_K.moved hW.alike hK, pl_in hD⟩, hS.F ht⟩) hS.2.2 dX3_hasSign_45
        · skip
          rw [Int32.le_iff_toInt_le] at c_34
          refine lv_iload_n hx hb dX3_hasSign_20 rfl (lv_at hl 1 rfl) ?_
          refine lv_aload_n hx hb dX3_hasSign_21 rfl (lv_at hl 2 rfl) ?_
          refine tk_getP (D := (dC, dI)) (ci := 3) (v := .ref a_20) (C := RX3) (T := TX3) (N := 18) hx hb hU inlX3 hown hK hP mo0 hfo_15 rfl 4 (by decide) (hU _ wd_61) (fun _ h9 => h9) rfl dX3_hasSign_22 ?_
          refine lv_iload_n hx hb dX3_hasSign_25 rfl (lv_at hl 0 rfl) ?_
          obtain ⟨g_36, hfo_35, hbg_36⟩ := un_507 (hG _ ma_20) ka_20
          refine tk_ildP hx hb hK hP 0 ma_20 hfo_35 rfl (vp_in_iff.mpr (by constructor <;> omega)) dX3_hasSign_26 ?_
          refine lv_topi (fun x_37 ex_37 => ?_)
          have bx_37 : (0 ≤ x_37.toInt ∧ x_37.toInt ≤ 8) := by rw [ex_37]; exact hbg_36 _
          refine lv_iload_n hx hb dX3_hasSign_27 rfl (lv_at hl 3 rfl) ?_
          have hcut_39 : ∀ (y_38 : Int32), (0 ≤ y_38.toInt ∧ y_38.toInt ≤ 1) → ∀ (ls : Array Slot), lv_has ls 4 [(3, .int y_13), (2, .int y_14), (0, .ref o0), (1, .int p1)] → W p l e (headSpec (wU yX3_hasSign cX3_hasSign 4 (some .boolean)) { frames := 0, cells := 0, slots := 0, locals := 0 }).room s m [.ref o0, .int p1].toArray below meth c s.heap [] 0 0 (MQ below (va_Qi (fun (r : Int32) (f9 : Nat → va_E) => f = f9 ∧ (0 ≤ r.toInt ∧ r.toInt ≤ 1)) (qP (dC, dI) cI cL cZ cR cG cH L) (fun q => q ∈ L)) [.ref o0, .int p1].toArray s 0 0 (fun q => q ∈ L)) (F0 m 36 ls [.int y_38, .int y_14]) := by
            intro y_38 by_38 ls hl
            refine lv_ior hx hb dX3_hasSign_36 ?_
            refine lv_topi (fun x_40 ex_40 => ?_)
            have bx_40 : (0 ≤ x_40.toInt ∧ x_40.toInt ≤ 1) := by rw [ex_40]; exact or_K 1 (by decide) (by constructor <;> omega) (by constructor <;> omega)
            refine lv_istore_n (lv' := [(2, .int x_40), (3, .int y_13), (0, .ref o0), (1, .int p1)]) hx hb dX3_hasSign_37 rfl hl (by decide) rfl (fun ls hl => ?_)
            obtain ⟨x_41, ex_41⟩ : ∃ y : Int32, y_13 + 1 = y := ⟨_, rfl⟩
            have hx_41 : x_41.toInt = y_13.toInt + 1 := by rw [← ex_41, ad_I (by rw [ti_1]; omega) (by rw [ti_1]; omega), ti_1]
            have bx_41 : (1 ≤ x_41.toInt ∧ x_41.toInt ≤ 8) := by constructor <;> omega
            refine lv_iinc (v := x_41) (lv' := [(3, .int x_41), (2, .int x_40), (0, .ref o0), (1, .int p1)]) hx hb dX3_hasSign_38 hl (k := 1) rfl ex_41 (by decide) rfl (fun ls hl => ?_)
            refine lv_goto (tgt := 12) hx hb dX3_hasSign_41 (by decide) ?_
            exact ih_hloop_12 x_41 (by constructor <;> omega) x_40 (by constructor <;> omega) (by omega) ls (lv_sub hl [0, 1, 2, 3] rfl)
          refine lv_icmp_ne (tgt := 35) hx hb dX3_hasSign_28 (by decide) (fun c_42 => ?_) (fun c_42 => ?_)
          · skip
            rw [← Int32.toInt_inj] at c_42
            refine lv_iconst (v := 0) hx hb dX3_hasSign_35 (by decide) ?_
            exact hcut_39 0 (by decide) ls (lv_sub hl [0, 1, 2, 3] rfl)
          · skip
            rw [← Int32.toInt_inj] at c_42
            refine lv_iconst (v := 1) hx hb dX3_hasSign_31 (by decide) ?_
            refine lv_goto (tgt := 36) hx hb dX3_hasSign_32 (by decide) ?_
            exact hcut_39 1 (by decide) ls (lv_sub hl [0, 1, 2, 3] rfl)
    exact hloop_12 9 0 (by decide) y_1 (by constructor <;> omega) (by (try rw [ti_0]) <;> omega) ls hl
  refine lv_if_ne (tgt := 8) hx hb dX3_hasSign_1 (by decide) (fun c_43 => ?_) (fun c_43 => ?_)
  · skip
    rw [← Int32.toInt_inj, ti_0] at c_43
    refine lv_iconst (v := 0) hx hb dX3_hasSign_8 (by decide) ?_
    exact hcut_2 0 (by decide) ls (lv_sub hl [0, 1] rfl)
  · skip
    rw [← Int32.toInt_inj, ti_0] at c_43
    refine lv_iconst (v := 1) hx hb dX3_hasSign_4 (by decide) ?_
    refine lv_goto (tgt := 9) hx hb dX3_hasSign_5 (by decide) ?_
    exact hcut_2 1 (by decide) ls (lv_sub hl [0, 1] rfl)
set_option maxHeartbeats 8000000 in
set_option maxRecDepth 100000 in
theorem s_X3_breakable_k3 (l : Launch) (D : va_G) (cI cL cZ cR cG cH : ClassId) (Z : zT) (kd : Nat → Nat) (L : List Nat) (f : Nat → va_E) (hG : GI (okc cI cL cZ cR cG cH L kd) kd L f) (o0 : Nat) (mo0 : o0 ∈ L) (ko0 : kd o0 = 3) (p1 : Int32) : mPI l D cI cL cZ cR cG cH Z yX3_breakable cX3_breakable 4 (some .int) 1 23 [.ref o0, .int p1] L f (fun (r : Int32) (f9 : Nat → va_E) => f = f9 ∧ (0 ≤ r.toInt ∧ r.toInt ≤ 255)) := by
  obtain ⟨dC, dI⟩ := D
  refine Met.ofW (cc := cX3_breakable) (maxL := 4) (ret := (some .int)) (by decide) rfl ?_
  intro p e s m args below meth c s₁ B hml hv
  obtain ⟨rfl, hP, hK, hD0, hN, hZ⟩ := hv
  have hx := B.exec
  have hb := B.bytes
  have hr := B.returns
  have hU : ∀ w ∈ wsU, w.before _ s = true := fun w h => atoms_spec (ws := wU yX3_breakable cX3_breakable 4 (some .int)) B.pre w (List.mem_cons_of_mem _ h)
  have hown : s.vm.findClass RX3 = some m.cls := findClass_of_methodNamed B.named
  have hlocks := B.notSynchronized
  have hD := pl_in hD0
  have hS : va_S (fun q => q ∈ L) s.heap s.heap [] := va_S.rf
  have hl := lv_entry ([.ref o0, .int p1]) (n := 4) (Nat.le_of_ble_eq_true rfl)
  rw [lg_entry_eq]
  generalize (lg_sl ([.ref o0, .int p1]) ++ List.replicate (4 - (lg_sl ([.ref o0, .int p1])).length) Slot.unset).toArray = ls at hl ⊢
  have hl : lv_has ls 4 [(0, .ref o0), (1, .int p1)] := hl
  have bp1 : ((-2147483648) ≤ p1.toInt ∧ p1.toInt ≤ 2147483647) := ⟨i32_lo _, i32_hi _⟩
  refine lv_iconst (v := 0) hx hb dX3_breakable_0 (by decide) ?_
  refine lv_istore_n (lv' := [(2, .int 0), (0, .ref o0), (1, .int p1)]) hx hb dX3_breakable_1 rfl hl (by decide) rfl (fun ls hl => ?_)
  refine lv_iconst (v := 0) hx hb dX3_breakable_2 (by decide) ?_
  refine lv_istore_n (lv' := [(3, .int 0), (2, .int 0), (0, .ref o0), (1, .int p1)]) hx hb dX3_breakable_3 rfl hl (by decide) rfl (fun ls hl => ?_)
  have hloop_16 : ∀ (n : Nat), ∀ (y_17 : Int32), (0 ≤ y_17.toInt ∧ y_17.toInt ≤ 8) → ∀ (y_18 : Int32), (0 ≤ y_18.toInt ∧ y_18.toInt ≤ 255) → ∀ (H : Heap) (locs : List Loc), va_P (dC, dI) vwCl (va_pl L f) H → va_S (fun q => q ∈ L) s.heap H locs → 8 - y_17.toInt < (n : Int) → ∀ (ls : Array Slot), lv_has ls 4 [(3, .int y_17), (2, .int y_18), (0, .ref o0), (1, .int p1)] → W p l e (headSpec (wU yX3_breakable cX3_breakable 4 (some .int)) { frames := 1, cells := 0, slots := 0, locals := 23 }).room s m [.ref o0, .int p1].toArray below meth c H locs 0 0 (MQ below (va_Qi (fun (r : Int32) (f9 : Nat → va_E) => f = f9 ∧ (0 ≤ r.toInt ∧ r.toInt ≤ 255)) (qP (dC, dI) cI cL cZ cR cG cH L) (fun q => q ∈ L)) [.ref o0, .int p1].toArray s 0 0 (fun q => q ∈ L)) (F0 m 4 ls []) := by
    intro n
    induction n with
    | zero => intro y_17 by_17 y_18 by_18 H locs hP hS hmuhloop_16 ls hl; exfalso; omega
    | succ n ih_hloop_16 =>
      intro y_17 by_17 y_18 by_18 H locs hP hS hmuhloop_16 ls hl
      refine lv_iload_n hx hb dX3_breakable_4 rfl (lv_at hl 0 rfl) ?_
      refine lv_aload_n hx hb dX3_breakable_5 rfl (lv_at hl 2 rfl) ?_
      obtain ⟨a_21, a_22, a_23, a_24, a_25, v_26, v_27, v_28, v_29, v_30, v_31, v_32, a_33, a_34, a_35, v_36, a_37, a_38, hfo_20, ⟨ma_21, ka_21⟩, ⟨ma_22, ka_22⟩, ⟨ma_23, ka_23⟩, ⟨ma_24, ka_24⟩, ⟨ma_25, ka_25⟩, bv_26, bv_27, bv_28, ⟨ma_33, ka_33⟩, ⟨ma_34, ka_34⟩, ⟨ma_35, ka_35⟩, bv_36, ⟨ma_37, ka_37⟩, ⟨ma_38, ka_38⟩⟩ := un_3 (hG _ mo0) ko0
      have bv_29 : ((-2147483648) ≤ v_29.toInt ∧ v_29.toInt ≤ 2147483647) := ⟨i32_lo _, i32_hi _⟩
      have bv_30 : ((-2147483648) ≤ v_30.toInt ∧ v_30.toInt ≤ 2147483647) := ⟨i32_lo _, i32_hi _⟩
      have bv_31 : ((-2147483648) ≤ v_31.toInt ∧ v_31.toInt ≤ 2147483647) := ⟨i32_lo _, i32_hi _⟩
      have bv_32 : ((-2147483648) ≤ v_32.toInt ∧ v_32.toInt ≤ 2147483647) := ⟨i32_lo _, i32_hi _⟩
      refine tk_getP (D := (dC, dI)) (ci := 3) (v := .ref a_21) (C := RX3) (T := TX3) (N := 18) hx hb hU inlX3 hown hK hP mo0 hfo_20 rfl 0 (by decide) (hU _ wd_48) (fun _ h9 => h9) rfl dX3_breakable_6 ?_
      obtain ⟨a_40, v_41, a_42, a_43, a_44, a_45, v_46, a_47, a_48, a_49, a_50, a_51, v_52, a_53, a_54, a_55, hfo_39, ⟨ma_40, ka_40⟩, bv_41, ⟨ma_42, ka_42⟩, ⟨ma_43, ka_43⟩, ⟨ma_44, ka_44⟩, ⟨ma_45, ka_45⟩, bv_46, ⟨ma_47, ka_47⟩, ⟨ma_48, ka_48⟩, ⟨ma_49, ka_49⟩, ⟨ma_50, ka_50⟩, ⟨ma_51, ka_51⟩, bv_52, ⟨ma_53, ka_53⟩, ⟨ma_54, ka_54⟩, ⟨ma_55, ka_55⟩⟩ := un_7 (hG _ ma_21) ka_21
      refine tk_getP (D := (dC, dI)) (ci := 7) (v := .int v_52) (C := RX7) (T := TX7) (N := 16) hx hb hU inlX7 hown hK hP ma_21 hfo_39 rfl 12 (by decide) (hU _ wd_741) (fun _ h9 => h9) rfl dX3_breakable_9 ?_
      refine lv_icmp_ge (tgt := 55) hx hb dX3_breakable_12 (by decide) (fun c_56 => ?_) (fun c_56 => ?_)
      · skip
        rw [Int32.le_iff_toInt_le] at c_56
        refine lv_iload_n hx hb dX3_breakable_55 rfl (lv_at hl 1 rfl) ?_
        exact W.iret (v := y_18) hx hb hr (fun t ht hW => ⟨⟨y_18, f, rfl, ⟨rfl, (by constructor <;> omega)⟩, by rw [ht]; exact hP, va_K.moved hW.alike hK, pl_in hD⟩, hS.F ht⟩) hS.2.2 dX3_breakable_56
      · skip
        rw [Int32.le_iff_toInt_le] at c_56
        refine lv_iload_n hx hb dX3_breakable_15 rfl (lv_at hl 3 rfl) ?_
        refine lv_iload_n hx hb dX3_breakable_16 rfl (lv_at hl 0 rfl) ?_
        refine lv_ishr hx hb dX3_breakable_17 ?_
        refine lv_topi (fun x_57 ex_57 => ?_)
        have bx_57 : ((-2147483648) ≤ x_57.toInt ∧ x_57.toInt ≤ 2147483647) := ⟨i32_lo _, i32_hi _⟩
        refine lv_iconst (v := 1) hx hb dX3_breakable_18 (by decide) ?_
        refine lv_iand hx hb dX3_breakable_19 ?_
        refine lv_topi (fun x_58 ex_58 => ?_)
        have bx_58 : (0 ≤ x_58.toInt ∧ x_58.toInt ≤ 1) := by rw [ex_58]; have h8 := an_C x_57 (m := 1) (by decide); rw [ti_1] at h8; exact h8
        refine lv_iconst (v := 1) hx hb dX3_breakable_20 (by decide) ?_
        have hcut_61 : ∀ (y_59 : Int32), (0 ≤ y_59.toInt ∧ y_59.toInt ≤ 255) → ∀ (H : Heap) (locs : List Loc), va_P (dC, dI) vwCl (va_pl L f) H → va_S (fun q => q ∈ L) s.heap H locs → ∀ (ls : Array Slot), lv_has ls 4 [(3, .int y_17), (2, .int y_59), (0, .ref o0), (1, .int p1)] → W p l e (headSpec (wU yX3_breakable cX3_breakable 4 (some .int)) { frames := 1, cells := 0, slots := 0, locals := 23 }).room s m [.ref o0, .int p1].toArray below meth c H locs 0 0 (MQ below (va_Qi (fun (r : Int32) (f9 : Nat → va_E) => f = f9 ∧ (0 ≤ r.toInt ∧ r.toInt ≤ 255)) (qP (dC, dI) cI cL cZ cR cG cH L) (fun q => q ∈ L)) [.ref o0, .int p1].toArray s 0 0 (fun q => q ∈ L)) (F0 m 49 ls []) := by
          intro y_59 by_59 H locs hP hS ls hl
          obtain ⟨x_62, ex_62⟩ : ∃ y : Int32, y_17 + 1 = y := ⟨_, rfl⟩
          have hx_62 : x_62.toInt = y_17.toInt + 1 := by rw [← ex_62, ad_I (by rw [ti_1]; omega) (by rw [ti_1]; omega), ti_1]
          have bx_62 : (1 ≤ x_62.toInt ∧ x_62.toInt ≤ 8) := by constructor <;> omega
          refine lv_iinc (v := x_62) (lv' := [(3, .int x_62), (2, .int y_59), (0, .ref o0), (1, .int p1)]) hx hb dX3_breakable_49 hl (k := 0) rfl ex_62 (by decide) rfl (fun ls hl => ?_)
          refine lv_goto (tgt := 4) hx hb dX3_breakable_52 (by decide) ?_
          exact ih_hloop_16 x_62 (by constructor <;> omega) y_59 (by constructor <;> omega) _ _ hP hS (by omega) ls (lv_sub hl [0, 1, 2, 3] rfl)
        refine lv_icmp_ne (tgt := 49) hx hb dX3_breakable_21 (by decide) (fun c_63 => ?_) (fun c_63 => ?_)
        · skip
          rw [← Int32.toInt_inj, ti_1] at c_63
          exact hcut_61 y_18 (by constructor <;> omega) _ _ hP hS ls (lv_sub hl [0, 1, 2, 3] rfl)
        · skip
          rw [← Int32.toInt_inj, ti_1] at c_63
          refine lv_aload_n hx hb dX3_breakable_24 rfl (lv_at hl 2 rfl) ?_
          refine lv_aload_n hx hb dX3_breakable_25 rfl (lv_at hl 2 rfl) ?_
          refine tk_getP (D := (dC, dI)) (ci := 3) (v := .ref a_21) (C := RX3) (T := TX3) (N := 18) hx hb hU inlX3 hown hK hP mo0 hfo_20 rfl 0 (by decide) (hU _ wd_48) (fun _ h9 => h9) rfl dX3_breakable_26 ?_
          refine tk_getP (D := (dC, dI)) (ci := 7) (v := .ref a_51) (C := RX7) (T := TX7) (N := 16) hx hb hU inlX7 hown hK hP ma_21 hfo_39 rfl 11 (by decide) (hU _ wd_742) (fun _ h9 => h9) rfl dX3_breakable_29 ?_
          refine lv_iload_n hx hb dX3_breakable_32 rfl (lv_at hl 0 rfl) ?_
          obtain ⟨g_65, hfo_64, hbg_65⟩ := un_515 (hG _ ma_51) ka_51
          obtain ⟨a_66, hga_66, ma_66, ka_66⟩ := hbg_65 (Int32.toNatClampNeg y_17) (in_lt (vp_in_iff.mpr (by constructor <;> omega)))
          refine tk_aldP hx hb hK hP 3 ma_51 hfo_64 rfl (vp_in_iff.mpr (by constructor <;> omega)) hga_66 dX3_breakable_33 ?_
          obtain ⟨v_68, v_69, v_70, v_71, a_72, a_73, a_74, a_75, v_76, v_77, v_78, hfo_67, bv_68, bv_69, bv_70, bv_71, ⟨ma_72, ka_72⟩, ⟨ma_73, ka_73⟩, ⟨ma_74, ka_74⟩, ⟨ma_75, ka_75⟩⟩ := un_4 (hG _ ma_66) ka_66
          have bv_76 : ((-2147483648) ≤ v_76.toInt ∧ v_76.toInt ≤ 2147483647) := ⟨i32_lo _, i32_hi _⟩
          have bv_77 : ((-2147483648) ≤ v_77.toInt ∧ v_77.toInt ≤ 2147483647) := ⟨i32_lo _, i32_hi _⟩
          have bv_78 : ((-2147483648) ≤ v_78.toInt ∧ v_78.toInt ≤ 2147483647) := ⟨i32_lo _, i32_hi _⟩
          refine tk_getP (D := (dC, dI)) (ci := 4) (v := .int v_68) (C := RX4) (T := TX4) (N := 11) hx hb hU inlX4 hown hK hP ma_66 hfo_67 rfl 0 (by decide) (hU _ wd_743) (fun _ h9 => h9) rfl dX3_breakable_34 ?_
          refine tk_ViP (As := [.int v_68]) (rest := []) (n := 1) hx hb hml hown hU hN hZ (s_X3_hasSign_k3 l (dC, dI) cI cL cZ cR cG cH Z kd L f hG o0 mo0 ko0 v_68) wd_744 wd_745 wd_746 wd_16 wd_747 (by decide +kernel) ⟨Nat.le_of_ble_eq_true rfl, Nat.le_of_ble_eq_true rfl⟩ hK hP hD hS mo0 hfo_20 3 rfl rfl rfl hl.1 rfl (Nat.le_of_ble_eq_true rfl) dX3_breakable_37 ⟨Nat.le_of_ble_eq_true rfl, Nat.le_of_ble_eq_true rfl⟩ (fun x_79 f_80 H locs hw hP hD hS => ?_)
          obtain ⟨rfl, bx_79⟩ := hw
          refine lv_if_eq (tgt := 49) hx hb dX3_breakable_40 (by decide) (fun c_82 => ?_) (fun c_82 => ?_)
          · skip
            rw [← Int32.toInt_inj, ti_0] at c_82
            exact hcut_61 y_18 (by constructor <;> omega) _ _ hP hS ls (lv_sub hl [0, 1, 2, 3] rfl)
          · skip
            rw [← Int32.toInt_inj, ti_0] at c_82
            refine lv_iload_n hx hb dX3_breakable_43 rfl (lv_at hl 1 rfl) ?_
            refine lv_iconst (v := 1) hx hb dX3_breakable_44 (by decide) ?_
            refine lv_iload_n hx hb dX3_breakable_45 rfl (lv_at hl 0 rfl) ?_
            refine lv_ishl hx hb dX3_breakable_46 ?_
            refine lv_topi (fun x_83 ex_83 => ?_)
            have bx_83 : (1 ≤ x_83.toInt ∧ x_83.toInt ≤ 128) := by rw [ex_83]; exact sh_7 (by constructor <;> omega)
            refine lv_ior hx hb dX3_breakable_47 ?_
            refine lv_topi (fun x_84 ex_84 => ?_)
            have bx_84 : (0 ≤ x_84.toInt ∧ x_84.toInt ≤ 255) := by rw [ex_84]; exact or_K 8 (by decide) (by constructor <;> omega) (by constructor <;> omega)
            refine lv_istore_n (lv' := [(2, .int x_84), (3, .int y_17), (0, .ref o0), (1, .int p1)]) hx hb dX3_breakable_48 rfl hl (by decide) rfl (fun ls hl => ?_)
            exact hcut_61 x_84 (by constructor <;> omega) _ _ hP hS ls (lv_sub hl [1, 0, 2, 3] rfl)
  exact hloop_16 9 0 (by decide) 0 (by decide) _ _ hP hS (by (try rw [ti_0]) <;> omega) ls hl
