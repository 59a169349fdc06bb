set_option maxHeartbeats 8000000 in
set_option maxRecDepth 100000 in
theorem s_X1_clear_k1 (l : Launch) (D : va_G) (cI cL cZ cR cG cH : ClassId) (Z : zT) (kd : Nat → Nat) (L : List Nat) (f : Nat → va_E) (hG : GI (okc cI cL cZ cR cG cH L kd) kd L f) (o0 : Nat) (mo0 : o0 ∈ L) (ko0 : kd o0 = 1) : mPV l D cI cL cZ cR cG cH Z yX1_clear cX1_clear 1 none 1 23 [.ref o0] L f (fun (f9 : Nat → va_E) => GI (okc cI cL cZ cR cG cH L kd) kd L f9 ∧ (∀ b, kd b ≠ 1 → kd b ≠ 521 → f9 b = f b) ∧ (∀ b, kd b = 1 → fldR (f9 b) 0 = fldR (f b) 0) ∧ (∀ b, kd b = 1 → fldR (f9 b) 1 = fldR (f b) 1) ∧ (drel kd 1 521 522 f9 o0)) := by
  obtain ⟨dC, dI⟩ := D
  refine Met.ofW (cc := cX1_clear) (maxL := 1) (ret := none) (by decide) rfl ?_
  intro p e s m args below meth c s₁ B hml hv
  obtain ⟨rfl, hP, hK, hD0, hN, hZ⟩ := hv
  have hx := B.exec
  have hb := B.bytes
  have hr := B.returns
  have hU : ∀ w ∈ wsU, w.before _ s = true := fun w h => atoms_spec (ws := wU yX1_clear cX1_clear 1 none) B.pre w (List.mem_cons_of_mem _ h)
  have hown : s.vm.findClass RX1 = some m.cls := findClass_of_methodNamed B.named
  have hlocks := B.notSynchronized
  have hD := pl_in hD0
  have hS : va_S (fun q => q ∈ L) s.heap s.heap [] := va_S.rf
  have hl := lv_entry ([.ref o0]) (n := 1) (Nat.le_of_ble_eq_true rfl)
  rw [lg_entry_eq]
  generalize (lg_sl ([.ref o0]) ++ List.replicate (1 - (lg_sl ([.ref o0])).length) Slot.unset).toArray = ls at hl ⊢
  have hl : lv_has ls 1 [(0, .ref o0)] := hl
  have hfr0 : ∀ b, kd b ≠ 1 → kd b ≠ 521 → f b = f b := fun _ _ _ => rfl
  have hrr1_0 : ∀ b, kd b = 1 → fldR (f b) 0 = fldR (f b) 0 := fun _ _ => rfl
  have hrr1_1 : ∀ b, kd b = 1 → fldR (f b) 1 = fldR (f b) 1 := fun _ _ => rfl
  refine lv_aload_n hx hb dX1_clear_0 rfl (lv_at hl 0 rfl) ?_
  obtain ⟨a_2, a_3, a_4, v_5, v_6, v_7, hfo_1, ⟨ma_2, ka_2⟩, ⟨ma_3, ka_3⟩, ⟨ma_4, ka_4⟩, bv_5, bv_6, bv_7⟩ := un_1 (hG _ mo0) ko0
  refine tk_getP (D := (dC, dI)) (ci := 1) (v := .ref a_2) (C := RX1) (T := TX1) (N := 6) hx hb hU inlX1 hown hK hP mo0 hfo_1 rfl 0 (by decide) (hU _ wd_128) (fun _ h9 => h9) rfl dX1_clear_1 ?_
  refine lv_iconst (v := 0) hx hb dX1_clear_4 (by decide) ?_
  refine tk_SvP (As := [.ref a_2, .int 0]) (rest := []) (n := 2) hx hb hml hown hU hN hZ (s_J7_fill_53178_a521_z l (dC, dI) cI cL cZ cR cG cH Z kd L f hG a_2 ma_2 ka_2 0 (by decide)) wd_754 wd_266 wd_267 wd_268 (by decide +kernel) ⟨Nat.le_of_ble_eq_true rfl, Nat.le_of_ble_eq_true rfl⟩ hK hP hD hS rfl hl.1 rfl (Nat.le_of_ble_eq_true rfl) dX1_clear_5 ⟨Nat.le_of_ble_eq_true rfl, Nat.le_of_ble_eq_true rfl⟩ (fun f_9 H locs hw hP hD hS => ?_)
  obtain ⟨hG, hkc_10, hxp_11⟩ := hw
  have hfo_13 : f_9 o0 = .inr (1, [.ref a_2, .ref a_3, .ref a_4, .int v_5, .int v_6, .int v_7]) := by rw [hkc_10 o0 (by rw [ko0]; decide)]; exact hfo_1
  have hfr0 : ∀ b, kd b ≠ 1 → kd b ≠ 521 → f_9 b = f b := fun b q1 q521 => (hkc_10 b q521).trans (hfr0 b q1 q521)
  have hrr1_0 : ∀ b, kd b = 1 → fldR (f_9 b) 0 = fldR (f b) 0 := fun b kb => (congrArg (fun x => fldR x 0) (hkc_10 b (by rw [kb]; decide))).trans (hrr1_0 b kb)
  have hrr1_1 : ∀ b, kd b = 1 → fldR (f_9 b) 1 = fldR (f b) 1 := fun b kb => (congrArg (fun x => fldR x 1) (hkc_10 b (by rw [kb]; decide))).trans (hrr1_1 b kb)
  obtain ⟨g_15, hfo_14, hbg_15⟩ := un_521 (hG _ ma_2) ka_2
  have hzg_15 := hxp_11 g_15 hfo_14
  refine lv_aload_n hx hb dX1_clear_8 rfl (lv_at hl 0 rfl) ?_
  refine lv_iconst (v := 0) hx hb dX1_clear_9 (by decide) ?_
  refine tk_putP (D := (dC, dI)) (ci := 1) (v := .int 0) (ty := .int) (C := RX1) (T := TX1) (N := 6) hx hb hU inlX1 tyX1 tyX1_ok nmX1 hown hK hP hD hS mo0 hfo_13 rfl 4 (by decide) (hU _ wd_752) (fun _ h9 => h9) rfl (by decide +kernel) rfl rfl (Nat.le_of_ble_eq_true rfl) dX1_clear_10 (fun H locs hP hD hS => ?_)
  obtain ⟨f_17, ef_17⟩ : ∃ y : Nat → va_E, y = va_up f_9 o0 (.inr (1, [.ref a_2, .ref a_3, .ref a_4, .int v_5, .int 0, .int v_7])) := ⟨_, rfl⟩
  have hP : va_P (dC, dI) vwCl (va_pl L f_17) H := by rw [ef_17]; exact hP
  have hD : va_D (fun q => q ∈ L) (va_pl L f_17) := by rw [ef_17]; exact hD
  have hG : GI (okc cI cL cZ cR cG cH L kd) kd L f_17 := by rw [ef_17]; exact hG.set o0 (mk_1 ko0 ⟨a_2, a_3, a_4, v_5, 0, v_7, rfl, ⟨ma_2, ka_2⟩, ⟨ma_3, ka_3⟩, ⟨ma_4, ka_4⟩, (by constructor <;> omega), (by decide), (by constructor <;> omega)⟩)
  have hfo_18 : f_17 a_2 = .inl (cI, 4096, .inl g_15) := by rw [ef_17, up_ne (kd_ne ko0 ka_2 (by decide))]; exact hfo_14
  have hfr0 : ∀ b, kd b ≠ 1 → kd b ≠ 521 → f_17 b = f b := fun b q1 q521 => (congrFun ef_17 b).trans ((up_ne (fun e9 => q1 (by rw [e9]; exact ko0))).trans (hfr0 b q1 q521))
  have hrr1_0 : ∀ b, kd b = 1 → fldR (f_17 b) 0 = fldR (f b) 0 := fun b kb => ((congrArg (fun x => fldR x 0) (congrFun ef_17 b)).trans (fr_up (by rw [hfo_13]; rfl) b)).trans (hrr1_0 b kb)
  have hrr1_1 : ∀ b, kd b = 1 → fldR (f_17 b) 1 = fldR (f b) 1 := fun b kb => ((congrArg (fun x => fldR x 1) (congrFun ef_17 b)).trans (fr_up (by rw [hfo_13]; rfl) b)).trans (hrr1_1 b kb)
  have hfo_19 : f_17 o0 = .inr (1, [.ref a_2, .ref a_3, .ref a_4, .int v_5, .int 0, .int v_7]) := by rw [ef_17]; exact up_self
  refine lv_aload_n hx hb dX1_clear_13 rfl (lv_at hl 0 rfl) ?_
  refine lv_iconst (v := 0) hx hb dX1_clear_14 (by decide) ?_
  refine tk_putP (D := (dC, dI)) (ci := 1) (v := .int 0) (ty := .int) (C := RX1) (T := TX1) (N := 6) hx hb hU inlX1 tyX1 tyX1_ok nmX1 hown hK hP hD hS mo0 hfo_19 rfl 5 (by decide) (hU _ wd_753) (fun _ h9 => h9) rfl (by decide +kernel) rfl rfl (Nat.le_of_ble_eq_true rfl) dX1_clear_15 (fun H locs hP hD hS => ?_)
  obtain ⟨f_21, ef_21⟩ : ∃ y : Nat → va_E, y = va_up f_17 o0 (.inr (1, [.ref a_2, .ref a_3, .ref a_4, .int v_5, .int 0, .int 0])) := ⟨_, rfl⟩
  have hP : va_P (dC, dI) vwCl (va_pl L f_21) H := by rw [ef_21]; exact hP
  have hD : va_D (fun q => q ∈ L) (va_pl L f_21) := by rw [ef_21]; exact hD
  have hG : GI (okc cI cL cZ cR cG cH L kd) kd L f_21 := by rw [ef_21]; exact hG.set o0 (mk_1 ko0 ⟨a_2, a_3, a_4, v_5, 0, 0, rfl, ⟨ma_2, ka_2⟩, ⟨ma_3, ka_3⟩, ⟨ma_4, ka_4⟩, (by constructor <;> omega), (by decide), (by decide)⟩)
  have hfo_22 : f_21 a_2 = .inl (cI, 4096, .inl g_15) := by rw [ef_21, up_ne (kd_ne ko0 ka_2 (by decide))]; exact hfo_18
  have hfr0 : ∀ b, kd b ≠ 1 → kd b ≠ 521 → f_21 b = f b := fun b q1 q521 => (congrFun ef_21 b).trans ((up_ne (fun e9 => q1 (by rw [e9]; exact ko0))).trans (hfr0 b q1 q521))
  have hrr1_0 : ∀ b, kd b = 1 → fldR (f_21 b) 0 = fldR (f b) 0 := fun b kb => ((congrArg (fun x => fldR x 0) (congrFun ef_21 b)).trans (fr_up (by rw [hfo_19]; rfl) b)).trans (hrr1_0 b kb)
  have hrr1_1 : ∀ b, kd b = 1 → fldR (f_21 b) 1 = fldR (f b) 1 := fun b kb => ((congrArg (fun x => fldR x 1) (congrFun ef_21 b)).trans (fr_up (by rw [hfo_19]; rfl) b)).trans (hrr1_1 b kb)
  have hfo_23 : f_21 o0 = .inr (1, [.ref a_2, .ref a_3, .ref a_4, .int v_5, .int 0, .int 0]) := by rw [ef_21]; exact up_self
  obtain ⟨g_25, hfo_24⟩ := un_522 (hG _ ma_3) ka_3
  exact W.vret hx hb hr (fun t ht hW => ⟨⟨f_21, rfl, ⟨hG, hfr0, hrr1_0, hrr1_1, ⟨0, a_2, a_3, g_15, g_25, ⟨ko0, ka_2, ka_3⟩, (by rw [hfo_23]; exact ⟨rfl, rfl, rfl⟩), ⟨by rw [hfo_22]; rfl, by rw [hfo_24]; rfl⟩, (fun j hj => Or.inl (by rw [hzg_15 j hj]; decide))⟩⟩, by rw [ht]; exact hP, va_K.moved hW.alike hK, pl_in hD⟩, hS.F ht⟩) hS.2.2 dX1_clear_18
set_option maxHeartbeats 8000000 in
set_option maxRecDepth 100000 in
theorem s_X1_addKey_k1 (l : Launch) (D : va_G) (cI cL cZ cR cG cH : ClassId) (Z : zT) (kd : Nat → Nat) (L : List Nat) (f : Nat → va_E) (hG : GI (okc cI cL cZ cR cG cH L kd) kd L f) (o0 : Nat) (mo0 : o0 ∈ L) (ko0 : kd o0 = 1) (hxtr0 : drel kd 1 521 522 f o0) : mPV l D cI cL cZ cR cG cH Z yX1_addKey cX1_addKey 3 none 2 46 [.ref o0] L f (fun (f9 : Nat → va_E) => GI (okc cI cL cZ cR cG cH L kd) kd L f9 ∧ (∀ b, kd b ≠ 1 → kd b ≠ 521 → kd b ≠ 522 → f9 b = f b) ∧ (∀ b, kd b = 1 → fldR (f9 b) 0 = fldR (f b) 0) ∧ (∀ b, kd b = 1 → fldR (f9 b) 1 = fldR (f b) 1) ∧ (drel kd 1 521 522 f9 o0)) := by
  obtain ⟨dC, dI⟩ := D
  refine Met.ofW (cc := cX1_addKey) (maxL := 3) (ret := none) (by decide) rfl ?_
  intro p e s m args below meth c s₁ B hml hv
  obtain ⟨rfl, hP, hK, hD0, hN, hZ⟩ := hv
  have hx := B.exec
  have hb := B.bytes
  have hr := B.returns
  have hU : ∀ w ∈ wsU, w.before _ s = true := fun w h => atoms_spec (ws := wU yX1_addKey cX1_addKey 3 none) B.pre w (List.mem_cons_of_mem _ h)
  have hown : s.vm.findClass RX1 = some m.cls := findClass_of_methodNamed B.named
  have hlocks := B.notSynchronized
  have hD := pl_in hD0
  have hS : va_S (fun q => q ∈ L) s.heap s.heap [] := va_S.rf
  have hl := lv_entry ([.ref o0]) (n := 3) (Nat.le_of_ble_eq_true rfl)
  rw [lg_entry_eq]
  generalize (lg_sl ([.ref o0]) ++ List.replicate (3 - (lg_sl ([.ref o0])).length) Slot.unset).toArray = ls at hl ⊢
  have hl : lv_has ls 3 [(0, .ref o0)] := hl
  have hfr0 : ∀ b, kd b ≠ 1 → kd b ≠ 521 → kd b ≠ 522 → f b = f b := fun _ _ _ _ => rfl
  have hrr1_0 : ∀ b, kd b = 1 → fldR (f b) 0 = fldR (f b) 0 := fun _ _ => rfl
  have hrr1_1 : ∀ b, kd b = 1 → fldR (f b) 1 = fldR (f b) 1 := fun _ _ => rfl
  have hT0 := hxtr0
  have hTd := hT0
  obtain ⟨a_2, a_3, a_4, v_5, v_6, v_7, hfo_1, ⟨ma_2, ka_2⟩, ⟨ma_3, ka_3⟩, ⟨ma_4, ka_4⟩, bv_5, bv_6, bv_7⟩ := un_1 (hG _ mo0) ko0
  obtain ⟨g_9, hfo_8, hbg_9⟩ := un_521 (hG _ ma_2) ka_2
  obtain ⟨g_11, hfo_10⟩ := un_522 (hG _ ma_3) ka_3
  obtain ⟨tdu, tds, tda, tdg, tdp, ⟨-, -, -⟩, ⟨tdt1, tdt2, tdt3⟩, ⟨tdw1, tdw2⟩, td4⟩ := hTd
  rw [hfo_1] at tdt1 tdt2 tdt3
  obtain rfl := Option.some.inj tdt1
  obtain rfl := Option.some.inj tdt2
  obtain rfl := Option.some.inj tdt3
  rw [hfo_8] at tdw1
  obtain rfl := Option.some.inj tdw1
  rw [hfo_10] at tdw2
  obtain rfl := Option.some.inj tdw2
  refine lv_aload_n hx hb dX1_addKey_0 rfl (lv_at hl 0 rfl) ?_
  refine tk_ViP (As := []) (rest := []) (n := 0) hx hb hml hown hU hN hZ (s_X1_slotOfKey_k1 l (dC, dI) cI cL cZ cR cG cH Z kd L f hG o0 mo0 ko0 hT0) wd_783 wd_784 wd_785 wd_59 wd_786 (by decide +kernel) ⟨Nat.le_of_ble_eq_true rfl, Nat.le_of_ble_eq_true rfl⟩ hK hP hD hS mo0 hfo_1 1 rfl rfl rfl hl.1 rfl (Nat.le_of_ble_eq_true rfl) dX1_addKey_1 ⟨Nat.le_of_ble_eq_true rfl, Nat.le_of_ble_eq_true rfl⟩ (fun x_12 f_13 H locs hw hP hD hS => ?_)
  obtain ⟨rfl, bx_12⟩ := hw
  refine lv_istore_n (lv' := [(1, .int x_12), (0, .ref o0)]) hx hb dX1_addKey_4 rfl hl (by decide) rfl (fun ls hl => ?_)
  refine lv_aload_n hx hb dX1_addKey_5 rfl (lv_at hl 1 rfl) ?_
  refine tk_getP (D := (dC, dI)) (ci := 1) (v := .int v_6) (C := RX1) (T := TX1) (N := 6) hx hb hU inlX1 hown hK hP mo0 hfo_1 rfl 4 (by decide) (hU _ wd_752) (fun _ h9 => h9) rfl dX1_addKey_6 ?_
  refine lv_sipush (v := 3072) hx hb dX1_addKey_9 (by decide) ?_
  refine lv_icmp_ge (tgt := 31) hx hb dX1_addKey_12 (by decide) (fun c_15 => ?_) (fun c_15 => ?_)
  · skip
    rw [Int32.le_iff_toInt_le, ti_3072] at c_15
    refine lv_iconst (v := 1) hx hb dX1_addKey_31 (by decide) ?_
    refine lv_goto (tgt := 36) hx hb dX1_addKey_32 (by decide) ?_
    refine lv_istore_n (lv' := [(2, .int 1), (1, .int x_12), (0, .ref o0)]) hx hb dX1_addKey_36 rfl hl (by decide) rfl (fun ls hl => ?_)
    refine lv_iload_n hx hb dX1_addKey_37 rfl (lv_at hl 1 rfl) ?_
    refine lv_iconst (v := (-1)) hx hb dX1_addKey_38 (by decide) ?_
    refine lv_icmp_eq (tgt := 55) hx hb dX1_addKey_39 (by decide) (fun c_16 => ?_) (fun c_16 => ?_)
    · skip
      rw [← Int32.toInt_inj, ti_m1] at c_16
      exact W.vret hx hb hr (fun t ht hW => ⟨⟨f, rfl, ⟨hG, hfr0, hrr1_0, hrr1_1, hT0⟩, by rw [ht]; exact hP, va_K.moved hW.alike hK, pl_in hD⟩, hS.F ht⟩) hS.2.2 dX1_addKey_55
    · skip
      rw [← Int32.toInt_inj, ti_m1] at c_16
      refine lv_aload_n hx hb dX1_addKey_42 rfl (lv_at hl 2 rfl) ?_
      refine tk_getP (D := (dC, dI)) (ci := 1) (v := .ref a_2) (C := RX1) (T := TX1) (N := 6) hx hb hU inlX1 hown hK hP mo0 hfo_1 rfl 0 (by decide) (hU _ wd_128) (fun _ h9 => h9) rfl dX1_addKey_43 ?_
      refine lv_iload_n hx hb dX1_addKey_46 rfl (lv_at hl 1 rfl) ?_
      refine tk_ildP hx hb hK hP 0 ma_2 hfo_8 rfl (vp_in_iff.mpr (by constructor <;> omega)) dX1_addKey_47 ?_
      refine lv_topi (fun x_17 ex_17 => ?_)
      have bx_17 : (0 ≤ x_17.toInt ∧ x_17.toInt ≤ 32768) := by rw [ex_17]; exact hbg_9 _
      refine lv_if_ne (tgt := 55) hx hb dX1_addKey_48 (by decide) (fun c_18 => ?_) (fun c_18 => ?_)
      · skip
        rw [← Int32.toInt_inj, ti_0] at c_18
        exact W.vret hx hb hr (fun t ht hW => ⟨⟨f, rfl, ⟨hG, hfr0, hrr1_0, hrr1_1, hT0⟩, by rw [ht]; exact hP, va_K.moved hW.alike hK, pl_in hD⟩, hS.F ht⟩) hS.2.2 dX1_addKey_55
      · skip
        rw [← Int32.toInt_inj, ti_0] at c_18
        refine lv_iload_n hx hb dX1_addKey_51 rfl (lv_at hl 0 rfl) ?_
        refine lv_if_eq (tgt := 56) hx hb dX1_addKey_52 (by decide) (fun c9 => absurd c9 (by decide)) (fun _ => ?_)
        exact W.vret hx hb hr (fun t ht hW => ⟨⟨f, rfl, ⟨hG, hfr0, hrr1_0, hrr1_1, hT0⟩, by rw [ht]; exact hP, va_K.moved hW.alike hK, pl_in hD⟩, hS.F ht⟩) hS.2.2 dX1_addKey_55
  · skip
    rw [Int32.le_iff_toInt_le, ti_3072] at c_15
    refine lv_aload_n hx hb dX1_addKey_15 rfl (lv_at hl 1 rfl) ?_
    refine tk_getP (D := (dC, dI)) (ci := 1) (v := .int v_7) (C := RX1) (T := TX1) (N := 6) hx hb hU inlX1 hown hK hP mo0 hfo_1 rfl 5 (by decide) (hU _ wd_753) (fun _ h9 => h9) rfl dX1_addKey_16 ?_
    refine lv_aload_n hx hb dX1_addKey_19 rfl (lv_at hl 1 rfl) ?_
    refine tk_getP (D := (dC, dI)) (ci := 1) (v := .int v_5) (C := RX1) (T := TX1) (N := 6) hx hb hU inlX1 hown hK hP mo0 hfo_1 rfl 3 (by decide) (hU _ wd_774) (fun _ h9 => h9) rfl dX1_addKey_20 ?_
    refine lv_iadd hx hb dX1_addKey_23 ?_
    refine lv_topi (fun x_19 ex_19 => ?_)
    have hx_19 : x_19.toInt = v_7.toInt + v_5.toInt := by rw [ex_19, ad_I (by omega) (by omega)]
    have bx_19 : (0 ≤ x_19.toInt ∧ x_19.toInt ≤ 32857) := by constructor <;> omega
    refine lv_iconst (v := 1) hx hb dX1_addKey_24 (by decide) ?_
    refine lv_iadd hx hb dX1_addKey_25 ?_
    refine lv_topi (fun x_20 ex_20 => ?_)
    have hx_20 : x_20.toInt = x_19.toInt + 1 := by rw [ex_20, ad_I (by rw [ti_1]; omega) (by rw [ti_1]; omega), ti_1]
    have bx_20 : (1 ≤ x_20.toInt ∧ x_20.toInt ≤ 32858) := by constructor <;> omega
    refine lv_ldc (v := 32768) hx hb hown (hU _ wd_129) dX1_addKey_26 ?_
    refine lv_icmp_le (tgt := 35) hx hb dX1_addKey_28 (by decide) (fun c_21 => ?_) (fun c_21 => ?_)
    · skip
      rw [Int32.le_iff_toInt_le, ti_32768] at c_21
      refine lv_iconst (v := 0) hx hb dX1_addKey_35 (by decide) ?_
      refine lv_istore_n (lv' := [(2, .int 0), (1, .int x_12), (0, .ref o0)]) hx hb dX1_addKey_36 rfl hl (by decide) rfl (fun ls hl => ?_)
      refine lv_iload_n hx hb dX1_addKey_37 rfl (lv_at hl 1 rfl) ?_
      refine lv_iconst (v := (-1)) hx hb dX1_addKey_38 (by decide) ?_
      refine lv_icmp_eq (tgt := 55) hx hb dX1_addKey_39 (by decide) (fun c_22 => ?_) (fun c_22 => ?_)
      · skip
        rw [← Int32.toInt_inj, ti_m1] at c_22
        exact W.vret hx hb hr (fun t ht hW => ⟨⟨f, rfl, ⟨hG, hfr0, hrr1_0, hrr1_1, hT0⟩, by rw [ht]; exact hP, va_K.moved hW.alike hK, pl_in hD⟩, hS.F ht⟩) hS.2.2 dX1_addKey_55
      · skip
        rw [← Int32.toInt_inj, ti_m1] at c_22
        refine lv_aload_n hx hb dX1_addKey_42 rfl (lv_at hl 2 rfl) ?_
        refine tk_getP (D := (dC, dI)) (ci := 1) (v := .ref a_2) (C := RX1) (T := TX1) (N := 6) hx hb hU inlX1 hown hK hP mo0 hfo_1 rfl 0 (by decide) (hU _ wd_128) (fun _ h9 => h9) rfl dX1_addKey_43 ?_
        refine lv_iload_n hx hb dX1_addKey_46 rfl (lv_at hl 1 rfl) ?_
        refine tk_ildP hx hb hK hP 0 ma_2 hfo_8 rfl (vp_in_iff.mpr (by constructor <;> omega)) dX1_addKey_47 ?_
        refine lv_topi (fun x_23 ex_23 => ?_)
        have bx_23 : (0 ≤ x_23.toInt ∧ x_23.toInt ≤ 32768) := by rw [ex_23]; exact hbg_9 _
        refine lv_if_ne (tgt := 55) hx hb dX1_addKey_48 (by decide) (fun c_24 => ?_) (fun c_24 => ?_)
        · skip
          rw [← Int32.toInt_inj, ti_0] at c_24
          exact W.vret hx hb hr (fun t ht hW => ⟨⟨f, rfl, ⟨hG, hfr0, hrr1_0, hrr1_1, hT0⟩, by rw [ht]; exact hP, va_K.moved hW.alike hK, pl_in hD⟩, hS.F ht⟩) hS.2.2 dX1_addKey_55
        · skip
          rw [← Int32.toInt_inj, ti_0] at c_24
          refine lv_iload_n hx hb dX1_addKey_51 rfl (lv_at hl 0 rfl) ?_
          refine lv_if_eq (tgt := 56) hx hb dX1_addKey_52 (by decide) (fun _ => ?_) (fun c9 => absurd (by decide) c9)
          have hclc_25 : (0 ≤ v_7.toInt ∧ v_7.toInt ≤ 32767) := by constructor <;> omega
          refine lv_aload_n hx hb dX1_addKey_56 rfl (lv_at hl 2 rfl) ?_
          refine tk_getP (D := (dC, dI)) (ci := 1) (v := .ref a_3) (C := RX1) (T := TX1) (N := 6) hx hb hU inlX1 hown hK hP mo0 hfo_1 rfl 1 (by decide) (hU _ wd_131) (fun _ h9 => h9) rfl dX1_addKey_57 ?_
          refine lv_aload_n hx hb dX1_addKey_60 rfl (lv_at hl 2 rfl) ?_
          refine tk_getP (D := (dC, dI)) (ci := 1) (v := .int v_7) (C := RX1) (T := TX1) (N := 6) hx hb hU inlX1 hown hK hP mo0 hfo_1 rfl 5 (by decide) (hU _ wd_753) (fun _ h9 => h9) rfl dX1_addKey_61 ?_
          refine lv_aload_n hx hb dX1_addKey_64 rfl (lv_at hl 2 rfl) ?_
          refine tk_getP (D := (dC, dI)) (ci := 1) (v := .int v_5) (C := RX1) (T := TX1) (N := 6) hx hb hU inlX1 hown hK hP mo0 hfo_1 rfl 3 (by decide) (hU _ wd_774) (fun _ h9 => h9) rfl dX1_addKey_65 ?_
          refine lv_i2l hx hb dX1_addKey_68 rfl ?_
          refine lv_topl (fun j_26 ej_26 => ?_)
          refine tk_lstP hx hb hK hP hD hS 1 ma_3 hfo_10 rfl (vp_in_iff.mpr (by constructor <;> omega)) dX1_addKey_69 (fun H locs hP hD hS => ?_)
          obtain ⟨g_27, eqg_27⟩ : ∃ y : Nat → Int64, y = vp_updL g_11 (Int32.toNatClampNeg v_7) j_26 := ⟨_, rfl⟩
          rw [← eqg_27] at hP hD
          obtain ⟨f_29, ef_29⟩ : ∃ y : Nat → va_E, y = va_up f a_3 (.inl (cL, 32768, .inr (.inl g_27))) := ⟨_, rfl⟩
          have hP : va_P (dC, dI) vwCl (va_pl L f_29) H := by rw [ef_29]; exact hP
          have hD : va_D (fun q => q ∈ L) (va_pl L f_29) := by rw [ef_29]; exact hD
          have hG : GI (okc cI cL cZ cR cG cH L kd) kd L f_29 := by rw [ef_29]; exact hG.set a_3 (mk_522 ka_3 ⟨_, rfl⟩)
          have hfo_30 : f_29 o0 = .inr (1, [.ref a_2, .ref a_3, .ref a_4, .int v_5, .int v_6, .int v_7]) := by rw [ef_29, up_ne (kd_ne ka_3 ko0 (by decide))]; exact hfo_1
          have hfo_31 : f_29 a_2 = .inl (cI, 4096, .inl g_9) := by rw [ef_29, up_ne (kd_ne ka_3 ka_2 (by decide))]; exact hfo_8
          have hfr0 : ∀ b, kd b ≠ 1 → kd b ≠ 521 → kd b ≠ 522 → f_29 b = f b := fun b q1 q521 q522 => (congrFun ef_29 b).trans ((up_ne (fun e9 => q522 (by rw [e9]; exact ka_3))).trans (hfr0 b q1 q521 q522))
          have hrr1_0 : ∀ b, kd b = 1 → fldR (f_29 b) 0 = fldR (f b) 0 := fun b kb => (congrArg (fun x => fldR x 0) ((congrFun ef_29 b).trans (up_ne (kd_ne ka_3 kb (by decide))))).trans (hrr1_0 b kb)
          have hrr1_1 : ∀ b, kd b = 1 → fldR (f_29 b) 1 = fldR (f b) 1 := fun b kb => (congrArg (fun x => fldR x 1) ((congrFun ef_29 b).trans (up_ne (kd_ne ka_3 kb (by decide))))).trans (hrr1_1 b kb)
          have hfo_32 : f_29 a_3 = .inl (cL, 32768, .inr (.inl g_27)) := by rw [ef_29]; exact up_self
          refine lv_aload_n hx hb dX1_addKey_70 rfl (lv_at hl 2 rfl) ?_
          refine tk_getP (D := (dC, dI)) (ci := 1) (v := .ref a_4) (C := RX1) (T := TX1) (N := 6) hx hb hU inlX1 hown hK hP mo0 hfo_30 rfl 2 (by decide) (hU _ wd_132) (fun _ h9 => h9) rfl dX1_addKey_71 ?_
          refine lv_iconst (v := 0) hx hb dX1_addKey_74 (by decide) ?_
          refine lv_aload_n hx hb dX1_addKey_75 rfl (lv_at hl 2 rfl) ?_
          refine tk_getP (D := (dC, dI)) (ci := 1) (v := .ref a_3) (C := RX1) (T := TX1) (N := 6) hx hb hU inlX1 hown hK hP mo0 hfo_30 rfl 1 (by decide) (hU _ wd_131) (fun _ h9 => h9) rfl dX1_addKey_76 ?_
          refine lv_aload_n hx hb dX1_addKey_79 rfl (lv_at hl 2 rfl) ?_
          refine tk_getP (D := (dC, dI)) (ci := 1) (v := .int v_7) (C := RX1) (T := TX1) (N := 6) hx hb hU inlX1 hown hK hP mo0 hfo_30 rfl 5 (by decide) (hU _ wd_753) (fun _ h9 => h9) rfl dX1_addKey_80 ?_
          refine lv_iconst (v := 1) hx hb dX1_addKey_83 (by decide) ?_
          refine lv_iadd hx hb dX1_addKey_84 ?_
          refine lv_topi (fun x_33 ex_33 => ?_)
          have hx_33 : x_33.toInt = v_7.toInt + 1 := by rw [ex_33, ad_I (by rw [ti_1]; omega) (by rw [ti_1]; omega), ti_1]
          have bx_33 : (1 ≤ x_33.toInt ∧ x_33.toInt ≤ 32768) := by constructor <;> omega
          refine lv_aload_n hx hb dX1_addKey_85 rfl (lv_at hl 2 rfl) ?_
          refine tk_getP (D := (dC, dI)) (ci := 1) (v := .int v_5) (C := RX1) (T := TX1) (N := 6) hx hb hU inlX1 hown hK hP mo0 hfo_30 rfl 3 (by decide) (hU _ wd_774) (fun _ h9 => h9) rfl dX1_addKey_86 ?_
          obtain ⟨g_35, hfo_34⟩ := un_523 (hG _ ma_4) ka_4
          refine tk_copyL hx hb (by rw [hml]; exact hl.1.symm) hown (hU _ wd_854) (hU _ wd_253) (hU _ wd_254) (hU _ wd_255) hK hP hD hS 1 ma_4 ma_3 hfo_34 hfo_32 rfl (by decide) (by rw [Int32.lt_iff_toInt_lt, ti_0]; omega) (by rw [Int32.lt_iff_toInt_lt, ti_0]; omega) (cp_ok (by rw [ti_0]; omega) (by omega) (by rw [ti_0]; omega)) (cp_ok (by omega) (by omega) (by omega)) (Nat.le_of_ble_eq_true rfl) (Nat.le_of_ble_eq_true rfl) dX1_addKey_89 (fun H locs hP hD hS => ?_)
          obtain ⟨g_36, eqg_36⟩ : ∃ y : Nat → Int64, y = va_cpy g_35 g_27 (Int32.toNatClampNeg 0) (Int32.toNatClampNeg x_33) (Int32.toNatClampNeg v_5) := ⟨_, rfl⟩
          rw [← eqg_36] at hP hD
          obtain ⟨f_38, ef_38⟩ : ∃ y : Nat → va_E, y = va_up f_29 a_3 (.inl (cL, 32768, .inr (.inl g_36))) := ⟨_, rfl⟩
          have hP : va_P (dC, dI) vwCl (va_pl L f_38) H := by rw [ef_38]; exact hP
          have hD : va_D (fun q => q ∈ L) (va_pl L f_38) := by rw [ef_38]; exact hD
          have hG : GI (okc cI cL cZ cR cG cH L kd) kd L f_38 := by rw [ef_38]; exact hG.set a_3 (mk_522 ka_3 ⟨_, rfl⟩)
          have hfo_39 : f_38 o0 = .inr (1, [.ref a_2, .ref a_3, .ref a_4, .int v_5, .int v_6, .int v_7]) := by rw [ef_38, up_ne (kd_ne ka_3 ko0 (by decide))]; exact hfo_30
          have hfo_40 : f_38 a_2 = .inl (cI, 4096, .inl g_9) := by rw [ef_38, up_ne (kd_ne ka_3 ka_2 (by decide))]; exact hfo_31
          have hfo_41 : f_38 a_4 = .inl (cL, 89, .inr (.inl g_35)) := by rw [ef_38, up_ne (kd_ne ka_3 ka_4 (by decide))]; exact hfo_34
          have hfr0 : ∀ b, kd b ≠ 1 → kd b ≠ 521 → kd b ≠ 522 → f_38 b = f b := fun b q1 q521 q522 => (congrFun ef_38 b).trans ((up_ne (fun e9 => q522 (by rw [e9]; exact ka_3))).trans (hfr0 b q1 q521 q522))
          have hrr1_0 : ∀ b, kd b = 1 → fldR (f_38 b) 0 = fldR (f b) 0 := fun b kb => (congrArg (fun x => fldR x 0) ((congrFun ef_38 b).trans (up_ne (kd_ne ka_3 kb (by decide))))).trans (hrr1_0 b kb)
          have hrr1_1 : ∀ b, kd b = 1 → fldR (f_38 b) 1 = fldR (f b) 1 := fun b kb => (congrArg (fun x => fldR x 1) ((congrFun ef_38 b).trans (up_ne (kd_ne ka_3 kb (by decide))))).trans (hrr1_1 b kb)
          have hfo_42 : f_38 a_3 = .inl (cL, 32768, .inr (.inl g_36)) := by rw [ef_38]; exact up_self
          refine lv_aload_n hx hb dX1_addKey_92 rfl (lv_at hl 2 rfl) ?_
          refine tk_getP (D := (dC, dI)) (ci := 1) (v := .ref a_2) (C := RX1) (T := TX1) (N := 6) hx hb hU inlX1 hown hK hP mo0 hfo_39 rfl 0 (by decide) (hU _ wd_128) (fun _ h9 => h9) rfl dX1_addKey_93 ?_
          refine lv_iload_n hx hb dX1_addKey_96 rfl (lv_at hl 1 rfl) ?_
          refine lv_aload_n hx hb dX1_addKey_97 rfl (lv_at hl 2 rfl) ?_
          refine tk_getP (D := (dC, dI)) (ci := 1) (v := .int v_7) (C := RX1) (T := TX1) (N := 6) hx hb hU inlX1 hown hK hP mo0 hfo_39 rfl 5 (by decide) (hU _ wd_753) (fun _ h9 => h9) rfl dX1_addKey_98 ?_
          refine lv_iconst (v := 1) hx hb dX1_addKey_101 (by decide) ?_
          refine lv_iadd hx hb dX1_addKey_102 ?_
          refine lv_topi (fun x_43 ex_43 => ?_)
          have hx_43 : x_43.toInt = v_7.toInt + 1 := by rw [ex_43, ad_I (by rw [ti_1]; omega) (by rw [ti_1]; omega), ti_1]
          have bx_43 : (1 ≤ x_43.toInt ∧ x_43.toInt ≤ 32768) := by constructor <;> omega
          refine tk_istP hx hb hK hP hD hS 0 ma_2 hfo_40 rfl (vp_in_iff.mpr (by constructor <;> omega)) dX1_addKey_103 (fun H locs hP hD hS => ?_)
          obtain ⟨g_44, eqg_44⟩ : ∃ y : Nat → Int32, y = upd g_9 (Int32.toNatClampNeg x_12) x_43 := ⟨_, rfl⟩
          rw [← eqg_44] at hP hD
          have hbg_44 : ∀ j, 0 ≤ (g_44 j).toInt ∧ (g_44 j).toInt ≤ 32768 := by rw [eqg_44]; exact okI_up hbg_9 (by constructor <;> omega) _
          obtain ⟨f_46, ef_46⟩ : ∃ y : Nat → va_E, y = va_up f_38 a_2 (.inl (cI, 4096, .inl g_44)) := ⟨_, rfl⟩
          have hP : va_P (dC, dI) vwCl (va_pl L f_46) H := by rw [ef_46]; exact hP
          have hD : va_D (fun q => q ∈ L) (va_pl L f_46) := by rw [ef_46]; exact hD
          have hG : GI (okc cI cL cZ cR cG cH L kd) kd L f_46 := by rw [ef_46]; exact hG.set a_2 (mk_521 ka_2 ⟨_, rfl, hbg_44⟩)
          have hfo_47 : f_46 o0 = .inr (1, [.ref a_2, .ref a_3, .ref a_4, .int v_5, .int v_6, .int v_7]) := by rw [ef_46, up_ne (kd_ne ka_2 ko0 (by decide))]; exact hfo_39
          have hfo_48 : f_46 a_4 = .inl (cL, 89, .inr (.inl g_35)) := by rw [ef_46, up_ne (kd_ne ka_2 ka_4 (by decide))]; exact hfo_41
          have hfo_49 : f_46 a_3 = .inl (cL, 32768, .inr (.inl g_36)) := by rw [ef_46, up_ne (kd_ne ka_2 ka_3 (by decide))]; exact hfo_42
          have hfr0 : ∀ b, kd b ≠ 1 → kd b ≠ 521 → kd b ≠ 522 → f_46 b = f b := fun b q1 q521 q522 => (congrFun ef_46 b).trans ((up_ne (fun e9 => q521 (by rw [e9]; exact ka_2))).trans (hfr0 b q1 q521 q522))
          have hrr1_0 : ∀ b, kd b = 1 → fldR (f_46 b) 0 = fldR (f b) 0 := fun b kb => (congrArg (fun x => fldR x 0) ((congrFun ef_46 b).trans (up_ne (kd_ne ka_2 kb (by decide))))).trans (hrr1_0 b kb)
          have hrr1_1 : ∀ b, kd b = 1 → fldR (f_46 b) 1 = fldR (f b) 1 := fun b kb => (congrArg (fun x => fldR x 1) ((congrFun ef_46 b).trans (up_ne (kd_ne ka_2 kb (by decide))))).trans (hrr1_1 b kb)
          have hfo_50 : f_46 a_2 = .inl (cI, 4096, .inl g_44) := by rw [ef_46]; exact up_self
          refine lv_aload_n hx hb dX1_addKey_104 rfl (lv_at hl 2 rfl) ?_
          refine lv_dup hx hb dX1_addKey_105 rfl ?_
          refine tk_getP (D := (dC, dI)) (ci := 1) (v := .int v_7) (C := RX1) (T := TX1) (N := 6) hx hb hU inlX1 hown hK hP mo0 hfo_47 rfl 5 (by decide) (hU _ wd_753) (fun _ h9 => h9) rfl dX1_addKey_106 ?_
          refine lv_aload_n hx hb dX1_addKey_109 rfl (lv_at hl 2 rfl) ?_
          refine tk_getP (D := (dC, dI)) (ci := 1) (v := .int v_5) (C := RX1) (T := TX1) (N := 6) hx hb hU inlX1 hown hK hP mo0 hfo_47 rfl 3 (by decide) (hU _ wd_774) (fun _ h9 => h9) rfl dX1_addKey_110 ?_
          refine lv_iconst (v := 1) hx hb dX1_addKey_113 (by decide) ?_
          refine lv_iadd hx hb dX1_addKey_114 ?_
          refine lv_topi (fun x_51 ex_51 => ?_)
          have hx_51 : x_51.toInt = v_5.toInt + 1 := by rw [ex_51, ad_I (by rw [ti_1]; omega) (by rw [ti_1]; omega), ti_1]
          have bx_51 : (1 ≤ x_51.toInt ∧ x_51.toInt ≤ 90) := by constructor <;> omega
          refine lv_iadd hx hb dX1_addKey_115 ?_
          refine lv_topi (fun x_52 ex_52 => ?_)
          have hx_52 : x_52.toInt = v_7.toInt + x_51.toInt := by rw [ex_52, ad_I (by omega) (by omega)]
          have bx_52 : (1 ≤ x_52.toInt ∧ x_52.toInt ≤ 32857) := by constructor <;> omega
          have hclc_53 : (0 ≤ x_52.toInt ∧ x_52.toInt ≤ 32768) := by constructor <;> omega
          refine tk_putP (D := (dC, dI)) (ci := 1) (v := .int x_52) (ty := .int) (C := RX1) (T := TX1) (N := 6) hx hb hU inlX1 tyX1 tyX1_ok nmX1 hown hK hP hD hS mo0 hfo_47 rfl 5 (by decide) (hU _ wd_753) (fun _ h9 => h9) rfl (by decide +kernel) rfl rfl (Nat.le_of_ble_eq_true rfl) dX1_addKey_116 (fun H locs hP hD hS => ?_)
          obtain ⟨f_55, ef_55⟩ : ∃ y : Nat → va_E, y = va_up f_46 o0 (.inr (1, [.ref a_2, .ref a_3, .ref a_4, .int v_5, .int v_6, .int x_52])) := ⟨_, rfl⟩
          have hP : va_P (dC, dI) vwCl (va_pl L f_55) H := by rw [ef_55]; exact hP
          have hD : va_D (fun q => q ∈ L) (va_pl L f_55) := by rw [ef_55]; exact hD
          have hG : GI (okc cI cL cZ cR cG cH L kd) kd L f_55 := by rw [ef_55]; exact hG.set o0 (mk_1 ko0 ⟨a_2, a_3, a_4, v_5, v_6, x_52, rfl, ⟨ma_2, ka_2⟩, ⟨ma_3, ka_3⟩, ⟨ma_4, ka_4⟩, (by constructor <;> omega), (by constructor <;> omega), (by constructor <;> omega)⟩)
          have hfo_56 : f_55 a_4 = .inl (cL, 89, .inr (.inl g_35)) := by rw [ef_55, up_ne (kd_ne ko0 ka_4 (by decide))]; exact hfo_48
          have hfo_57 : f_55 a_3 = .inl (cL, 32768, .inr (.inl g_36)) := by rw [ef_55, up_ne (kd_ne ko0 ka_3 (by decide))]; exact hfo_49
          have hfo_58 : f_55 a_2 = .inl (cI, 4096, .inl g_44) := by rw [ef_55, up_ne (kd_ne ko0 ka_2 (by decide))]; exact hfo_50
          have hfr0 : ∀ b, kd b ≠ 1 → kd b ≠ 521 → kd b ≠ 522 → f_55 b = f b := fun b q1 q521 q522 => (congrFun ef_55 b).trans ((up_ne (fun e9 => q1 (by rw [e9]; exact ko0))).trans (hfr0 b q1 q521 q522))
          have hrr1_0 : ∀ b, kd b = 1 → fldR (f_55 b) 0 = fldR (f b) 0 := fun b kb => ((congrArg (fun x => fldR x 0) (congrFun ef_55 b)).trans (fr_up (by rw [hfo_47]; rfl) b)).trans (hrr1_0 b kb)
          have hrr1_1 : ∀ b, kd b = 1 → fldR (f_55 b) 1 = fldR (f b) 1 := fun b kb => ((congrArg (fun x => fldR x 1) (congrFun ef_55 b)).trans (fr_up (by rw [hfo_47]; rfl) b)).trans (hrr1_1 b kb)
          have hfo_59 : f_55 o0 = .inr (1, [.ref a_2, .ref a_3, .ref a_4, .int v_5, .int v_6, .int x_52]) := by rw [ef_55]; exact up_self
          refine lv_aload_n hx hb dX1_addKey_119 rfl (lv_at hl 2 rfl) ?_
          refine lv_dup hx hb dX1_addKey_120 rfl ?_
          refine tk_getP (D := (dC, dI)) (ci := 1) (v := .int v_6) (C := RX1) (T := TX1) (N := 6) hx hb hU inlX1 hown hK hP mo0 hfo_59 rfl 4 (by decide) (hU _ wd_752) (fun _ h9 => h9) rfl dX1_addKey_121 ?_
          refine lv_iconst (v := 1) hx hb dX1_addKey_124 (by decide) ?_
          refine lv_iadd hx hb dX1_addKey_125 ?_
          refine lv_topi (fun x_60 ex_60 => ?_)
          have hx_60 : x_60.toInt = v_6.toInt + 1 := by rw [ex_60, ad_I (by rw [ti_1]; omega) (by rw [ti_1]; omega), ti_1]
          have bx_60 : (1 ≤ x_60.toInt ∧ x_60.toInt ≤ 3072) := by constructor <;> omega
          refine tk_putP (D := (dC, dI)) (ci := 1) (v := .int x_60) (ty := .int) (C := RX1) (T := TX1) (N := 6) hx hb hU inlX1 tyX1 tyX1_ok nmX1 hown hK hP hD hS mo0 hfo_59 rfl 4 (by decide) (hU _ wd_752) (fun _ h9 => h9) rfl (by decide +kernel) rfl rfl (Nat.le_of_ble_eq_true rfl) dX1_addKey_126 (fun H locs hP hD hS => ?_)
          obtain ⟨f_62, ef_62⟩ : ∃ y : Nat → va_E, y = va_up f_55 o0 (.inr (1, [.ref a_2, .ref a_3, .ref a_4, .int v_5, .int x_60, .int x_52])) := ⟨_, rfl⟩
          have hP : va_P (dC, dI) vwCl (va_pl L f_62) H := by rw [ef_62]; exact hP
          have hD : va_D (fun q => q ∈ L) (va_pl L f_62) := by rw [ef_62]; exact hD
          have hG : GI (okc cI cL cZ cR cG cH L kd) kd L f_62 := by rw [ef_62]; exact hG.set o0 (mk_1 ko0 ⟨a_2, a_3, a_4, v_5, x_60, x_52, rfl, ⟨ma_2, ka_2⟩, ⟨ma_3, ka_3⟩, ⟨ma_4, ka_4⟩, (by constructor <;> omega), (by constructor <;> omega), (by constructor <;> omega)⟩)
          have hfo_63 : f_62 a_4 = .inl (cL, 89, .inr (.inl g_35)) := by rw [ef_62, up_ne (kd_ne ko0 ka_4 (by decide))]; exact hfo_56
          have hfo_64 : f_62 a_3 = .inl (cL, 32768, .inr (.inl g_36)) := by rw [ef_62, up_ne (kd_ne ko0 ka_3 (by decide))]; exact hfo_57
          have hfo_65 : f_62 a_2 = .inl (cI, 4096, .inl g_44) := by rw [ef_62, up_ne (kd_ne ko0 ka_2 (by decide))]; exact hfo_58
          have hfr0 : ∀ b, kd b ≠ 1 → kd b ≠ 521 → kd b ≠ 522 → f_62 b = f b := fun b q1 q521 q522 => (congrFun ef_62 b).trans ((up_ne (fun e9 => q1 (by rw [e9]; exact ko0))).trans (hfr0 b q1 q521 q522))
          have hrr1_0 : ∀ b, kd b = 1 → fldR (f_62 b) 0 = fldR (f b) 0 := fun b kb => ((congrArg (fun x => fldR x 0) (congrFun ef_62 b)).trans (fr_up (by rw [hfo_59]; rfl) b)).trans (hrr1_0 b kb)
          have hrr1_1 : ∀ b, kd b = 1 → fldR (f_62 b) 1 = fldR (f b) 1 := fun b kb => ((congrArg (fun x => fldR x 1) (congrFun ef_62 b)).trans (fr_up (by rw [hfo_59]; rfl) b)).trans (hrr1_1 b kb)
          have hfo_66 : f_62 o0 = .inr (1, [.ref a_2, .ref a_3, .ref a_4, .int v_5, .int x_60, .int x_52]) := by rw [ef_62]; exact up_self
          exact W.vret hx hb hr (fun t ht hW => ⟨⟨f_62, rfl, ⟨hG, hfr0, hrr1_0, hrr1_1, ⟨x_52, a_2, a_3, g_44, g_36, ⟨ko0, ka_2, ka_3⟩, (by rw [hfo_66]; exact ⟨rfl, rfl, rfl⟩), ⟨by rw [hfo_65]; rfl, by rw [hfo_64]; rfl⟩, (fun j hj => by have hcu := cl_I (i := v_7) (by omega); have hcd := cl_I (i := x_33) (by omega); have hcn := cl_I (i := v_5) (by omega); have hcv := cl_I (i := x_43) (by omega); rw [eqg_44]; by_cases hjs : j = Int32.toNatClampNeg x_12; (· right; rw [hjs, pk_us, eqg_36, pk_cpy_out (by omega), eqg_27, show Int32.toNatClampNeg x_43 - 1 = Int32.toNatClampNeg v_7 by omega, pk_uLs, ej_26, i64_of]; omega); (· rw [pk_un hjs]; rcases td4 j hj with h7 | ⟨h7, h8, h9⟩; (· exact Or.inl h7); (· right; have hcg := cl_I (i := g_9 j) (by omega); rw [eqg_36, pk_cpy_out (by omega), eqg_27, pk_uLn (by omega)]; omega)))⟩⟩, by rw [ht]; exact hP, va_K.moved hW.alike hK, pl_in hD⟩, hS.F ht⟩) hS.2.2 dX1_addKey_129
    · skip
      rw [Int32.le_iff_toInt_le, ti_32768] at c_21
      refine lv_iconst (v := 1) hx hb dX1_addKey_31 (by decide) ?_
      refine lv_goto (tgt := 36) hx hb dX1_addKey_32 (by decide) ?_
      refine lv_istore_n (lv' := [(2, .int 1), (1, .int x_12), (0, .ref o0)]) hx hb dX1_addKey_36 rfl hl (by decide) rfl (fun ls hl => ?_)
      refine lv_iload_n hx hb dX1_addKey_37 rfl (lv_at hl 1 rfl) ?_
      refine lv_iconst (v := (-1)) hx hb dX1_addKey_38 (by decide) ?_
      refine lv_icmp_eq (tgt := 55) hx hb dX1_addKey_39 (by decide) (fun c_67 => ?_) (fun c_67 => ?_)
      · skip
        rw [← Int32.toInt_inj, ti_m1] at c_67
        exact W.vret hx hb hr (fun t ht hW => ⟨⟨f, rfl, ⟨hG, hfr0, hrr1_0, hrr1_1, hT0⟩, by rw [ht]; exact hP, va_K.moved hW.alike hK, pl_in hD⟩, hS.F ht⟩) hS.2.2 dX1_addKey_55
      · skip
        rw [← Int32.toInt_inj, ti_m1] at c_67
        refine lv_aload_n hx hb dX1_addKey_42 rfl (lv_at hl 2 rfl) ?_
        refine tk_getP (D := (dC, dI)) (ci := 1) (v := .ref a_2) (C := RX1) (T := TX1) (N := 6) hx hb hU inlX1 hown hK hP mo0 hfo_1 rfl 0 (by decide) (hU _ wd_128) (fun _ h9 => h9) rfl dX1_addKey_43 ?_
        refine lv_iload_n hx hb dX1_addKey_46 rfl (lv_at hl 1 rfl) ?_
        refine tk_ildP hx hb hK hP 0 ma_2 hfo_8 rfl (vp_in_iff.mpr (by constructor <;> omega)) dX1_addKey_47 ?_
        refine lv_topi (fun x_68 ex_68 => ?_)
        have bx_68 : (0 ≤ x_68.toInt ∧ x_68.toInt ≤ 32768) := by rw [ex_68]; exact hbg_9 _
        refine lv_if_ne (tgt := 55) hx hb dX1_addKey_48 (by decide) (fun c_69 => ?_) (fun c_69 => ?_)
        · skip
          rw [← Int32.toInt_inj, ti_0] at c_69
          exact W.vret hx hb hr (fun t ht hW => ⟨⟨f, rfl, ⟨hG, hfr0, hrr1_0, hrr1_1, hT0⟩, by rw [ht]; exact hP, va_K.moved hW.alike hK, pl_in hD⟩, hS.F ht⟩) hS.2.2 dX1_addKey_55
        · skip
          rw [← Int32.toInt_inj, ti_0] at c_69
          refine lv_iload_n hx hb dX1_addKey_51 rfl (lv_at hl 0 rfl) ?_
          refine lv_if_eq (tgt := 56) hx hb dX1_addKey_52 (by decide) (fun c9 => absurd c9 (by decide)) (fun _ => ?_)
          exact W.vret hx hb hr (fun t ht hW => ⟨⟨f, rfl, ⟨hG, hfr0, hrr1_0, hrr1_1, hT0⟩, by rw [ht]; exact hP, va_K.moved hW.alike hK, pl_in hD⟩, hS.F ht⟩) hS.2.2 dX1_addKey_55
set_option maxHeartbeats 8000000 in
set_option maxRecDepth 100000 in
theorem s_X10_signIn (l : Launch) (D : va_G) (cI cL cZ cR cG cH : ClassId) (Z : zT) (kd : Nat → Nat) (L : List Nat) (f : Nat → va_E) (hG : GI (okc cI cL cZ cR cG cH L kd) kd L f) (p0 : Int32) (bp0 : (0 ≤ p0.toInt ∧ p0.toInt ≤ 2147483647)) (p1 : Int32) (bp1 : (0 ≤ p1.toInt ∧ p1.toInt ≤ 8)) : mPI l D cI cL cZ cR cG cH Z yX10_signIn cX10_signIn 2 (some .int) 0 0 [.int p0, .int p1] L f (fun (r : Int32) (f9 : Nat → va_E) => f = f9 ∧ (0 ≤ r.toInt ∧ r.toInt ≤ 8)) := by
  obtain ⟨dC, dI⟩ := D
  refine Met.ofW (cc := cX10_signIn) (maxL := 2) (ret := (some .int)) (by decide) rfl ?_
  intro p e s m args below meth c s₁ B hml hv
  obtain ⟨rfl, hP, hK, hD0, hN, hZ⟩ := hv
  have hx := B.exec
  have hb := B.bytes
  have hr := B.returns
  have hU : ∀ w ∈ wsU, w.before _ s = true := fun w h => atoms_spec (ws := wU yX10_signIn cX10_signIn 2 (some .int)) B.pre w (List.mem_cons_of_mem _ h)
  have hown : s.vm.findClass RX10 = some m.cls := findClass_of_methodNamed B.named
  have hlocks := B.notSynchronized
  have hD := pl_in hD0
  have hS : va_S (fun q => q ∈ L) s.heap s.heap [] := va_S.rf
  have hl := lv_entry ([.int p0, .int p1]) (n := 2) (Nat.le_of_ble_eq_true rfl)
  rw [lg_entry_eq]
  generalize (lg_sl ([.int p0, .int p1]) ++ List.replicate (2 - (lg_sl ([.int p0, .int p1])).length) Slot.unset).toArray = ls at hl ⊢
  have hl : lv_has ls 2 [(0, .int p0), (1, .int p1)] := hl
  refine lv_iload_n hx hb dX10_signIn_0 rfl (lv_at hl 0 rfl) ?_
  refine va_gets hx hb hZ.2.2.1 hS hown (hU _ wd_982) (fun _ h9 => h9) dX10_signIn_1 ?_
  refine lv_iload_n hx hb dX10_signIn_4 rfl (lv_at hl 1 rfl) ?_
  refine va_ti (v := zWt (Int32.toNatClampNeg p1)) hx hb hZ.2.2.2.1 hS (vp_in_iff.mpr (by constructor <;> omega)) rfl dX10_signIn_5 ?_
  rw [zWt]
  refine lv_topi (fun x_1 ex_1 => ?_)
  have bx_1 : (1 ≤ x_1.toInt ∧ x_1.toInt ≤ 43046721) := by rw [ex_1]; exact zw_b (vp_in_iff.mpr (by constructor <;> omega))
  have htx_1 := zw_t ex_1 (vp_in_iff.mpr (by constructor <;> omega))
  refine lv_idiv hx hb dX10_signIn_6 (by rw [← Int32.toInt_inj, ti_0]; omega) ?_
  refine lv_topi (fun x_2 ex_2 => ?_)
  have bx_2 : (0 ≤ x_2.toInt ∧ x_2.toInt ≤ 2147483647) := by rw [ex_2]; have h8 := dv_B (x := p0) (y := x_1) (by omega) (by omega); constructor <;> omega
  refine lv_bipush (v := 9) hx hb dX10_signIn_7 (by decide) ?_
  refine lv_irem hx hb dX10_signIn_9 (by decide) ?_
  refine lv_topi (fun x_3 ex_3 => ?_)
  have hx_3 : x_3.toInt = x_2.toInt % 9 := by rw [ex_3, rm_I (by omega) (by rw [ti_9]; omega), ti_9]
  have bx_3 : (0 ≤ x_3.toInt ∧ x_3.toInt ≤ 8) := by constructor <;> omega
  exact W.iret (v := x_3) hx hb hr (fun t ht hW => ⟨⟨x_3, f, rfl, ⟨rfl, (by constructor <;> omega)⟩, by rw [ht]; exact hP, va_K.moved hW.alike hK, pl_in hD⟩, hS.F ht⟩) hS.2.2 dX10_signIn_10
set_option maxHeartbeats 8000000 in
set_option maxRecDepth 100000 in
theorem s_X10_signIn_a (l : Launch) (D : va_G) (cI cL cZ cR cG cH : ClassId) (Z : zT) (kd : Nat → Nat) (L : List Nat) (f : Nat → va_E) (hG : GI (okc cI cL cZ cR cG cH L kd) kd L f) (p0 : Int32) (p1 : Int32) (bp1 : (0 ≤ p1.toInt ∧ p1.toInt ≤ 8)) : mPI l D cI cL cZ cR cG cH Z yX10_signIn cX10_signIn 2 (some .int) 0 0 [.int p0, .int p1] L f (fun (r : Int32) (f9 : Nat → va_E) => f = f9 ∧ ((-2147483648) ≤ r.toInt ∧ r.toInt ≤ 2147483647)) := by
  obtain ⟨dC, dI⟩ := D
  refine Met.ofW (cc := cX10_signIn) (maxL := 2) (ret := (some .int)) (by decide) rfl ?_
  intro p e s m args below meth c s₁ B hml hv
  obtain ⟨rfl, hP, hK, hD0, hN, hZ⟩ := hv
  have hx := B.exec
  have hb := B.bytes
  have hr := B.returns
  have hU : ∀ w ∈ wsU, w.before _ s = true := fun w h => atoms_spec (ws := wU yX10_signIn cX10_signIn 2 (some .int)) B.pre w (List.mem_cons_of_mem _ h)
  have hown : s.vm.findClass RX10 = some m.cls := findClass_of_methodNamed B.named
  have hlocks := B.notSynchronized
  have hD := pl_in hD0
  have hS : va_S (fun q => q ∈ L) s.heap s.heap [] := va_S.rf
  have hl := lv_entry ([.int p0, .int p1]) (n := 2) (Nat.le_of_ble_eq_true rfl)
  rw [lg_entry_eq]
  generalize (lg_sl ([.int p0, .int p1]) ++ List.replicate (2 - (lg_sl ([.int p0, .int p1])).length) Slot.unset).toArray = ls at hl ⊢
  have hl : lv_has ls 2 [(0, .int p0), (1, .int p1)] := hl
  have bp0 : ((-2147483648) ≤ p0.toInt ∧ p0.toInt ≤ 2147483647) := ⟨i32_lo _, i32_hi _⟩
  refine lv_iload_n hx hb dX10_signIn_0 rfl (lv_at hl 0 rfl) ?_
  refine va_gets hx hb hZ.2.2.1 hS hown (hU _ wd_982) (fun _ h9 => h9) dX10_signIn_1 ?_
  refine lv_iload_n hx hb dX10_signIn_4 rfl (lv_at hl 1 rfl) ?_
  refine va_ti (v := zWt (Int32.toNatClampNeg p1)) hx hb hZ.2.2.2.1 hS (vp_in_iff.mpr (by constructor <;> omega)) rfl dX10_signIn_5 ?_
  rw [zWt]
  refine lv_topi (fun x_1 ex_1 => ?_)
  have bx_1 : (1 ≤ x_1.toInt ∧ x_1.toInt ≤ 43046721) := by rw [ex_1]; exact zw_b (vp_in_iff.mpr (by constructor <;> omega))
  have htx_1 := zw_t ex_1 (vp_in_iff.mpr (by constructor <;> omega))
  refine lv_idiv hx hb dX10_signIn_6 (by rw [← Int32.toInt_inj, ti_0]; omega) ?_
  refine lv_topi (fun x_2 ex_2 => ?_)
  have bx_2 : ((-2147483648) ≤ x_2.toInt ∧ x_2.toInt ≤ 2147483647) := ⟨i32_lo _, i32_hi _⟩
  refine lv_bipush (v := 9) hx hb dX10_signIn_7 (by decide) ?_
  refine lv_irem hx hb dX10_signIn_9 (by decide) ?_
  refine lv_topi (fun x_3 ex_3 => ?_)
  have bx_3 : ((-2147483648) ≤ x_3.toInt ∧ x_3.toInt ≤ 2147483647) := ⟨i32_lo _, i32_hi _⟩
  exact W.iret (v := x_3) hx hb hr (fun t ht hW => ⟨⟨x_3, f, rfl, ⟨rfl, (by constructor <;> omega)⟩, by rw [ht]; exact hP, va_K.moved hW.alike hK, pl_in hD⟩, hS.F ht⟩) hS.2.2 dX10_signIn_10
set_option maxHeartbeats 8000000 in
set_option maxRecDepth 100000 in
theorem s_X10_letterOf_k10 (l : Launch) (D : va_G) (cI cL cZ cR cG cH : ClassId) (Z : zT) (kd : Nat → Nat) (L : List Nat) (f : Nat → va_E) (hG : GI (okc cI cL cZ cR cG cH L kd) kd L f) (o0 : Nat) (mo0 : o0 ∈ L) (ko0 : kd o0 = 10) (p1 : Int32) (p2 : Int32) : mPI l D cI cL cZ cR cG cH Z yX10_letterOf cX10_letterOf 3 (some .int) 1 21 [.ref o0, .int p1, .int p2] L f (fun (r : Int32) (f9 : Nat → va_E) => f = f9 ∧ ((-2147483648) ≤ r.toInt ∧ r.toInt ≤ 2147483647)) := by
  obtain ⟨dC, dI⟩ := D
  refine Met.ofW (cc := cX10_letterOf) (maxL := 3) (ret := (some .int)) (by decide) rfl ?_
  intro p e s m args below meth c s₁ B hml hv
  obtain ⟨rfl, hP, hK, hD0, hN, hZ⟩ := hv
  have hx := B.exec
  have hb := B.bytes
  have hr := B.returns
  have hU : ∀ w ∈ wsU, w.before _ s = true := fun w h => atoms_spec (ws := wU yX10_letterOf cX10_letterOf 3 (some .int)) B.pre w (List.mem_cons_of_mem _ h)
  have hown : s.vm.findClass RX10 = some m.cls := findClass_of_methodNamed B.named
  have hlocks := B.notSynchronized
  have hD := pl_in hD0
  have hS : va_S (fun q => q ∈ L) s.heap s.heap [] := va_S.rf
  have hl := lv_entry ([.ref o0, .int p1, .int p2]) (n := 3) (Nat.le_of_ble_eq_true rfl)
  rw [lg_entry_eq]
  generalize (lg_sl ([.ref o0, .int p1, .int p2]) ++ List.replicate (3 - (lg_sl ([.ref o0, .int p1, .int p2])).length) Slot.unset).toArray = ls at hl ⊢
  have hl : lv_has ls 3 [(0, .ref o0), (1, .int p1), (2, .int p2)] := hl
  have bp1 : ((-2147483648) ≤ p1.toInt ∧ p1.toInt ≤ 2147483647) := ⟨i32_lo _, i32_hi _⟩
  have bp2 : ((-2147483648) ≤ p2.toInt ∧ p2.toInt ≤ 2147483647) := ⟨i32_lo _, i32_hi _⟩
  refine lv_iload_n hx hb dX10_letterOf_0 rfl (lv_at hl 1 rfl) ?_
  refine lv_if_lt (tgt := 24) hx hb dX10_letterOf_1 (by decide) (fun c_1 => ?_) (fun c_1 => ?_)
  · skip
    rw [Int32.lt_iff_toInt_lt, ti_0] at c_1
    refine lv_iconst (v := (-1)) hx hb dX10_letterOf_24 (by decide) ?_
    exact W.iret (v := (-1)) hx hb hr (fun t ht hW => ⟨⟨(-1), f, rfl, ⟨rfl, (by decide)⟩, by rw [ht]; exact hP, va_K.moved hW.alike hK, pl_in hD⟩, hS.F ht⟩) hS.2.2 dX10_letterOf_25
  · skip
    rw [Int32.lt_iff_toInt_lt, ti_0] at c_1
    refine lv_iload_n hx hb dX10_letterOf_4 rfl (lv_at hl 1 rfl) ?_
    refine lv_aload_n hx hb dX10_letterOf_5 rfl (lv_at hl 0 rfl) ?_
    obtain ⟨a_3, v_4, v_5, hfo_2, ⟨ma_3, ka_3⟩, bv_4, bv_5⟩ := un_10 (hG _ mo0) ko0
    refine tk_getP (D := (dC, dI)) (ci := 10) (v := .int v_4) (C := RX10) (T := TX10) (N := 3) hx hb hU inlX10 hown hK hP mo0 hfo_2 rfl 1 (by decide) (hU _ wd_560) (fun _ h9 => h9) rfl dX10_letterOf_6 ?_
    refine lv_icmp_ge (tgt := 24) hx hb dX10_letterOf_9 (by decide) (fun c_6 => ?_) (fun c_6 => ?_)
    · skip
      rw [Int32.le_iff_toInt_le] at c_6
      refine lv_iconst (v := (-1)) hx hb dX10_letterOf_24 (by decide) ?_
      exact W.iret (v := (-1)) hx hb hr (fun t ht hW => ⟨⟨(-1), f, rfl, ⟨rfl, (by decide)⟩, by rw [ht]; exact hP, va_K.moved hW.alike hK, pl_in hD⟩, hS.F ht⟩) hS.2.2 dX10_letterOf_25
    · skip
      rw [Int32.le_iff_toInt_le] at c_6
      refine lv_iload_n hx hb dX10_letterOf_12 rfl (lv_at hl 2 rfl) ?_
      refine lv_if_lt (tgt := 24) hx hb dX10_letterOf_13 (by decide) (fun c_7 => ?_) (fun c_7 => ?_)
      · skip
        rw [Int32.lt_iff_toInt_lt, ti_0] at c_7
        refine lv_iconst (v := (-1)) hx hb dX10_letterOf_24 (by decide) ?_
        exact W.iret (v := (-1)) hx hb hr (fun t ht hW => ⟨⟨(-1), f, rfl, ⟨rfl, (by decide)⟩, by rw [ht]; exact hP, va_K.moved hW.alike hK, pl_in hD⟩, hS.F ht⟩) hS.2.2 dX10_letterOf_25
      · skip
        rw [Int32.lt_iff_toInt_lt, ti_0] at c_7
        refine lv_iload_n hx hb dX10_letterOf_16 rfl (lv_at hl 2 rfl) ?_
        refine va_gets hx hb hZ.2.2.1 hS hown (hU _ wd_982) (fun _ h9 => h9) dX10_letterOf_17 ?_
        refine va_tlen (v := 9) hx hb hZ.2.2.2.1 hS rfl dX10_letterOf_20 ?_
        refine lv_icmp_lt (tgt := 26) hx hb dX10_letterOf_21 (by decide) (fun c_8 => ?_) (fun c_8 => ?_)
        · skip
          rw [Int32.lt_iff_toInt_lt, ti_9] at c_8
          refine lv_aload_n hx hb dX10_letterOf_26 rfl (lv_at hl 0 rfl) ?_
          refine tk_getP (D := (dC, dI)) (ci := 10) (v := .ref a_3) (C := RX10) (T := TX10) (N := 3) hx hb hU inlX10 hown hK hP mo0 hfo_2 rfl 0 (by decide) (hU _ wd_116) (fun _ h9 => h9) rfl dX10_letterOf_27 ?_
          refine lv_iload_n hx hb dX10_letterOf_30 rfl (lv_at hl 1 rfl) ?_
          obtain ⟨g_10, hfo_9, hbg_10⟩ := un_524 (hG _ ma_3) ka_3
          refine tk_ildP hx hb hK hP 0 ma_3 hfo_9 rfl (vp_in_iff.mpr (by constructor <;> omega)) dX10_letterOf_31 ?_
          refine lv_topi (fun x_11 ex_11 => ?_)
          have bx_11 : ((-2147483648) ≤ x_11.toInt ∧ x_11.toInt ≤ 2147483647) := ⟨i32_lo _, i32_hi _⟩
          refine lv_iload_n hx hb dX10_letterOf_32 rfl (lv_at hl 2 rfl) ?_
          refine tk_SiP (As := [.int x_11, .int p2]) (rest := []) (n := 2) hx hb hml hown hU hN hZ (s_X10_signIn_a l (dC, dI) cI cL cZ cR cG cH Z kd L f hG x_11 p2 (by constructor <;> omega)) wd_987 wd_988 wd_51 wd_989 (by decide +kernel) ⟨Nat.le_of_ble_eq_true rfl, Nat.le_of_ble_eq_true rfl⟩ hK hP hD hS rfl hl.1 rfl (Nat.le_of_ble_eq_true rfl) dX10_letterOf_33 ⟨Nat.le_of_ble_eq_true rfl, Nat.le_of_ble_eq_true rfl⟩ (fun x_12 f_13 H locs hw hP hD hS => ?_)
          obtain ⟨rfl, bx_12⟩ := hw
          refine lv_iconst (v := 1) hx hb dX10_letterOf_36 (by decide) ?_
          refine lv_isub hx hb dX10_letterOf_37 ?_
          refine lv_topi (fun x_15 ex_15 => ?_)
          have bx_15 : ((-2147483648) ≤ x_15.toInt ∧ x_15.toInt ≤ 2147483647) := ⟨i32_lo _, i32_hi _⟩
          exact W.iret (v := x_15) hx hb hr (fun t ht hW => ⟨⟨x_15, f, rfl, ⟨rfl, (by constructor <;> omega)⟩, by rw [ht]; exact hP, va_K.moved hW.alike hK, pl_in hD⟩, hS.F ht⟩) hS.2.2 dX10_letterOf_38
        · skip
          rw [Int32.lt_iff_toInt_lt, ti_9] at c_8
          refine lv_iconst (v := (-1)) hx hb dX10_letterOf_24 (by decide) ?_
          exact W.iret (v := (-1)) hx hb hr (fun t ht hW => ⟨⟨(-1), f, rfl, ⟨rfl, (by decide)⟩, by rw [ht]; exact hP, va_K.moved hW.alike hK, pl_in hD⟩, hS.F ht⟩) hS.2.2 dX10_letterOf_25
set_option maxHeartbeats 8000000 in
set_option maxRecDepth 100000 in
theorem s_X10_lengthOf_k10 (l : Launch) (D : va_G) (cI cL cZ cR cG cH : ClassId) (Z : zT) (kd : Nat → Nat) (L : List Nat) (f : Nat → va_E) (hG : GI (okc cI cL cZ cR cG cH L kd) kd L f) (o0 : Nat) (mo0 : o0 ∈ L) (ko0 : kd o0 = 10) (p1 : Int32) : mPI l D cI cL cZ cR cG cH Z yX10_lengthOf cX10_lengthOf 3 (some .int) 2 43 [.ref o0, .int p1] L f (fun (r : Int32) (f9 : Nat → va_E) => f = f9 ∧ (0 ≤ r.toInt ∧ r.toInt ≤ 9)) := by
  obtain ⟨dC, dI⟩ := D
  refine Met.ofW (cc := cX10_lengthOf) (maxL := 3) (ret := (some .int)) (by decide) rfl ?_
  intro p e s m args below meth c s₁ B hml hv
  obtain ⟨rfl, hP, hK, hD0, hN, hZ⟩ := hv
  have hx := B.exec
  have hb := B.bytes
  have hr := B.returns
  have hU : ∀ w ∈ wsU, w.before _ s = true := fun w h => atoms_spec (ws := wU yX10_lengthOf cX10_lengthOf 3 (some .int)) B.pre w (List.mem_cons_of_mem _ h)
  have hown : s.vm.findClass RX10 = some m.cls := findClass_of_methodNamed B.named
  have hlocks := B.notSynchronized
  have hD := pl_in hD0
  have hS : va_S (fun q => q ∈ L) s.heap s.heap [] := va_S.rf
  have hl := lv_entry ([.ref o0, .int p1]) (n := 3) (Nat.le_of_ble_eq_true rfl)
  rw [lg_entry_eq]
  generalize (lg_sl ([.ref o0, .int p1]) ++ List.replicate (3 - (lg_sl ([.ref o0, .int p1])).length) Slot.unset).toArray = ls at hl ⊢
  have hl : lv_has ls 3 [(0, .ref o0), (1, .int p1)] := hl
  have bp1 : ((-2147483648) ≤ p1.toInt ∧ p1.toInt ≤ 2147483647) := ⟨i32_lo _, i32_hi _⟩
  refine lv_iconst (v := 0) hx hb dX10_lengthOf_0 (by decide) ?_
  refine lv_istore_n (lv' := [(2, .int 0), (0, .ref o0), (1, .int p1)]) hx hb dX10_lengthOf_1 rfl hl (by decide) rfl (fun ls hl => ?_)
  have hloop_13 : ∀ (n : Nat), ∀ (y_14 : Int32), (0 ≤ y_14.toInt ∧ y_14.toInt ≤ 9) → ∀ (H : Heap) (locs : List Loc), va_P (dC, dI) vwCl (va_pl L f) H → va_S (fun q => q ∈ L) s.heap H locs → 9 - y_14.toInt < (n : Int) → ∀ (ls : Array Slot), lv_has ls 3 [(2, .int y_14), (0, .ref o0), (1, .int p1)] → W p l e (headSpec (wU yX10_lengthOf cX10_lengthOf 3 (some .int)) { frames := 2, cells := 0, slots := 0, locals := 43 }).room s m [.ref o0, .int p1].toArray below meth c H locs 0 0 (MQ below (va_Qi (fun (r : Int32) (f9 : Nat → va_E) => f = f9 ∧ (0 ≤ r.toInt ∧ r.toInt ≤ 9)) (qP (dC, dI) cI cL cZ cR cG cH L) (fun q => q ∈ L)) [.ref o0, .int p1].toArray s 0 0 (fun q => q ∈ L)) (F0 m 2 ls []) := by
    intro n
    induction n with
    | zero => intro y_14 by_14 H locs hP hS hmuhloop_13 ls hl; exfalso; omega
    | succ n ih_hloop_13 =>
      intro y_14 by_14 H locs hP hS hmuhloop_13 ls hl
      refine lv_iload_n hx hb dX10_lengthOf_2 rfl (lv_at hl 0 rfl) ?_
      refine va_gets hx hb hZ.2.2.1 hS hown (hU _ wd_982) (fun _ h9 => h9) dX10_lengthOf_3 ?_
      refine va_tlen (v := 9) hx hb hZ.2.2.2.1 hS rfl dX10_lengthOf_6 ?_
      refine lv_icmp_ge (tgt := 28) hx hb dX10_lengthOf_7 (by decide) (fun c_16 => ?_) (fun c_16 => ?_)
      · skip
        rw [Int32.le_iff_toInt_le, ti_9] at c_16
        refine va_gets hx hb hZ.2.2.1 hS hown (hU _ wd_982) (fun _ h9 => h9) dX10_lengthOf_28 ?_
        refine va_tlen (v := 9) hx hb hZ.2.2.2.1 hS rfl dX10_lengthOf_31 ?_
        exact W.iret (v := 9) hx hb hr (fun t ht hW => ⟨⟨9, f, rfl, ⟨rfl, (by decide)⟩, by rw [ht]; exact hP, va_K.moved hW.alike hK, pl_in hD⟩, hS.F ht⟩) hS.2.2 dX10_lengthOf_32
      · skip
        rw [Int32.le_iff_toInt_le, ti_9] at c_16
        refine lv_aload_n hx hb dX10_lengthOf_10 rfl (lv_at hl 1 rfl) ?_
        refine lv_iload_n hx hb dX10_lengthOf_11 rfl (lv_at hl 2 rfl) ?_
        refine lv_iload_n hx hb dX10_lengthOf_12 rfl (lv_at hl 0 rfl) ?_
        obtain ⟨a_18, v_19, v_20, hfo_17, ⟨ma_18, ka_18⟩, bv_19, bv_20⟩ := un_10 (hG _ mo0) ko0
        refine tk_ViP (As := [.int p1, .int y_14]) (rest := []) (n := 2) hx hb hml hown hU hN hZ (s_X10_letterOf_k10 l (dC, dI) cI cL cZ cR cG cH Z kd L f hG o0 mo0 ko0 p1 y_14) wd_983 wd_984 wd_985 wd_51 wd_986 (by decide +kernel) ⟨Nat.le_of_ble_eq_true rfl, Nat.le_of_ble_eq_true rfl⟩ hK hP hD hS mo0 hfo_17 10 rfl rfl rfl hl.1 rfl (Nat.le_of_ble_eq_true rfl) dX10_lengthOf_13 ⟨Nat.le_of_ble_eq_true rfl, Nat.le_of_ble_eq_true rfl⟩ (fun x_21 f_22 H locs hw hP hD hS => ?_)
        obtain ⟨rfl, bx_21⟩ := hw
        refine lv_iconst (v := (-1)) hx hb dX10_lengthOf_16 (by decide) ?_
        refine lv_icmp_ne (tgt := 22) hx hb dX10_lengthOf_17 (by decide) (fun c_24 => ?_) (fun c_24 => ?_)
        · skip
          rw [← Int32.toInt_inj, ti_m1] at c_24
          obtain ⟨x_25, ex_25⟩ : ∃ y : Int32, y_14 + 1 = y := ⟨_, rfl⟩
          have hx_25 : x_25.toInt = y_14.toInt + 1 := by rw [← ex_25, ad_I (by rw [ti_1]; omega) (by rw [ti_1]; omega), ti_1]
          have bx_25 : (1 ≤ x_25.toInt ∧ x_25.toInt ≤ 9) := by constructor <;> omega
          refine lv_iinc (v := x_25) (lv' := [(2, .int x_25), (0, .ref o0), (1, .int p1)]) hx hb dX10_lengthOf_22 hl (k := 0) rfl ex_25 (by decide) rfl (fun ls hl => ?_)
          refine lv_goto (tgt := 2) hx hb dX10_lengthOf_25 (by decide) ?_
          exact ih_hloop_13 x_25 (by constructor <;> omega) _ _ hP hS (by omega) ls (lv_sub hl [0, 1, 2] rfl)
        · skip
          rw [← Int32.toInt_inj, ti_m1] at c_24
          refine lv_iload_n hx hb dX10_lengthOf_20 rfl (lv_at hl 0 rfl) ?_
          exact W.iret (v := y_14) hx hb hr (fun t ht hW => ⟨⟨y_14, f, rfl, ⟨rfl, (by constructor <;> omega)⟩, by rw [ht]; exact hP, va_K.moved hW.alike hK, pl_in hD⟩, hS.F ht⟩) hS.2.2 dX10_lengthOf_21
  exact hloop_13 10 0 (by decide) _ _ hP hS (by (try rw [ti_0]) <;> omega) ls hl
set_option maxHeartbeats 8000000 in
set_option maxRecDepth 100000 in
theorem s_X3_complete_k3 (l : Launch) (D : va_G) (cI cL cZ cR cG cH : ClassId) (Z : zT) (kd : Nat → Nat) (L : List Nat) (f : Nat → va_E) (hG : GI (okc cI cL cZ cR cG cH L kd) kd L f) (o0 : Nat) (mo0 : o0 ∈ L) (ko0 : kd o0 = 3) (p1 : Int32) (bp1 : (0 ≤ p1.toInt ∧ p1.toInt ≤ 9)) (p2 : Int32) (bp2 : (0 ≤ p2.toInt ∧ p2.toInt ≤ 387420488)) (hxtr0 : ∀ d9, fldR (f o0) 3 = some d9 → drel kd 1 521 522 f d9) : mPI l D cI cL cZ cR cG cH Z yX3_complete cX3_complete 4 (some .boolean) 2 64 [.ref o0, .int p1, .int p2] L f (fun (r : Int32) (f9 : Nat → va_E) => GI (okc cI cL cZ cR cG cH L kd) kd L f9 ∧ (0 ≤ r.toInt ∧ r.toInt ≤ 1) ∧ (∀ b, kd b ≠ 3 → kd b ≠ 10 → kd b ≠ 524 → kd b ≠ 526 → kd b ≠ 527 → f9 b = f b) ∧ (∀ b, kd b = 3 → fldR (f9 b) 0 = fldR (f b) 0) ∧ (∀ b, kd b = 3 → fldR (f9 b) 3 = fldR (f b) 3) ∧ (∀ d9, fldR (f9 o0) 3 = some d9 → drel kd 1 521 522 f9 d9)) := by
  obtain ⟨dC, dI⟩ := D
  refine Met.ofW (cc := cX3_complete) (maxL := 4) (ret := (some .boolean)) (by decide) rfl ?_
  intro p e s m args below meth c s₁ B hml hv
  obtain ⟨rfl, hP, hK, hD0, hN, hZ⟩ := hv
  have hx := B.exec
  have hb := B.bytes
  have hr := B.returns
  have hU : ∀ w ∈ wsU, w.before _ s = true := fun w h => atoms_spec (ws := wU yX3_complete cX3_complete 4 (some .boolean)) B.pre w (List.mem_cons_of_mem _ h)
  have hown : s.vm.findClass RX3 = some m.cls := findClass_of_methodNamed B.named
  have hlocks := B.notSynchronized
  have hD := pl_in hD0
  have hS : va_S (fun q => q ∈ L) s.heap s.heap [] := va_S.rf
  have hl := lv_entry ([.ref o0, .int p1, .int p2]) (n := 4) (Nat.le_of_ble_eq_true rfl)
  rw [lg_entry_eq]
  generalize (lg_sl ([.ref o0, .int p1, .int p2]) ++ List.replicate (4 - (lg_sl ([.ref o0, .int p1, .int p2])).length) Slot.unset).toArray = ls at hl ⊢
  have hl : lv_has ls 4 [(0, .ref o0), (1, .int p1), (2, .int p2)] := hl
  have hfr0 : ∀ b, kd b ≠ 3 → kd b ≠ 10 → kd b ≠ 524 → kd b ≠ 526 → kd b ≠ 527 → f b = f b := fun _ _ _ _ _ _ => rfl
  have hrr3_0 : ∀ b, kd b = 3 → fldR (f b) 0 = fldR (f b) 0 := fun _ _ => rfl
  have hrr3_3 : ∀ b, kd b = 3 → fldR (f b) 3 = fldR (f b) 3 := fun _ _ => rfl
  obtain ⟨a_2, a_3, a_4, a_5, a_6, v_7, v_8, v_9, v_10, v_11, v_12, v_13, a_14, a_15, a_16, v_17, a_18, a_19, hfo_1, ⟨ma_2, ka_2⟩, ⟨ma_3, ka_3⟩, ⟨ma_4, ka_4⟩, ⟨ma_5, ka_5⟩, ⟨ma_6, ka_6⟩, bv_7, bv_8, bv_9, ⟨ma_14, ka_14⟩, ⟨ma_15, ka_15⟩, ⟨ma_16, ka_16⟩, bv_17, ⟨ma_18, ka_18⟩, ⟨ma_19, ka_19⟩⟩ := un_3 (hG _ mo0) ko0
  have bv_10 : ((-2147483648) ≤ v_10.toInt ∧ v_10.toInt ≤ 2147483647) := ⟨i32_lo _, i32_hi _⟩
  have bv_11 : ((-2147483648) ≤ v_11.toInt ∧ v_11.toInt ≤ 2147483647) := ⟨i32_lo _, i32_hi _⟩
  have bv_12 : ((-2147483648) ≤ v_12.toInt ∧ v_12.toInt ≤ 2147483647) := ⟨i32_lo _, i32_hi _⟩
  have bv_13 : ((-2147483648) ≤ v_13.toInt ∧ v_13.toInt ≤ 2147483647) := ⟨i32_lo _, i32_hi _⟩
  have hT0 := hxtr0 a_5 (by rw [hfo_1]; rfl)
  refine lv_aload_n hx hb dX3_complete_0 rfl (lv_at hl 0 rfl) ?_
  refine tk_getP (D := (dC, dI)) (ci := 3) (v := .ref a_4) (C := RX3) (T := TX3) (N := 18) hx hb hU inlX3 hown hK hP mo0 hfo_1 rfl 2 (by decide) (hU _ wd_56) (fun _ h9 => h9) rfl dX3_complete_1 ?_
  refine lv_aload_n hx hb dX3_complete_4 rfl (lv_at hl 0 rfl) ?_
  refine tk_getP (D := (dC, dI)) (ci := 3) (v := .int v_10) (C := RX3) (T := TX3) (N := 18) hx hb hU inlX3 hown hK hP mo0 hfo_1 rfl 8 (by decide) (hU _ wd_734) (fun _ h9 => h9) rfl dX3_complete_5 ?_
  refine lv_iload_n hx hb dX3_complete_8 rfl (lv_at hl 1 rfl) ?_
  obtain ⟨a_21, a_22, a_23, a_24, a_25, hfo_20, ⟨ma_21, ka_21⟩, ⟨ma_22, ka_22⟩, ⟨ma_23, ka_23⟩, ⟨ma_24, ka_24⟩, ⟨ma_25, ka_25⟩⟩ := un_8 (hG _ ma_4) ka_4
  refine tk_ViP (As := [.int v_10, .int p1]) (rest := []) (n := 2) hx hb hml hown hU hN hZ (s_X8_finish_k8 l (dC, dI) cI cL cZ cR cG cH Z kd L f hG a_4 ma_4 ka_4 v_10 p1 (by constructor <;> omega)) wd_797 wd_798 wd_799 wd_55 wd_800 (by decide +kernel) ⟨Nat.le_of_ble_eq_true rfl, Nat.le_of_ble_eq_true rfl⟩ hK hP hD hS ma_4 hfo_20 8 rfl rfl rfl hl.1 rfl (Nat.le_of_ble_eq_true rfl) dX3_complete_9 ⟨Nat.le_of_ble_eq_true rfl, Nat.le_of_ble_eq_true rfl⟩ (fun x_26 f_27 H locs hw hP hD hS => ?_)
  obtain ⟨rfl, bx_26⟩ := hw
  refine lv_istore_n (lv' := [(3, .int x_26), (0, .ref o0), (1, .int p1), (2, .int p2)]) hx hb dX3_complete_12 rfl hl (by decide) rfl (fun ls hl => ?_)
  refine lv_aload_n hx hb dX3_complete_13 rfl (lv_at hl 1 rfl) ?_
  refine lv_iload_n hx hb dX3_complete_14 rfl (lv_at hl 0 rfl) ?_
  refine tk_ViP (As := [.int x_26]) (rest := []) (n := 1) hx hb hml hown hU hN hZ (s_X3_isLeft_k3 l (dC, dI) cI cL cZ cR cG cH Z kd L f hG o0 mo0 ko0 x_26) wd_806 wd_807 wd_808 wd_16 wd_809 (by decide +kernel) ⟨Nat.le_of_ble_eq_true rfl, Nat.le_of_ble_eq_true rfl⟩ hK hP hD hS mo0 hfo_1 3 rfl rfl rfl hl.1 rfl (Nat.le_of_ble_eq_true rfl) dX3_complete_15 ⟨Nat.le_of_ble_eq_true rfl, Nat.le_of_ble_eq_true rfl⟩ (fun x_29 f_30 H locs hw hP hD hS => ?_)
  obtain ⟨rfl, bx_29⟩ := hw
  refine lv_if_ne (tgt := 29) hx hb dX3_complete_18 (by decide) (fun c_32 => ?_) (fun c_32 => ?_)
  · skip
    rw [← Int32.toInt_inj, ti_0] at c_32
    refine lv_iconst (v := 0) hx hb dX3_complete_29 (by decide) ?_
    exact W.zret (v := 0) (ty := .boolean) hx hb hr rfl (fun t ht hW => ⟨⟨0, f, rfl, ⟨hG, (by decide), hfr0, hrr3_0, hrr3_3, (fun d9 h9 => by rw [hfo_1] at h9; obtain rfl := Option.some.inj h9; exact hT0)⟩, by rw [ht]; exact hP, va_K.moved hW.alike hK, pl_in hD⟩, hS.F ht⟩) hS.2.2 dX3_complete_30
  · skip
    rw [← Int32.toInt_inj, ti_0] at c_32
    refine lv_aload_n hx hb dX3_complete_21 rfl (lv_at hl 1 rfl) ?_
    refine lv_iload_n hx hb dX3_complete_22 rfl (lv_at hl 2 rfl) ?_
    refine tk_ViP (As := [.int p1]) (rest := []) (n := 1) hx hb hml hown hU hN hZ (s_X3_hasWanted_k3 l (dC, dI) cI cL cZ cR cG cH Z kd L f hG o0 mo0 ko0 p1 (by constructor <;> omega)) wd_810 wd_811 wd_812 wd_16 wd_813 (by decide +kernel) ⟨Nat.le_of_ble_eq_true rfl, Nat.le_of_ble_eq_true rfl⟩ hK hP hD hS mo0 hfo_1 3 rfl rfl rfl hl.1 rfl (Nat.le_of_ble_eq_true rfl) dX3_complete_23 ⟨Nat.le_of_ble_eq_true rfl, Nat.le_of_ble_eq_true rfl⟩ (fun x_33 f_34 H locs hw hP hD hS => ?_)
    obtain ⟨rfl, bx_33⟩ := hw
    refine lv_if_ne (tgt := 31) hx hb dX3_complete_26 (by decide) (fun c_36 => ?_) (fun c_36 => ?_)
    · skip
      rw [← Int32.toInt_inj, ti_0] at c_36
      refine lv_aload_n hx hb dX3_complete_31 rfl (lv_at hl 1 rfl) ?_
      refine tk_getP (D := (dC, dI)) (ci := 3) (v := .int v_9) (C := RX3) (T := TX3) (N := 18) hx hb hU inlX3 hown hK hP mo0 hfo_1 rfl 7 (by decide) (hU _ wd_733) (fun _ h9 => h9) rfl dX3_complete_32 ?_
      have hcut_40 : ∀ (f_38 : Nat → va_E), GI (okc cI cL cZ cR cG cH L kd) kd L f_38 → ∀ (H : Heap) (locs : List Loc), va_P (dC, dI) vwCl (va_pl L f_38) H → va_S (fun q => q ∈ L) s.heap H locs → va_D (fun q => q ∈ L) (va_pl L f_38) → (∀ b, kd b ≠ 3 → kd b ≠ 10 → kd b ≠ 524 → kd b ≠ 526 → kd b ≠ 527 → f_38 b = f b) → (∀ b, kd b = 3 → fldR (f_38 b) 0 = fldR (f b) 0) → (∀ b, kd b = 3 → fldR (f_38 b) 3 = fldR (f b) 3) → (f_38 a_4 = .inr (8, [.ref a_21, .ref a_22, .ref a_23, .ref a_24, .ref a_25])) → drel kd 1 521 522 f_38 a_5 → ∀ (ls : Array Slot), lv_has ls 4 [(3, .int x_26), (0, .ref o0), (1, .int p1), (2, .int p2)] → W p l e (headSpec (wU yX3_complete cX3_complete 4 (some .boolean)) { frames := 2, cells := 0, slots := 0, locals := 64 }).room s m [.ref o0, .int p1, .int p2].toArray below meth c H locs 0 0 (MQ below (va_Qi (fun (r : Int32) (f9 : Nat → va_E) => GI (okc cI cL cZ cR cG cH L kd) kd L f9 ∧ (0 ≤ r.toInt ∧ r.toInt ≤ 1) ∧ (∀ b, kd b ≠ 3 → kd b ≠ 10 → kd b ≠ 524 → kd b ≠ 526 → kd b ≠ 527 → f9 b = f b) ∧ (∀ b, kd b = 3 → fldR (f9 b) 0 = fldR (f b) 0) ∧ (∀ b, kd b = 3 → fldR (f9 b) 3 = fldR (f b) 3) ∧ (∀ d9, fldR (f9 o0) 3 = some d9 → drel kd 1 521 522 f9 d9)) (qP (dC, dI) cI cL cZ cR cG cH L) (fun q => q ∈ L)) [.ref o0, .int p1, .int p2].toArray s 0 0 (fun q => q ∈ L)) (F0 m 89 ls []) := by
        intro f_38 hG H locs hP hS hD hfr0 hrr3_0 hrr3_3 hfo_39 hT0 ls hl
        refine lv_iconst (v := 1) hx hb dX3_complete_89 (by decide) ?_
        obtain ⟨a_42, a_43, a_44, a_45, a_46, v_47, v_48, v_49, v_50, v_51, v_52, v_53, a_54, a_55, a_56, v_57, a_58, a_59, hfo_41, ⟨ma_42, ka_42⟩, ⟨ma_43, ka_43⟩, ⟨ma_44, ka_44⟩, ⟨ma_45, ka_45⟩, ⟨ma_46, ka_46⟩, bv_47, bv_48, bv_49, ⟨ma_54, ka_54⟩, ⟨ma_55, ka_55⟩, ⟨ma_56, ka_56⟩, bv_57, ⟨ma_58, ka_58⟩, ⟨ma_59, ka_59⟩⟩ := un_3 (hG _ mo0) ko0
        have bv_50 : ((-2147483648) ≤ v_50.toInt ∧ v_50.toInt ≤ 2147483647) := ⟨i32_lo _, i32_hi _⟩
        have bv_51 : ((-2147483648) ≤ v_51.toInt ∧ v_51.toInt ≤ 2147483647) := ⟨i32_lo _, i32_hi _⟩
        have bv_52 : ((-2147483648) ≤ v_52.toInt ∧ v_52.toInt ≤ 2147483647) := ⟨i32_lo _, i32_hi _⟩
        have bv_53 : ((-2147483648) ≤ v_53.toInt ∧ v_53.toInt ≤ 2147483647) := ⟨i32_lo _, i32_hi _⟩
        obtain rfl : a_2 = a_42 := by have hk9 := hrr3_0 o0 ko0; rw [hfo_41, hfo_1] at hk9; exact (Option.some.inj hk9).symm
        obtain rfl : a_5 = a_45 := by have hk9 := hrr3_3 o0 ko0; rw [hfo_41, hfo_1] at hk9; exact (Option.some.inj hk9).symm
        exact W.zret (v := 1) (ty := .boolean) hx hb hr rfl (fun t ht hW => ⟨⟨1, f_38, rfl, ⟨hG, (by decide), hfr0, hrr3_0, hrr3_3, (fun d9 h9 => by rw [hfo_41] at h9; obtain rfl := Option.some.inj h9; exact hT0)⟩, by rw [ht]; exact hP, va_K.moved hW.alike hK, pl_in hD⟩, hS.F ht⟩) hS.2.2 dX3_complete_90
      refine lv_if_eq (tgt := 49) hx hb dX3_complete_35 (by decide) (fun c_60 => ?_) (fun c_60 => ?_)
      · skip
        rw [← Int32.toInt_inj, ti_0] at c_60
        refine lv_aload_n hx hb dX3_complete_49 rfl (lv_at hl 1 rfl) ?_
        refine tk_getP (D := (dC, dI)) (ci := 3) (v := .int v_17) (C := RX3) (T := TX3) (N := 18) hx hb hU inlX3 hown hK hP mo0 hfo_1 rfl 15 (by decide) (hU _ wd_796) (fun _ h9 => h9) rfl dX3_complete_50 ?_
        refine lv_sipush (v := 1024) hx hb dX3_complete_53 (by decide) ?_
        refine lv_icmp_ge (tgt := 89) hx hb dX3_complete_56 (by decide) (fun c_61 => ?_) (fun c_61 => ?_)
        · skip
          rw [Int32.le_iff_toInt_le, ti_1024] at c_61
          exact hcut_40 f hG _ _ hP hS hD hfr0 hrr3_0 hrr3_3 hfo_20 hT0 ls (lv_sub hl [0, 1, 2, 3] rfl)
        · skip
          rw [Int32.le_iff_toInt_le, ti_1024] at c_61
          refine lv_aload_n hx hb dX3_complete_59 rfl (lv_at hl 1 rfl) ?_
          refine tk_getP (D := (dC, dI)) (ci := 3) (v := .ref a_15) (C := RX3) (T := TX3) (N := 18) hx hb hU inlX3 hown hK hP mo0 hfo_1 rfl 13 (by decide) (hU _ wd_64) (fun _ h9 => h9) rfl dX3_complete_60 ?_
          refine lv_aload_n hx hb dX3_complete_63 rfl (lv_at hl 1 rfl) ?_
          refine tk_getP (D := (dC, dI)) (ci := 3) (v := .int v_17) (C := RX3) (T := TX3) (N := 18) hx hb hU inlX3 hown hK hP mo0 hfo_1 rfl 15 (by decide) (hU _ wd_796) (fun _ h9 => h9) rfl dX3_complete_64 ?_
          refine lv_iload_n hx hb dX3_complete_67 rfl (lv_at hl 3 rfl) ?_
          obtain ⟨g_63, hfo_62, hbg_63⟩ := un_526 (hG _ ma_15) ka_15
          refine tk_istP hx hb hK hP hD hS 0 ma_15 hfo_62 rfl (vp_in_iff.mpr (by constructor <;> omega)) dX3_complete_68 (fun H locs hP hD hS => ?_)
          obtain ⟨f_65, ef_65⟩ : ∃ y : Nat → va_E, y = va_up f a_15 (.inl (cI, 1024, .inl (upd g_63 (Int32.toNatClampNeg v_17) p2))) := ⟨_, rfl⟩
          have hP : va_P (dC, dI) vwCl (va_pl L f_65) H := by rw [ef_65]; exact hP
          have hD : va_D (fun q => q ∈ L) (va_pl L f_65) := by rw [ef_65]; exact hD
          have hG : GI (okc cI cL cZ cR cG cH L kd) kd L f_65 := by rw [ef_65]; exact hG.set a_15 (mk_526 ka_15 ⟨_, rfl, okI_up hbg_63 (by constructor <;> omega) _⟩)
          have hfo_66 : f_65 o0 = .inr (3, [.ref a_2, .ref a_3, .ref a_4, .ref a_5, .ref a_6, .int v_7, .int v_8, .int v_9, .int v_10, .int v_11, .int v_12, .int v_13, .ref a_14, .ref a_15, .ref a_16, .int v_17, .ref a_18, .ref a_19]) := by rw [ef_65, up_ne (kd_ne ka_15 ko0 (by decide))]; exact hfo_1
          have hfo_67 : f_65 a_4 = .inr (8, [.ref a_21, .ref a_22, .ref a_23, .ref a_24, .ref a_25]) := by rw [ef_65, up_ne (kd_ne ka_15 ka_4 (by decide))]; exact hfo_20
          have hfr0 : ∀ b, kd b ≠ 3 → kd b ≠ 10 → kd b ≠ 524 → kd b ≠ 526 → kd b ≠ 527 → f_65 b = f b := fun b q3 q10 q524 q526 q527 => (congrFun ef_65 b).trans ((up_ne (fun e9 => q526 (by rw [e9]; exact ka_15))).trans (hfr0 b q3 q10 q524 q526 q527))
          have hrr3_0 : ∀ b, kd b = 3 → fldR (f_65 b) 0 = fldR (f b) 0 := fun b kb => (congrArg (fun x => fldR x 0) ((congrFun ef_65 b).trans (up_ne (kd_ne ka_15 kb (by decide))))).trans (hrr3_0 b kb)
          have hrr3_3 : ∀ b, kd b = 3 → fldR (f_65 b) 3 = fldR (f b) 3 := fun b kb => (congrArg (fun x => fldR x 3) ((congrFun ef_65 b).trans (up_ne (kd_ne ka_15 kb (by decide))))).trans (hrr3_3 b kb)
          have hT0 : drel kd 1 521 522 f_65 a_5 := by rw [ef_65]; exact hT0.up ka_15 (by decide) (by decide) (by decide)
          have hfo_68 : f_65 a_15 = .inl (cI, 1024, .inl (upd g_63 (Int32.toNatClampNeg v_17) p2)) := by rw [ef_65]; exact up_self
          refine lv_aload_n hx hb dX3_complete_69 rfl (lv_at hl 1 rfl) ?_
          refine tk_getP (D := (dC, dI)) (ci := 3) (v := .ref a_16) (C := RX3) (T := TX3) (N := 18) hx hb hU inlX3 hown hK hP mo0 hfo_66 rfl 14 (by decide) (hU _ wd_65) (fun _ h9 => h9) rfl dX3_complete_70 ?_
          refine lv_aload_n hx hb dX3_complete_73 rfl (lv_at hl 1 rfl) ?_
          refine tk_getP (D := (dC, dI)) (ci := 3) (v := .int v_17) (C := RX3) (T := TX3) (N := 18) hx hb hU inlX3 hown hK hP mo0 hfo_66 rfl 15 (by decide) (hU _ wd_796) (fun _ h9 => h9) rfl dX3_complete_74 ?_
          refine lv_iload_n hx hb dX3_complete_77 rfl (lv_at hl 0 rfl) ?_
          obtain ⟨g_70, hfo_69, hbg_70⟩ := un_527 (hG _ ma_16) ka_16
          refine tk_istP hx hb hK hP hD hS 0 ma_16 hfo_69 rfl (vp_in_iff.mpr (by constructor <;> omega)) dX3_complete_78 (fun H locs hP hD hS => ?_)
          obtain ⟨f_72, ef_72⟩ : ∃ y : Nat → va_E, y = va_up f_65 a_16 (.inl (cI, 1024, .inl (upd g_70 (Int32.toNatClampNeg v_17) x_26))) := ⟨_, rfl⟩
          have hP : va_P (dC, dI) vwCl (va_pl L f_72) H := by rw [ef_72]; exact hP
          have hD : va_D (fun q => q ∈ L) (va_pl L f_72) := by rw [ef_72]; exact hD
          have hG : GI (okc cI cL cZ cR cG cH L kd) kd L f_72 := by rw [ef_72]; exact hG.set a_16 (mk_527 ka_16 ⟨_, rfl, okI_up hbg_70 (by constructor <;> omega) _⟩)
          have hfo_73 : f_72 o0 = .inr (3, [.ref a_2, .ref a_3, .ref a_4, .ref a_5, .ref a_6, .int v_7, .int v_8, .int v_9, .int v_10, .int v_11, .int v_12, .int v_13, .ref a_14, .ref a_15, .ref a_16, .int v_17, .ref a_18, .ref a_19]) := by rw [ef_72, up_ne (kd_ne ka_16 ko0 (by decide))]; exact hfo_66
          have hfo_74 : f_72 a_4 = .inr (8, [.ref a_21, .ref a_22, .ref a_23, .ref a_24, .ref a_25]) := by rw [ef_72, up_ne (kd_ne ka_16 ka_4 (by decide))]; exact hfo_67
          have hfr0 : ∀ b, kd b ≠ 3 → kd b ≠ 10 → kd b ≠ 524 → kd b ≠ 526 → kd b ≠ 527 → f_72 b = f b := fun b q3 q10 q524 q526 q527 => (congrFun ef_72 b).trans ((up_ne (fun e9 => q527 (by rw [e9]; exact ka_16))).trans (hfr0 b q3 q10 q524 q526 q527))
          have hrr3_0 : ∀ b, kd b = 3 → fldR (f_72 b) 0 = fldR (f b) 0 := fun b kb => (congrArg (fun x => fldR x 0) ((congrFun ef_72 b).trans (up_ne (kd_ne ka_16 kb (by decide))))).trans (hrr3_0 b kb)
          have hrr3_3 : ∀ b, kd b = 3 → fldR (f_72 b) 3 = fldR (f b) 3 := fun b kb => (congrArg (fun x => fldR x 3) ((congrFun ef_72 b).trans (up_ne (kd_ne ka_16 kb (by decide))))).trans (hrr3_3 b kb)
          have hT0 : drel kd 1 521 522 f_72 a_5 := by rw [ef_72]; exact hT0.up ka_16 (by decide) (by decide) (by decide)
          have hfo_75 : f_72 a_16 = .inl (cI, 1024, .inl (upd g_70 (Int32.toNatClampNeg v_17) x_26)) := by rw [ef_72]; exact up_self
          refine lv_aload_n hx hb dX3_complete_79 rfl (lv_at hl 1 rfl) ?_
          refine lv_dup hx hb dX3_complete_80 rfl ?_
          refine tk_getP (D := (dC, dI)) (ci := 3) (v := .int v_17) (C := RX3) (T := TX3) (N := 18) hx hb hU inlX3 hown hK hP mo0 hfo_73 rfl 15 (by decide) (hU _ wd_796) (fun _ h9 => h9) rfl dX3_complete_81 ?_
          refine lv_iconst (v := 1) hx hb dX3_complete_84 (by decide) ?_
          refine lv_iadd hx hb dX3_complete_85 ?_
          refine lv_topi (fun x_76 ex_76 => ?_)
          have hx_76 : x_76.toInt = v_17.toInt + 1 := by rw [ex_76, ad_I (by rw [ti_1]; omega) (by rw [ti_1]; omega), ti_1]
          have bx_76 : (1 ≤ x_76.toInt ∧ x_76.toInt ≤ 1024) := by constructor <;> omega
          refine tk_putP (D := (dC, dI)) (ci := 3) (v := .int x_76) (ty := .int) (C := RX3) (T := TX3) (N := 18) hx hb hU inlX3 tyX3 tyX3_ok nmX3 hown hK hP hD hS mo0 hfo_73 rfl 15 (by decide) (hU _ wd_796) (fun _ h9 => h9) rfl (by decide +kernel) rfl rfl (Nat.le_of_ble_eq_true rfl) dX3_complete_86 (fun H locs hP hD hS => ?_)
          obtain ⟨f_78, ef_78⟩ : ∃ y : Nat → va_E, y = va_up f_72 o0 (.inr (3, [.ref a_2, .ref a_3, .ref a_4, .ref a_5, .ref a_6, .int v_7, .int v_8, .int v_9, .int v_10, .int v_11, .int v_12, .int v_13, .ref a_14, .ref a_15, .ref a_16, .int x_76, .ref a_18, .ref a_19])) := ⟨_, rfl⟩
          have hP : va_P (dC, dI) vwCl (va_pl L f_78) H := by rw [ef_78]; exact hP
          have hD : va_D (fun q => q ∈ L) (va_pl L f_78) := by rw [ef_78]; exact hD
          have hG : GI (okc cI cL cZ cR cG cH L kd) kd L f_78 := by rw [ef_78]; exact hG.set o0 (mk_3 ko0 ⟨a_2, a_3, a_4, a_5, a_6, v_7, v_8, v_9, v_10, v_11, v_12, v_13, a_14, a_15, a_16, x_76, a_18, a_19, rfl, ⟨ma_2, ka_2⟩, ⟨ma_3, ka_3⟩, ⟨ma_4, ka_4⟩, ⟨ma_5, ka_5⟩, ⟨ma_6, ka_6⟩, (by constructor <;> omega), (by constructor <;> omega), (by constructor <;> omega), ⟨ma_14, ka_14⟩, ⟨ma_15, ka_15⟩, ⟨ma_16, ka_16⟩, (by constructor <;> omega), ⟨ma_18, ka_18⟩, ⟨ma_19, ka_19⟩⟩)
          have hfo_79 : f_78 a_4 = .inr (8, [.ref a_21, .ref a_22, .ref a_23, .ref a_24, .ref a_25]) := by rw [ef_78, up_ne (kd_ne ko0 ka_4 (by decide))]; exact hfo_74
          have hfr0 : ∀ b, kd b ≠ 3 → kd b ≠ 10 → kd b ≠ 524 → kd b ≠ 526 → kd b ≠ 527 → f_78 b = f b := fun b q3 q10 q524 q526 q527 => (congrFun ef_78 b).trans ((up_ne (fun e9 => q3 (by rw [e9]; exact ko0))).trans (hfr0 b q3 q10 q524 q526 q527))
          have hrr3_0 : ∀ b, kd b = 3 → fldR (f_78 b) 0 = fldR (f b) 0 := fun b kb => ((congrArg (fun x => fldR x 0) (congrFun ef_78 b)).trans (fr_up (by rw [hfo_73]; rfl) b)).trans (hrr3_0 b kb)
          have hrr3_3 : ∀ b, kd b = 3 → fldR (f_78 b) 3 = fldR (f b) 3 := fun b kb => ((congrArg (fun x => fldR x 3) (congrFun ef_78 b)).trans (fr_up (by rw [hfo_73]; rfl) b)).trans (hrr3_3 b kb)
          have hT0 : drel kd 1 521 522 f_78 a_5 := by rw [ef_78]; exact hT0.up ko0 (by decide) (by decide) (by decide)
          have hfo_80 : f_78 o0 = .inr (3, [.ref a_2, .ref a_3, .ref a_4, .ref a_5, .ref a_6, .int v_7, .int v_8, .int v_9, .int v_10, .int v_11, .int v_12, .int v_13, .ref a_14, .ref a_15, .ref a_16, .int x_76, .ref a_18, .ref a_19]) := by rw [ef_78]; exact up_self
          exact hcut_40 f_78 hG _ _ hP hS hD hfr0 hrr3_0 hrr3_3 hfo_79 hT0 ls (lv_sub hl [0, 1, 2, 3] rfl)
      · skip
        rw [← Int32.toInt_inj, ti_0] at c_60
        refine lv_aload_n hx hb dX3_complete_38 rfl (lv_at hl 1 rfl) ?_
        refine tk_getP (D := (dC, dI)) (ci := 3) (v := .ref a_3) (C := RX3) (T := TX3) (N := 18) hx hb hU inlX3 hown hK hP mo0 hfo_1 rfl 1 (by decide) (hU _ wd_52) (fun _ h9 => h9) rfl dX3_complete_39 ?_
        refine lv_iload_n hx hb dX3_complete_42 rfl (lv_at hl 3 rfl) ?_
        obtain ⟨a_82, v_83, v_84, hfo_81, ⟨ma_82, ka_82⟩, bv_83, bv_84⟩ := un_10 (hG _ ma_3) ka_3
        refine tk_VvP (As := [.int p2]) (rest := []) (n := 1) hx hb hml hown hU hN hZ (s_X10_add_k10 l (dC, dI) cI cL cZ cR cG cH Z kd L f hG a_3 ma_3 ka_3 p2) wd_814 wd_815 wd_816 wd_51 wd_817 (by decide +kernel) ⟨Nat.le_of_ble_eq_true rfl, Nat.le_of_ble_eq_true rfl⟩ hK hP hD hS ma_3 hfo_81 10 rfl rfl rfl hl.1 rfl (Nat.le_of_ble_eq_true rfl) dX3_complete_43 ⟨Nat.le_of_ble_eq_true rfl, Nat.le_of_ble_eq_true rfl⟩ (fun f_86 H locs hw hP hD hS => ?_)
        obtain ⟨hG, hkc_87⟩ := hw
        have hfo_89 : f_86 o0 = .inr (3, [.ref a_2, .ref a_3, .ref a_4, .ref a_5, .ref a_6, .int v_7, .int v_8, .int v_9, .int v_10, .int v_11, .int v_12, .int v_13, .ref a_14, .ref a_15, .ref a_16, .int v_17, .ref a_18, .ref a_19]) := by rw [hkc_87 o0 (by rw [ko0]; decide) (by rw [ko0]; decide)]; exact hfo_1
        have hfo_90 : f_86 a_4 = .inr (8, [.ref a_21, .ref a_22, .ref a_23, .ref a_24, .ref a_25]) := by rw [hkc_87 a_4 (by rw [ka_4]; decide) (by rw [ka_4]; decide)]; exact hfo_20
        have hfr0 : ∀ b, kd b ≠ 3 → kd b ≠ 10 → kd b ≠ 524 → kd b ≠ 526 → kd b ≠ 527 → f_86 b = f b := fun b q3 q10 q524 q526 q527 => (hkc_87 b q10 q524).trans (hfr0 b q3 q10 q524 q526 q527)
        have hrr3_0 : ∀ b, kd b = 3 → fldR (f_86 b) 0 = fldR (f b) 0 := fun b kb => (congrArg (fun x => fldR x 0) (hkc_87 b (by rw [kb]; decide) (by rw [kb]; decide))).trans (hrr3_0 b kb)
        have hrr3_3 : ∀ b, kd b = 3 → fldR (f_86 b) 3 = fldR (f b) 3 := fun b kb => (congrArg (fun x => fldR x 3) (hkc_87 b (by rw [kb]; decide) (by rw [kb]; decide))).trans (hrr3_3 b kb)
        have hT0 : drel kd 1 521 522 f_86 a_5 := hT0.keep (fun b q => congrArg (fun x => fldI x 5) (hkc_87 b (by rw [q]; decide) (by rw [q]; decide))) (fun b q => congrArg (fun x => fldR x 0) (hkc_87 b (by rw [q]; decide) (by rw [q]; decide))) (fun b q => congrArg (fun x => fldR x 1) (hkc_87 b (by rw [q]; decide) (by rw [q]; decide))) (fun b q => hkc_87 b (by rw [q]; decide) (by rw [q]; decide)) (fun b q => hkc_87 b (by rw [q]; decide) (by rw [q]; decide))
        refine lv_goto (tgt := 89) hx hb dX3_complete_46 (by decide) ?_
        exact hcut_40 f_86 hG _ _ hP hS hD hfr0 hrr3_0 hrr3_3 hfo_90 hT0 ls (lv_sub hl [0, 1, 2, 3] rfl)
    · skip
      rw [← Int32.toInt_inj, ti_0] at c_36
      refine lv_iconst (v := 0) hx hb dX3_complete_29 (by decide) ?_
      exact W.zret (v := 0) (ty := .boolean) hx hb hr rfl (fun t ht hW => ⟨⟨0, f, rfl, ⟨hG, (by decide), hfr0, hrr3_0, hrr3_3, (fun d9 h9 => by rw [hfo_1] at h9; obtain rfl := Option.some.inj h9; exact hT0)⟩, by rw [ht]; exact hP, va_K.moved hW.alike hK, pl_in hD⟩, hS.F ht⟩) hS.2.2 dX3_complete_30
