set_option maxHeartbeats 8000000 in
set_option maxRecDepth 100000 in
theorem s_X12_takesWord_k12_c1_c8 (l : Launch) (D : va_G) (cI cL cZ cR cG cH : ClassId) (Z : zT) (kd : Nat → Nat) (L : List Nat) (f : Nat → va_E) (hG : GI (okc cI cL cZ cR cG cH L kd) kd L f) (o0 : Nat) (mo0 : o0 ∈ L) (ko0 : kd o0 = 12) : mPI l D cI cL cZ cR cG cH Z yX12_takesWord cX12_takesWord 6 (some .boolean) 1 22 [.ref o0, .int 1, .int 8] L f (fun (r : Int32) (f9 : Nat → va_E) => GI (okc cI cL cZ cR cG cH L kd) kd L f9 ∧ (0 ≤ r.toInt ∧ r.toInt ≤ 1) ∧ (∀ b, kd b ≠ 12 → kd b ≠ 589 → f9 b = f b) ∧ (∀ b, kd b = 12 → ∀ j, fldR (f9 b) j = fldR (f b) j) ∧ (∀ b, kd b = 12 → ∀ j, j ≠ 5 → j ≠ 23 → fldI (f9 b) j = fldI (f b) j) ∧ (∀ (w5 z5 : Int32) (w23 z23 : Int32), fldI (f o0) 5 = some w5 → fldI (f o0) 23 = some w23 → fldI (f9 o0) 5 = some z5 → fldI (f9 o0) 23 = some z23 → z5.toInt = 0 ∧ (r.toInt = 0 ∨ z23.toInt ≤ 8))) := by
  obtain ⟨dC, dI⟩ := D
  refine Met.ofW (cc := cX12_takesWord) (maxL := 6) (ret := (some .boolean)) (by decide) rfl ?_
  intro p e s m args below meth c s₁ B hml hv
  obtain ⟨rfl, hP, hK, hD0, hN, hZ⟩ := hv
  have hx := B.exec
  have hb := B.bytes
  have hr := B.returns
  have hU : ∀ w ∈ wsU, w.before _ s = true := fun w h => atoms_spec (ws := wU yX12_takesWord cX12_takesWord 6 (some .boolean)) B.pre w (List.mem_cons_of_mem _ h)
  have hown : s.vm.findClass RX12 = some m.cls := findClass_of_methodNamed B.named
  have hlocks := B.notSynchronized
  have hD := pl_in hD0
  have hS : va_S (fun q => q ∈ L) s.heap s.heap [] := va_S.rf
  have hl := lv_entry ([.ref o0, .int 1, .int 8]) (n := 6) (Nat.le_of_ble_eq_true rfl)
  rw [lg_entry_eq]
  generalize (lg_sl ([.ref o0, .int 1, .int 8]) ++ List.replicate (6 - (lg_sl ([.ref o0, .int 1, .int 8])).length) Slot.unset).toArray = ls at hl ⊢
  have hl : lv_has ls 6 [(0, .ref o0), (1, .int 1), (2, .int 8)] := hl
  have hfr0 : ∀ b, kd b ≠ 12 → kd b ≠ 589 → f b = f b := fun _ _ _ => rfl
  have hrA12 : ∀ b, kd b = 12 → ∀ j, fldR (f b) j = fldR (f b) j := fun _ _ _ => rfl
  have hfA12 : ∀ b, kd b = 12 → ∀ j, j ≠ 5 → j ≠ 23 → fldI (f b) j = fldI (f b) j := fun _ _ _ _ _ => rfl
  obtain ⟨a_1, a_2, a_3, v_4, a_5, v_6, v_7, v_8, v_9, v_10, v_11, v_12, v_13, v_14, v_15, a_16, a_17, a_18, a_19, a_20, a_21, a_22, a_23, v_24, v_25, v_26, v_27, v_28, a_29, v_30, a_31, a_32, v_33, v_34, a_35, v_36, a_37, a_38, v_39, v_40, a_41, a_42, a_43, v_44, a_45, a_46, a_47, a_48, a_49, a_50, a_51, a_52, a_53, v_54, v_55, a_56, hfo_57, fa_58⟩ := un12 (hG _ mo0) ko0
  obtain ⟨ma_1, ka_1⟩ := fa12_0 fa_58
  obtain ⟨ma_5, ka_5⟩ := fa12_4 fa_58
  have bv_6 : (0 ≤ v_6.toInt ∧ v_6.toInt ≤ 600) := fa12_5 fa_58
  obtain ⟨ma_22, ka_22⟩ := fa12_21 fa_58
  refine lv_aload_n hx hb dX12_takesWord_0 rfl (lv_at hl 0 rfl) ?_
  refine tk_getP (D := (dC, dI)) (ci := 12) (v := .int v_6) (C := RX12) (T := TX12) (N := 56) hx hb hU inlX12 hown hK hP mo0 hfo_57 rfl 5 (by decide) (hU _ wd_218) (fun _ h9 => h9) rfl dX12_takesWord_1 ?_
  refine lv_istore_n (lv' := [(3, .int v_6), (0, .ref o0), (1, .int 1), (2, .int 8)]) hx hb dX12_takesWord_4 rfl hl (by decide) rfl (fun ls hl => ?_)
  refine lv_aload_n hx hb dX12_takesWord_5 rfl (lv_at hl 1 rfl) ?_
  refine lv_iconst (v := 0) hx hb dX12_takesWord_6 (by decide) ?_
  refine tk_putP (D := (dC, dI)) (ci := 12) (v := .int 0) (ty := .int) (C := RX12) (T := TX12) (N := 56) hx hb hU inlX12 tyX12 tyX12_ok nmX12 hown hK hP hD hS mo0 hfo_57 rfl 5 (by decide) (hU _ wd_218) (fun _ h9 => h9) rfl (by decide +kernel) rfl rfl (Nat.le_of_ble_eq_true rfl) dX12_takesWord_7 (fun H locs hP hD hS => ?_)
  have fa_59 := fu12_5 (y := 0) fa_58 (by decide)
  obtain ⟨f_61, ef_61⟩ : ∃ y : Nat → va_E, y = va_up f o0 (.inr (12, [.ref a_1, .ref a_2, .ref a_3, .int v_4, .ref a_5, .int 0, .int v_7, .int v_8, .int v_9, .int v_10, .int v_11, .int v_12, .int v_13, .int v_14, .int v_15, .ref a_16, .ref a_17, .ref a_18, .ref a_19, .ref a_20, .ref a_21, .ref a_22, .ref a_23, .int v_24, .int v_25, .int v_26, .int v_27, .int v_28, .ref a_29, .int v_30, .ref a_31, .ref a_32, .int v_33, .int v_34, .ref a_35, .int v_36, .ref a_37, .ref a_38, .int v_39, .int v_40, .ref a_41, .ref a_42, .ref a_43, .int v_44, .ref a_45, .ref a_46, .ref a_47, .ref a_48, .ref a_49, .ref a_50, .ref a_51, .ref a_52, .ref a_53, .int v_54, .int v_55, .ref a_56])) := ⟨_, rfl⟩
  have hP : va_P (dC, dI) vwCl (va_pl L f_61) H := by rw [ef_61]; exact hP
  have hD : va_D (fun q => q ∈ L) (va_pl L f_61) := by rw [ef_61]; exact hD
  have hG : GI (okc cI cL cZ cR cG cH L kd) kd L f_61 := by rw [ef_61]; exact hG.set o0 (mk_12 ko0 (fo12 fa_59))
  have hfr0 : ∀ b, kd b ≠ 12 → kd b ≠ 589 → f_61 b = f b := fun b q12 q589 => (congrFun ef_61 b).trans ((up_ne (fun e9 => q12 (by rw [e9]; exact ko0))).trans (hfr0 b q12 q589))
  have hrA12 : ∀ b, kd b = 12 → ∀ j, fldR (f_61 b) j = fldR (f b) j := fun b kb j => ((congrArg (fun x => fldR x j) (congrFun ef_61 b)).trans (fra_up (fun j => by rw [hfo_57]; exact fr_set (k := 5) rfl rfl) j b)).trans (hrA12 b kb j)
  have hfA12 : ∀ b, kd b = 12 → ∀ j, j ≠ 5 → j ≠ 23 → fldI (f_61 b) j = fldI (f b) j := fun b kb j n5 n23 => ((congrArg (fun x => fldI x j) (congrFun ef_61 b)).trans (fia_up (fun h9 => by rw [hfo_57]; exact fi_set (k := 5) rfl h9) n5 b)).trans (hfA12 b kb j n5 n23)
  have hfo_62 : f_61 o0 = .inr (12, [.ref a_1, .ref a_2, .ref a_3, .int v_4, .ref a_5, .int 0, .int v_7, .int v_8, .int v_9, .int v_10, .int v_11, .int v_12, .int v_13, .int v_14, .int v_15, .ref a_16, .ref a_17, .ref a_18, .ref a_19, .ref a_20, .ref a_21, .ref a_22, .ref a_23, .int v_24, .int v_25, .int v_26, .int v_27, .int v_28, .ref a_29, .int v_30, .ref a_31, .ref a_32, .int v_33, .int v_34, .ref a_35, .int v_36, .ref a_37, .ref a_38, .int v_39, .int v_40, .ref a_41, .ref a_42, .ref a_43, .int v_44, .ref a_45, .ref a_46, .ref a_47, .ref a_48, .ref a_49, .ref a_50, .ref a_51, .ref a_52, .ref a_53, .int v_54, .int v_55, .ref a_56]) := by rw [ef_61]; exact up_self
  refine lv_iload_n hx hb dX12_takesWord_10 rfl (lv_at hl 0 rfl) ?_
  refine lv_iload_n hx hb dX12_takesWord_11 rfl (lv_at hl 2 rfl) ?_
  refine lv_iload_n hx hb dX12_takesWord_12 rfl (lv_at hl 3 rfl) ?_
  refine tk_SiP (As := [.int v_6, .int 1, .int 8]) (rest := []) (n := 3) hx hb hml hown hU hN hZ (s_X12_isIn l (dC, dI) cI cL cZ cR cG cH Z kd L f_61 hG v_6 1 8) wd_227 wd_228 wd_5 wd_229 (by decide +kernel) ⟨Nat.le_of_ble_eq_true rfl, Nat.le_of_ble_eq_true rfl⟩ hK hP hD hS rfl hl.1 rfl (Nat.le_of_ble_eq_true rfl) dX12_takesWord_13 ⟨Nat.le_of_ble_eq_true rfl, Nat.le_of_ble_eq_true rfl⟩ (fun x_63 f_64 H locs hw hP hD hS => ?_)
  obtain ⟨rfl, bx_63, relx_63⟩ := hw
  try rw [ti_1] at relx_63
  try rw [ti_8] at relx_63
  refine lv_if_ne (tgt := 21) hx hb dX12_takesWord_16 (by decide) (fun c_66 => ?_) (fun c_66 => ?_)
  · skip
    rw [← Int32.toInt_inj, ti_0] at c_66
    refine lv_aload_n hx hb dX12_takesWord_21 rfl (lv_at hl 1 rfl) ?_
    refine lv_iconst (v := 0) hx hb dX12_takesWord_22 (by decide) ?_
    refine tk_putP (D := (dC, dI)) (ci := 12) (v := .int 0) (ty := .int) (C := RX12) (T := TX12) (N := 56) hx hb hU inlX12 tyX12 tyX12_ok nmX12 hown hK hP hD hS mo0 hfo_62 rfl 23 (by decide) (hU _ wd_867) (fun _ h9 => h9) rfl (by decide +kernel) rfl rfl (Nat.le_of_ble_eq_true rfl) dX12_takesWord_23 (fun H locs hP hD hS => ?_)
    have fa_67 := fu12_23 (y := 0) fa_59 (by decide)
    obtain ⟨f_69, ef_69⟩ : ∃ y : Nat → va_E, y = va_up f_61 o0 (.inr (12, [.ref a_1, .ref a_2, .ref a_3, .int v_4, .ref a_5, .int 0, .int v_7, .int v_8, .int v_9, .int v_10, .int v_11, .int v_12, .int v_13, .int v_14, .int v_15, .ref a_16, .ref a_17, .ref a_18, .ref a_19, .ref a_20, .ref a_21, .ref a_22, .ref a_23, .int 0, .int v_25, .int v_26, .int v_27, .int v_28, .ref a_29, .int v_30, .ref a_31, .ref a_32, .int v_33, .int v_34, .ref a_35, .int v_36, .ref a_37, .ref a_38, .int v_39, .int v_40, .ref a_41, .ref a_42, .ref a_43, .int v_44, .ref a_45, .ref a_46, .ref a_47, .ref a_48, .ref a_49, .ref a_50, .ref a_51, .ref a_52, .ref a_53, .int v_54, .int v_55, .ref a_56])) := ⟨_, rfl⟩
    have hP : va_P (dC, dI) vwCl (va_pl L f_69) H := by rw [ef_69]; exact hP
    have hD : va_D (fun q => q ∈ L) (va_pl L f_69) := by rw [ef_69]; exact hD
    have hG : GI (okc cI cL cZ cR cG cH L kd) kd L f_69 := by rw [ef_69]; exact hG.set o0 (mk_12 ko0 (fo12 fa_67))
    have hfr0 : ∀ b, kd b ≠ 12 → kd b ≠ 589 → f_69 b = f b := fun b q12 q589 => (congrFun ef_69 b).trans ((up_ne (fun e9 => q12 (by rw [e9]; exact ko0))).trans (hfr0 b q12 q589))
    have hrA12 : ∀ b, kd b = 12 → ∀ j, fldR (f_69 b) j = fldR (f b) j := fun b kb j => ((congrArg (fun x => fldR x j) (congrFun ef_69 b)).trans (fra_up (fun j => by rw [hfo_62]; exact fr_set (k := 23) rfl rfl) j b)).trans (hrA12 b kb j)
    have hfA12 : ∀ b, kd b = 12 → ∀ j, j ≠ 5 → j ≠ 23 → fldI (f_69 b) j = fldI (f b) j := fun b kb j n5 n23 => ((congrArg (fun x => fldI x j) (congrFun ef_69 b)).trans (fia_up (fun h9 => by rw [hfo_62]; exact fi_set (k := 23) rfl h9) n23 b)).trans (hfA12 b kb j n5 n23)
    have hfo_70 : f_69 o0 = .inr (12, [.ref a_1, .ref a_2, .ref a_3, .int v_4, .ref a_5, .int 0, .int v_7, .int v_8, .int v_9, .int v_10, .int v_11, .int v_12, .int v_13, .int v_14, .int v_15, .ref a_16, .ref a_17, .ref a_18, .ref a_19, .ref a_20, .ref a_21, .ref a_22, .ref a_23, .int 0, .int v_25, .int v_26, .int v_27, .int v_28, .ref a_29, .int v_30, .ref a_31, .ref a_32, .int v_33, .int v_34, .ref a_35, .int v_36, .ref a_37, .ref a_38, .int v_39, .int v_40, .ref a_41, .ref a_42, .ref a_43, .int v_44, .ref a_45, .ref a_46, .ref a_47, .ref a_48, .ref a_49, .ref a_50, .ref a_51, .ref a_52, .ref a_53, .int v_54, .int v_55, .ref a_56]) := by rw [ef_69]; exact up_self
    refine lv_iconst (v := 0) hx hb dX12_takesWord_26 (by decide) ?_
    refine lv_istore (lv' := [(4, .int 0), (3, .int v_6), (0, .ref o0), (1, .int 1), (2, .int 8)]) hx hb dX12_takesWord_27 hl (by decide) rfl (fun ls hl => ?_)
    have hloop_76 : ∀ (n : Nat), ∀ (y_77 : Int32), (0 ≤ y_77.toInt ∧ y_77.toInt ≤ 8) → ∀ (f_79 : Nat → va_E), GI (okc cI cL cZ cR cG cH L kd) kd L f_79 → ∀ (H : Heap) (locs : List Loc), va_P (dC, dI) vwCl (va_pl L f_79) H → va_S (fun q => q ∈ L) s.heap H locs → va_D (fun q => q ∈ L) (va_pl L f_79) → (∀ b, kd b ≠ 12 → kd b ≠ 589 → f_79 b = f b) → (∀ b, kd b = 12 → ∀ j, fldR (f_79 b) j = fldR (f b) j) → (∀ b, kd b = 12 → ∀ j, j ≠ 5 → j ≠ 23 → fldI (f_79 b) j = fldI (f b) j) → ∀ (whloop_76_0_23 : Int32), fldI (f_79 o0) 23 = some whloop_76_0_23 → ∀ (whloop_76_0_5 : Int32), fldI (f_79 o0) 5 = some whloop_76_0_5 → (whloop_76_0_23.toInt ≤ y_77.toInt) → (0 ≤ whloop_76_0_23.toInt ∧ whloop_76_0_23.toInt ≤ 8) → (0 ≤ whloop_76_0_5.toInt ∧ whloop_76_0_5.toInt ≤ 0) → 8 - y_77.toInt < (n : Int) → ∀ (ls : Array Slot), lv_has ls 6 [(4, .int y_77), (3, .int v_6), (0, .ref o0), (1, .int 1), (2, .int 8)] → W p l e (headSpec (wU yX12_takesWord cX12_takesWord 6 (some .boolean)) { frames := 1, cells := 0, slots := 0, locals := 22 }).room s m [.ref o0, .int 1, .int 8].toArray below meth c H locs 0 0 (MQ below (va_Qi (fun (r : Int32) (f9 : Nat → va_E) => GI (okc cI cL cZ cR cG cH L kd) kd L f9 ∧ (0 ≤ r.toInt ∧ r.toInt ≤ 1) ∧ (∀ b, kd b ≠ 12 → kd b ≠ 589 → f9 b = f b) ∧ (∀ b, kd b = 12 → ∀ j, fldR (f9 b) j = fldR (f b) j) ∧ (∀ b, kd b = 12 → ∀ j, j ≠ 5 → j ≠ 23 → fldI (f9 b) j = fldI (f b) j) ∧ (∀ (w5 z5 : Int32) (w23 z23 : Int32), fldI (f o0) 5 = some w5 → fldI (f o0) 23 = some w23 → fldI (f9 o0) 5 = some z5 → fldI (f9 o0) 23 = some z23 → z5.toInt = 0 ∧ (r.toInt = 0 ∨ z23.toInt ≤ 8))) (qP (dC, dI) cI cL cZ cR cG cH L) (fun q => q ∈ L)) [.ref o0, .int 1, .int 8].toArray s 0 0 (fun q => q ∈ L)) (F0 m 29 ls []) := by
      intro n
      induction n with
      | zero => intro y_77 by_77 f_79 hG H locs hP hS hD hfr0 hrA12 hfA12 whloop_76_0_23 hghloop_76_0_23 whloop_76_0_5 hghloop_76_0_5 hrelhloop_76_0 hrelhloop_76_1 hrelhloop_76_2 hmuhloop_76 ls hl; exfalso; omega
      | succ n ih_hloop_76 =>
        intro y_77 by_77 f_79 hG H locs hP hS hD hfr0 hrA12 hfA12 whloop_76_0_23 hghloop_76_0_23 whloop_76_0_5 hghloop_76_0_5 hrelhloop_76_0 hrelhloop_76_1 hrelhloop_76_2 hmuhloop_76 ls hl
        obtain ⟨v_80, v_81, hfo_82, fa_83⟩ := op12_5_23 hfo_57 (hG _ mo0) ko0 (hrA12 o0 ko0) (hfA12 o0 ko0)
        have bv_80 : (0 ≤ v_80.toInt ∧ v_80.toInt ≤ 600) := fa12_5 fa_83
        have bv_81 : (0 ≤ v_81.toInt ∧ v_81.toInt ≤ 12) := fa12_23 fa_83
        obtain rfl : v_81 = whloop_76_0_23 := by rw [hfo_82] at hghloop_76_0_23; exact Option.some.inj hghloop_76_0_23
        obtain rfl : v_80 = whloop_76_0_5 := by rw [hfo_82] at hghloop_76_0_5; exact Option.some.inj hghloop_76_0_5
        refine lv_iload hx hb dX12_takesWord_29 (lv_at hl 0 rfl) ?_
        refine lv_iload_n hx hb dX12_takesWord_31 rfl (lv_at hl 1 rfl) ?_
        refine lv_icmp_ge (tgt := 85) hx hb dX12_takesWord_32 (by decide) (fun c_84 => ?_) (fun c_84 => ?_)
        · skip
          rw [Int32.le_iff_toInt_le] at c_84
          refine lv_iconst (v := 1) hx hb dX12_takesWord_85 (by decide) ?_
          exact W.zret (v := 1) (ty := .boolean) hx hb hr rfl (fun t ht hW => ⟨⟨1, f_79, rfl, ⟨hG, (by decide), hfr0, hrA12, hfA12, (by intro w5 z5 w23 z23 e5 e23 d5 d23; rw [hfo_57] at e5 e23; rw [hfo_82] at d5 d23; obtain rfl := Option.some.inj e5; obtain rfl := Option.some.inj d5; obtain rfl := Option.some.inj e23; obtain rfl := Option.some.inj d23; (try rw [ti_1]) <;> omega)⟩, by rw [ht]; exact hP, va_K.moved hW.alike hK, pl_in hD⟩, hS.F ht⟩) hS.2.2 dX12_takesWord_86
        · skip
          rw [Int32.le_iff_toInt_le] at c_84
          refine lv_aload_n hx hb dX12_takesWord_35 rfl (lv_at hl 2 rfl) ?_
          refine tk_getP (D := (dC, dI)) (ci := 12) (v := .ref a_1) (C := RX12) (T := TX12) (N := 56) hx hb hU inlX12 hown hK hP mo0 hfo_82 rfl 0 (by decide) (hU _ wd_169) (fun _ h9 => h9) rfl dX12_takesWord_36 ?_
          refine lv_aload_n hx hb dX12_takesWord_39 rfl (lv_at hl 2 rfl) ?_
          refine tk_getP (D := (dC, dI)) (ci := 12) (v := .ref a_5) (C := RX12) (T := TX12) (N := 56) hx hb hU inlX12 hown hK hP mo0 hfo_82 rfl 4 (by decide) (hU _ wd_172) (fun _ h9 => h9) rfl dX12_takesWord_40 ?_
          refine lv_iload hx hb dX12_takesWord_43 (lv_at hl 0 rfl) ?_
          obtain ⟨g_86, hfo_85, hbg_86⟩ := un_578 (hG _ ma_5) ka_5
          refine tk_ildP hx hb hK hP 0 ma_5 hfo_85 rfl (vp_in_iff.mpr (by constructor <;> omega)) dX12_takesWord_45 ?_
          refine lv_topi (fun x_87 ex_87 => ?_)
          have bx_87 : (0 ≤ x_87.toInt ∧ x_87.toInt ≤ 255) := by rw [ex_87]; exact hbg_86 _
          refine tk_SiP (As := [.ref a_1, .int x_87]) (rest := []) (n := 2) hx hb hml hown hU hN hZ (s_X12_letterIn_a575 l (dC, dI) cI cL cZ cR cG cH Z kd L f_79 hG a_1 ma_1 ka_1 x_87) wd_606 wd_607 wd_5 wd_608 (by decide +kernel) ⟨Nat.le_of_ble_eq_true rfl, Nat.le_of_ble_eq_true rfl⟩ hK hP hD hS rfl hl.1 rfl (Nat.le_of_ble_eq_true rfl) dX12_takesWord_46 ⟨Nat.le_of_ble_eq_true rfl, Nat.le_of_ble_eq_true rfl⟩ (fun x_88 f_89 H locs hw hP hD hS => ?_)
          obtain ⟨rfl, bx_88, hxp_90⟩ := hw
          obtain ⟨g_93, hfo_92, hbg_93⟩ := un_575 (hG _ ma_1) ka_1
          have hlix_88 := hxp_90 g_93 hfo_92
          refine lv_istore (lv' := [(5, .int x_88), (4, .int y_77), (3, .int v_6), (0, .ref o0), (1, .int 1), (2, .int 8)]) hx hb dX12_takesWord_49 hl (by decide) rfl (fun ls hl => ?_)
          refine lv_iload hx hb dX12_takesWord_51 (lv_at hl 0 rfl) ?_
          refine lv_if_ne (tgt := 58) hx hb dX12_takesWord_53 (by decide) (fun c_94 => ?_) (fun c_94 => ?_)
          · skip
            rw [← Int32.toInt_inj, ti_0] at c_94
            refine lv_aload_n hx hb dX12_takesWord_58 rfl (lv_at hl 3 rfl) ?_
            refine tk_getP (D := (dC, dI)) (ci := 12) (v := .ref a_22) (C := RX12) (T := TX12) (N := 56) hx hb hU inlX12 hown hK hP mo0 hfo_82 rfl 21 (by decide) (hU _ wd_181) (fun _ h9 => h9) rfl dX12_takesWord_59 ?_
            refine lv_aload_n hx hb dX12_takesWord_62 rfl (lv_at hl 3 rfl) ?_
            refine tk_getP (D := (dC, dI)) (ci := 12) (v := .int v_81) (C := RX12) (T := TX12) (N := 56) hx hb hU inlX12 hown hK hP mo0 hfo_82 rfl 23 (by decide) (hU _ wd_867) (fun _ h9 => h9) rfl dX12_takesWord_63 ?_
            refine lv_iload hx hb dX12_takesWord_66 (lv_at hl 0 rfl) ?_
            obtain ⟨g_96, hfo_95, hbg_96⟩ := un_589 (hG _ ma_22) ka_22
            refine tk_istP hx hb hK hP hD hS 0 ma_22 hfo_95 rfl (vp_in_iff.mpr (by constructor <;> omega)) dX12_takesWord_68 (fun H locs hP hD hS => ?_)
            obtain ⟨f_98, ef_98⟩ : ∃ y : Nat → va_E, y = va_up f_79 a_22 (.inl (cI, 16, .inl (upd g_96 (Int32.toNatClampNeg v_81) x_88))) := ⟨_, rfl⟩
            have hP : va_P (dC, dI) vwCl (va_pl L f_98) H := by rw [ef_98]; exact hP
            have hD : va_D (fun q => q ∈ L) (va_pl L f_98) := by rw [ef_98]; exact hD
            have hG : GI (okc cI cL cZ cR cG cH L kd) kd L f_98 := by rw [ef_98]; exact hG.set a_22 (mk_589 ka_22 ⟨_, rfl, okI_up hbg_96 (by constructor <;> omega) _⟩)
            have hfo_99 : f_98 o0 = .inr (12, [.ref a_1, .ref a_2, .ref a_3, .int v_4, .ref a_5, .int v_80, .int v_7, .int v_8, .int v_9, .int v_10, .int v_11, .int v_12, .int v_13, .int v_14, .int v_15, .ref a_16, .ref a_17, .ref a_18, .ref a_19, .ref a_20, .ref a_21, .ref a_22, .ref a_23, .int v_81, .int v_25, .int v_26, .int v_27, .int v_28, .ref a_29, .int v_30, .ref a_31, .ref a_32, .int v_33, .int v_34, .ref a_35, .int v_36, .ref a_37, .ref a_38, .int v_39, .int v_40, .ref a_41, .ref a_42, .ref a_43, .int v_44, .ref a_45, .ref a_46, .ref a_47, .ref a_48, .ref a_49, .ref a_50, .ref a_51, .ref a_52, .ref a_53, .int v_54, .int v_55, .ref a_56]) := by rw [ef_98, up_ne (kd_ne ka_22 ko0 (by decide))]; exact hfo_82
            have hfo_100 : f_98 a_5 = .inl (cI, 600, .inl g_86) := by rw [ef_98, up_ne (kd_ne ka_22 ka_5 (by decide))]; exact hfo_85
            have hfo_101 : f_98 a_1 = .inl (cI, 1560, .inl g_93) := by rw [ef_98, up_ne (kd_ne ka_22 ka_1 (by decide))]; exact hfo_92
            have hfr0 : ∀ b, kd b ≠ 12 → kd b ≠ 589 → f_98 b = f b := fun b q12 q589 => (congrFun ef_98 b).trans ((up_ne (fun e9 => q589 (by rw [e9]; exact ka_22))).trans (hfr0 b q12 q589))
            have hrA12 : ∀ b, kd b = 12 → ∀ j, fldR (f_98 b) j = fldR (f b) j := fun b kb j => (congrArg (fun x => fldR x j) ((congrFun ef_98 b).trans (up_ne (kd_ne ka_22 kb (by decide))))).trans (hrA12 b kb j)
            have hfA12 : ∀ b, kd b = 12 → ∀ j, j ≠ 5 → j ≠ 23 → fldI (f_98 b) j = fldI (f b) j := fun b kb j n5 n23 => (congrArg (fun x => fldI x j) ((congrFun ef_98 b).trans (up_ne (kd_ne ka_22 kb (by decide))))).trans (hfA12 b kb j n5 n23)
            have hfo_102 : f_98 a_22 = .inl (cI, 16, .inl (upd g_96 (Int32.toNatClampNeg v_81) x_88)) := by rw [ef_98]; exact up_self
            refine lv_aload_n hx hb dX12_takesWord_69 rfl (lv_at hl 3 rfl) ?_
            refine lv_dup hx hb dX12_takesWord_70 rfl ?_
            refine tk_getP (D := (dC, dI)) (ci := 12) (v := .int v_81) (C := RX12) (T := TX12) (N := 56) hx hb hU inlX12 hown hK hP mo0 hfo_99 rfl 23 (by decide) (hU _ wd_867) (fun _ h9 => h9) rfl dX12_takesWord_71 ?_
            refine lv_iconst (v := 1) hx hb dX12_takesWord_74 (by decide) ?_
            refine lv_iadd hx hb dX12_takesWord_75 ?_
            refine lv_topi (fun x_103 ex_103 => ?_)
            have hx_103 : x_103.toInt = v_81.toInt + 1 := by rw [ex_103, ad_I (by rw [ti_1]; omega) (by rw [ti_1]; omega), ti_1]
            have bx_103 : (1 ≤ x_103.toInt ∧ x_103.toInt ≤ 9) := by constructor <;> omega
            refine tk_putP (D := (dC, dI)) (ci := 12) (v := .int x_103) (ty := .int) (C := RX12) (T := TX12) (N := 56) hx hb hU inlX12 tyX12 tyX12_ok nmX12 hown hK hP hD hS mo0 hfo_99 rfl 23 (by decide) (hU _ wd_867) (fun _ h9 => h9) rfl (by decide +kernel) rfl rfl (Nat.le_of_ble_eq_true rfl) dX12_takesWord_76 (fun H locs hP hD hS => ?_)
            have fa_104 := fu12_23 (y := x_103) fa_83 (by constructor <;> omega)
            obtain ⟨f_106, ef_106⟩ : ∃ y : Nat → va_E, y = va_up f_98 o0 (.inr (12, [.ref a_1, .ref a_2, .ref a_3, .int v_4, .ref a_5, .int v_80, .int v_7, .int v_8, .int v_9, .int v_10, .int v_11, .int v_12, .int v_13, .int v_14, .int v_15, .ref a_16, .ref a_17, .ref a_18, .ref a_19, .ref a_20, .ref a_21, .ref a_22, .ref a_23, .int x_103, .int v_25, .int v_26, .int v_27, .int v_28, .ref a_29, .int v_30, .ref a_31, .ref a_32, .int v_33, .int v_34, .ref a_35, .int v_36, .ref a_37, .ref a_38, .int v_39, .int v_40, .ref a_41, .ref a_42, .ref a_43, .int v_44, .ref a_45, .ref a_46, .ref a_47, .ref a_48, .ref a_49, .ref a_50, .ref a_51, .ref a_52, .ref a_53, .int v_54, .int v_55, .ref a_56])) := ⟨_, rfl⟩
            have hP : va_P (dC, dI) vwCl (va_pl L f_106) H := by rw [ef_106]; exact hP
            have hD : va_D (fun q => q ∈ L) (va_pl L f_106) := by rw [ef_106]; exact hD
            have hG : GI (okc cI cL cZ cR cG cH L kd) kd L f_106 := by rw [ef_106]; exact hG.set o0 (mk_12 ko0 (fo12 fa_104))
            have hfo_107 : f_106 a_5 = .inl (cI, 600, .inl g_86) := by rw [ef_106, up_ne (kd_ne ko0 ka_5 (by decide))]; exact hfo_100
            have hfo_108 : f_106 a_1 = .inl (cI, 1560, .inl g_93) := by rw [ef_106, up_ne (kd_ne ko0 ka_1 (by decide))]; exact hfo_101
            have hfr0 : ∀ b, kd b ≠ 12 → kd b ≠ 589 → f_106 b = f b := fun b q12 q589 => (congrFun ef_106 b).trans ((up_ne (fun e9 => q12 (by rw [e9]; exact ko0))).trans (hfr0 b q12 q589))
            have hrA12 : ∀ b, kd b = 12 → ∀ j, fldR (f_106 b) j = fldR (f b) j := fun b kb j => ((congrArg (fun x => fldR x j) (congrFun ef_106 b)).trans (fra_up (fun j => by rw [hfo_99]; exact fr_set (k := 23) rfl rfl) j b)).trans (hrA12 b kb j)
            have hfA12 : ∀ b, kd b = 12 → ∀ j, j ≠ 5 → j ≠ 23 → fldI (f_106 b) j = fldI (f b) j := fun b kb j n5 n23 => ((congrArg (fun x => fldI x j) (congrFun ef_106 b)).trans (fia_up (fun h9 => by rw [hfo_99]; exact fi_set (k := 23) rfl h9) n23 b)).trans (hfA12 b kb j n5 n23)
            have hfo_109 : f_106 o0 = .inr (12, [.ref a_1, .ref a_2, .ref a_3, .int v_4, .ref a_5, .int v_80, .int v_7, .int v_8, .int v_9, .int v_10, .int v_11, .int v_12, .int v_13, .int v_14, .int v_15, .ref a_16, .ref a_17, .ref a_18, .ref a_19, .ref a_20, .ref a_21, .ref a_22, .ref a_23, .int x_103, .int v_25, .int v_26, .int v_27, .int v_28, .ref a_29, .int v_30, .ref a_31, .ref a_32, .int v_33, .int v_34, .ref a_35, .int v_36, .ref a_37, .ref a_38, .int v_39, .int v_40, .ref a_41, .ref a_42, .ref a_43, .int v_44, .ref a_45, .ref a_46, .ref a_47, .ref a_48, .ref a_49, .ref a_50, .ref a_51, .ref a_52, .ref a_53, .int v_54, .int v_55, .ref a_56]) := by rw [ef_106]; exact up_self
            obtain ⟨x_110, ex_110⟩ : ∃ y : Int32, y_77 + 1 = y := ⟨_, rfl⟩
            have hx_110 : x_110.toInt = y_77.toInt + 1 := by rw [← ex_110, ad_I (by rw [ti_1]; omega) (by rw [ti_1]; omega), ti_1]
            have bx_110 : (1 ≤ x_110.toInt ∧ x_110.toInt ≤ 8) := by constructor <;> omega
            refine lv_iinc (v := x_110) (lv' := [(4, .int x_110), (5, .int x_88), (3, .int v_6), (0, .ref o0), (1, .int 1), (2, .int 8)]) hx hb dX12_takesWord_79 hl (k := 1) rfl ex_110 (by decide) rfl (fun ls hl => ?_)
            refine lv_goto (tgt := 29) hx hb dX12_takesWord_82 (by decide) ?_
            exact ih_hloop_76 x_110 (by constructor <;> omega) f_106 hG _ _ hP hS hD hfr0 hrA12 hfA12 x_103 (by rw [hfo_109]; rfl) v_80 (by rw [hfo_109]; rfl) (by (try rw [ti_1]) <;> (try rw [ti_8]) <;> omega) (by (try rw [ti_1]) <;> (try rw [ti_8]) <;> omega) (by (try rw [ti_1]) <;> (try rw [ti_8]) <;> omega) (by (try rw [ti_1]) <;> (try rw [ti_8]) <;> omega) ls (lv_sub hl [0, 2, 3, 4, 5] rfl)
          · skip
            rw [← Int32.toInt_inj, ti_0] at c_94
            refine lv_iconst (v := 0) hx hb dX12_takesWord_56 (by decide) ?_
            exact W.zret (v := 0) (ty := .boolean) hx hb hr rfl (fun t ht hW => ⟨⟨0, f_79, rfl, ⟨hG, (by decide), hfr0, hrA12, hfA12, (by intro w5 z5 w23 z23 e5 e23 d5 d23; rw [hfo_57] at e5 e23; rw [hfo_82] at d5 d23; obtain rfl := Option.some.inj e5; obtain rfl := Option.some.inj d5; obtain rfl := Option.some.inj e23; obtain rfl := Option.some.inj d23; (try rw [ti_0]) <;> omega)⟩, by rw [ht]; exact hP, va_K.moved hW.alike hK, pl_in hD⟩, hS.F ht⟩) hS.2.2 dX12_takesWord_57
    exact hloop_76 9 0 (by decide) f_69 hG _ _ hP hS hD hfr0 hrA12 hfA12 0 (by rw [hfo_70]; rfl) 0 (by rw [hfo_70]; rfl) (by (try rw [ti_0]) <;> (try rw [ti_1]) <;> (try rw [ti_8]) <;> omega) (by (try rw [ti_0]) <;> (try rw [ti_1]) <;> (try rw [ti_8]) <;> omega) (by (try rw [ti_0]) <;> (try rw [ti_1]) <;> (try rw [ti_8]) <;> omega) (by (try rw [ti_0]) <;> (try rw [ti_1]) <;> (try rw [ti_8]) <;> omega) ls hl
  · skip
    rw [← Int32.toInt_inj, ti_0] at c_66
    refine lv_iconst (v := 0) hx hb dX12_takesWord_19 (by decide) ?_
    exact W.zret (v := 0) (ty := .boolean) hx hb hr rfl (fun t ht hW => ⟨⟨0, f_61, rfl, ⟨hG, (by decide), hfr0, hrA12, hfA12, (by intro w5 z5 w23 z23 e5 e23 d5 d23; rw [hfo_57] at e5 e23; rw [hfo_62] at d5 d23; obtain rfl := Option.some.inj e5; obtain rfl := Option.some.inj d5; obtain rfl := Option.some.inj e23; obtain rfl := Option.some.inj d23; (try rw [ti_0]) <;> omega)⟩, by rw [ht]; exact hP, va_K.moved hW.alike hK, pl_in hD⟩, hS.F ht⟩) hS.2.2 dX12_takesWord_20
