set_option maxHeartbeats 8000000 in
set_option maxRecDepth 100000 in
theorem s_X3_descend_k3_c0 (l : Launch) (D : va_G) (cI cL cZ cR cG cH : ClassId) (Z : zT) (kd : Nat → Nat) (L : List Nat) (f : Nat → va_E) (hG : GI (okc cI cL cZ cR cG cH L kd) kd L f) (o0 : Nat) (mo0 : o0 ∈ L) (ko0 : kd o0 = 3) (p2 : Int32) (bp2 : (0 ≤ p2.toInt ∧ p2.toInt ≤ 8)) (p3 : Int32) (p4 : Int32) (bp4 : (0 ≤ p4.toInt ∧ p4.toInt ≤ 387420488)) (p5 : Int32) (bp5 : (0 ≤ p5.toInt ∧ p5.toInt ≤ 0)) (hxtr0 : ∀ d9, fldR (f o0) 3 = some d9 → drel kd 1 521 522 f d9) (hxpre0 : capR p4.toInt p5.toInt) : mPI l D cI cL cZ cR cG cH Z yX3_descend cX3_descend 18 (some .boolean) 12 420 [.ref o0, .int 0, .int p2, .int p3, .int p4, .int p5] L f (fun (r : Int32) (f9 : Nat → va_E) => GI (okc cI cL cZ cR cG cH L kd) kd L f9 ∧ (0 ≤ r.toInt ∧ r.toInt ≤ 1) ∧ (∀ b, kd b ≠ 1 → kd b ≠ 3 → kd b ≠ 10 → kd b ≠ 517 → kd b ≠ 518 → kd b ≠ 519 → kd b ≠ 520 → kd b ≠ 521 → kd b ≠ 522 → kd b ≠ 523 → kd b ≠ 524 → kd b ≠ 525 → kd b ≠ 526 → kd b ≠ 527 → f9 b = f b) ∧ (∀ b, kd b = 1 → fldR (f9 b) 0 = fldR (f b) 0) ∧ (∀ b, kd b = 1 → fldR (f9 b) 1 = fldR (f b) 1) ∧ (∀ b, kd b = 3 → fldR (f9 b) 0 = fldR (f b) 0) ∧ (∀ b, kd b = 3 → fldR (f9 b) 3 = fldR (f b) 3) ∧ (∀ d9, fldR (f9 o0) 3 = some d9 → drel kd 1 521 522 f9 d9)) := by
  obtain ⟨dC, dI⟩ := D
  refine Met.ofW (cc := cX3_descend) (maxL := 18) (ret := (some .boolean)) (by decide) rfl ?_
  intro p e s m args below meth c s₁ B hml hv
  obtain ⟨rfl, hP, hK, hD0, hN, hZ⟩ := hv
  have hx := B.exec
  have hb := B.bytes
  have hr := B.returns
  have hU : ∀ w ∈ wsU, w.before _ s = true := fun w h => atoms_spec (ws := wU yX3_descend cX3_descend 18 (some .boolean)) B.pre w (List.mem_cons_of_mem _ h)
  have hown : s.vm.findClass RX3 = some m.cls := findClass_of_methodNamed B.named
  have hlocks := B.notSynchronized
  have hD := pl_in hD0
  have hS : va_S (fun q => q ∈ L) s.heap s.heap [] := va_S.rf
  have hl := lv_entry ([.ref o0, .int 0, .int p2, .int p3, .int p4, .int p5]) (n := 18) (Nat.le_of_ble_eq_true rfl)
  rw [lg_entry_eq]
  generalize (lg_sl ([.ref o0, .int 0, .int p2, .int p3, .int p4, .int p5]) ++ List.replicate (18 - (lg_sl ([.ref o0, .int 0, .int p2, .int p3, .int p4, .int p5])).length) Slot.unset).toArray = ls at hl ⊢
  have hl : lv_has ls 18 [(0, .ref o0), (1, .int 0), (2, .int p2), (3, .int p3), (4, .int p4), (5, .int p5)] := hl
  have bp3 : ((-2147483648) ≤ p3.toInt ∧ p3.toInt ≤ 2147483647) := ⟨i32_lo _, i32_hi _⟩
  have hfr0 : ∀ b, kd b ≠ 1 → kd b ≠ 3 → kd b ≠ 10 → kd b ≠ 517 → kd b ≠ 518 → kd b ≠ 519 → kd b ≠ 520 → kd b ≠ 521 → kd b ≠ 522 → kd b ≠ 523 → kd b ≠ 524 → kd b ≠ 525 → kd b ≠ 526 → kd b ≠ 527 → f b = f b := fun _ _ _ _ _ _ _ _ _ _ _ _ _ _ _ => rfl
  have hrr1_0 : ∀ b, kd b = 1 → fldR (f b) 0 = fldR (f b) 0 := fun _ _ => rfl
  have hrr1_1 : ∀ b, kd b = 1 → fldR (f b) 1 = fldR (f b) 1 := fun _ _ => rfl
  have hrr3_0 : ∀ b, kd b = 3 → fldR (f b) 0 = fldR (f b) 0 := fun _ _ => rfl
  have hrr3_3 : ∀ b, kd b = 3 → fldR (f b) 3 = fldR (f b) 3 := fun _ _ => rfl
  obtain ⟨a_2, a_3, a_4, a_5, a_6, v_7, v_8, v_9, v_10, v_11, v_12, v_13, a_14, a_15, a_16, v_17, a_18, a_19, hfo_1, ⟨ma_2, ka_2⟩, ⟨ma_3, ka_3⟩, ⟨ma_4, ka_4⟩, ⟨ma_5, ka_5⟩, ⟨ma_6, ka_6⟩, bv_7, bv_8, bv_9, ⟨ma_14, ka_14⟩, ⟨ma_15, ka_15⟩, ⟨ma_16, ka_16⟩, bv_17, ⟨ma_18, ka_18⟩, ⟨ma_19, ka_19⟩⟩ := un_3 (hG _ mo0) ko0
  have bv_10 : ((-2147483648) ≤ v_10.toInt ∧ v_10.toInt ≤ 2147483647) := ⟨i32_lo _, i32_hi _⟩
  have bv_11 : ((-2147483648) ≤ v_11.toInt ∧ v_11.toInt ≤ 2147483647) := ⟨i32_lo _, i32_hi _⟩
  have bv_12 : ((-2147483648) ≤ v_12.toInt ∧ v_12.toInt ≤ 2147483647) := ⟨i32_lo _, i32_hi _⟩
  have bv_13 : ((-2147483648) ≤ v_13.toInt ∧ v_13.toInt ≤ 2147483647) := ⟨i32_lo _, i32_hi _⟩
  have hT0 := hxtr0 a_5 (by rw [hfo_1]; rfl)
  refine lv_aload_n hx hb dX3_descend_0 rfl (lv_at hl 0 rfl) ?_
  refine tk_getP (D := (dC, dI)) (ci := 3) (v := .int v_9) (C := RX3) (T := TX3) (N := 18) hx hb hU inlX3 hown hK hP mo0 hfo_1 rfl 7 (by decide) (hU _ wd_733) (fun _ h9 => h9) rfl dX3_descend_1 ?_
  have hcut_21 : ∀ (y_20 : Int32), (0 ≤ y_20.toInt ∧ y_20.toInt ≤ 1) → ∀ (ls : Array Slot), lv_has ls 18 [(0, .ref o0), (1, .int 0), (2, .int p2), (3, .int p3), (4, .int p4), (5, .int p5)] → W p l e (headSpec (wU yX3_descend cX3_descend 18 (some .boolean)) { frames := 12, cells := 0, slots := 0, locals := 420 }).room s m [.ref o0, .int 0, .int p2, .int p3, .int p4, .int p5].toArray below meth c s.heap [] 0 0 (MQ below (va_Qi (fun (r : Int32) (f9 : Nat → va_E) => GI (okc cI cL cZ cR cG cH L kd) kd L f9 ∧ (0 ≤ r.toInt ∧ r.toInt ≤ 1) ∧ (∀ b, kd b ≠ 1 → kd b ≠ 3 → kd b ≠ 10 → kd b ≠ 517 → kd b ≠ 518 → kd b ≠ 519 → kd b ≠ 520 → kd b ≠ 521 → kd b ≠ 522 → kd b ≠ 523 → kd b ≠ 524 → kd b ≠ 525 → kd b ≠ 526 → kd b ≠ 527 → f9 b = f b) ∧ (∀ b, kd b = 1 → fldR (f9 b) 0 = fldR (f b) 0) ∧ (∀ b, kd b = 1 → fldR (f9 b) 1 = fldR (f b) 1) ∧ (∀ b, kd b = 3 → fldR (f9 b) 0 = fldR (f b) 0) ∧ (∀ b, kd b = 3 → fldR (f9 b) 3 = fldR (f b) 3) ∧ (∀ d9, fldR (f9 o0) 3 = some d9 → drel kd 1 521 522 f9 d9)) (qP (dC, dI) cI cL cZ cR cG cH L) (fun q => q ∈ L)) [.ref o0, .int 0, .int p2, .int p3, .int p4, .int p5].toArray s 0 0 (fun q => q ∈ L)) (F0 m 22 ls [.int y_20]) := by
    intro y_20 by_20 ls hl
    refine lv_istore (lv' := [(6, .int y_20), (0, .ref o0), (1, .int 0), (2, .int p2), (3, .int p3), (4, .int p4), (5, .int p5)]) hx hb dX3_descend_22 hl (by decide) rfl (fun ls hl => ?_)
    refine lv_iload_n hx hb dX3_descend_24 rfl (lv_at hl 3 rfl) ?_
    refine lv_iconst (v := 2) hx hb dX3_descend_25 (by decide) ?_
    refine lv_imul hx hb dX3_descend_26 ?_
    refine lv_topi (fun x_22 ex_22 => ?_)
    have hx_22 : x_22.toInt = p2.toInt * 2 := by rw [ex_22, ml_I (by rw [ti_2]; omega) (by rw [ti_2]; omega), ti_2]
    have bx_22 : (0 ≤ x_22.toInt ∧ x_22.toInt ≤ 16) := by constructor <;> omega
    refine lv_iload_n hx hb dX3_descend_27 rfl (lv_at hl 4 rfl) ?_
    refine lv_iadd hx hb dX3_descend_28 ?_
    refine lv_topi (fun x_23 ex_23 => ?_)
    have bx_23 : ((-2147483648) ≤ x_23.toInt ∧ x_23.toInt ≤ 2147483647) := ⟨i32_lo _, i32_hi _⟩
    refine lv_istore (lv' := [(7, .int x_23), (6, .int y_20), (0, .ref o0), (1, .int 0), (2, .int p2), (3, .int p3), (4, .int p4), (5, .int p5)]) hx hb dX3_descend_29 hl (by decide) rfl (fun ls hl => ?_)
    refine lv_iload hx hb dX3_descend_31 (lv_at hl 1 rfl) ?_
    refine lv_if_eq (tgt := 66) hx hb dX3_descend_33 (by decide) (fun c_24 => ?_) (fun c_24 => ?_)
    · skip
      rw [← Int32.toInt_inj, ti_0] at c_24
      refine lv_iload_n hx hb dX3_descend_66 rfl (lv_at hl 4 rfl) ?_
      refine lv_aload_n hx hb dX3_descend_67 rfl (lv_at hl 2 rfl) ?_
      refine tk_getP (D := (dC, dI)) (ci := 3) (v := .int v_7) (C := RX3) (T := TX3) (N := 18) hx hb hU inlX3 hown hK hP mo0 hfo_1 rfl 5 (by decide) (hU _ wd_726) (fun _ h9 => h9) rfl dX3_descend_68 ?_
      have hcut_28 : ∀ (y_25 : Int32), (0 ≤ y_25.toInt ∧ y_25.toInt ≤ 1) → ∀ (f_27 : Nat → va_E), GI (okc cI cL cZ cR cG cH L kd) kd L f_27 → ∀ (H : Heap) (locs : List Loc), va_P (dC, dI) vwCl (va_pl L f_27) H → va_S (fun q => q ∈ L) s.heap H locs → va_D (fun q => q ∈ L) (va_pl L f_27) → (∀ b, kd b ≠ 1 → kd b ≠ 3 → kd b ≠ 10 → kd b ≠ 517 → kd b ≠ 518 → kd b ≠ 519 → kd b ≠ 520 → kd b ≠ 521 → kd b ≠ 522 → kd b ≠ 523 → kd b ≠ 524 → kd b ≠ 525 → kd b ≠ 526 → kd b ≠ 527 → f_27 b = f b) → (∀ b, kd b = 1 → fldR (f_27 b) 0 = fldR (f b) 0) → (∀ b, kd b = 1 → fldR (f_27 b) 1 = fldR (f b) 1) → (∀ b, kd b = 3 → fldR (f_27 b) 0 = fldR (f b) 0) → (∀ b, kd b = 3 → fldR (f_27 b) 3 = fldR (f b) 3) → drel kd 1 521 522 f_27 a_5 → ∀ (ls : Array Slot), lv_has ls 18 [(7, .int x_23), (6, .int y_20), (0, .ref o0), (1, .int 0), (2, .int p2), (3, .int p3), (4, .int p4), (5, .int p5)] → W p l e (headSpec (wU yX3_descend cX3_descend 18 (some .boolean)) { frames := 12, cells := 0, slots := 0, locals := 420 }).room s m [.ref o0, .int 0, .int p2, .int p3, .int p4, .int p5].toArray below meth c H locs 0 0 (MQ below (va_Qi (fun (r : Int32) (f9 : Nat → va_E) => GI (okc cI cL cZ cR cG cH L kd) kd L f9 ∧ (0 ≤ r.toInt ∧ r.toInt ≤ 1) ∧ (∀ b, kd b ≠ 1 → kd b ≠ 3 → kd b ≠ 10 → kd b ≠ 517 → kd b ≠ 518 → kd b ≠ 519 → kd b ≠ 520 → kd b ≠ 521 → kd b ≠ 522 → kd b ≠ 523 → kd b ≠ 524 → kd b ≠ 525 → kd b ≠ 526 → kd b ≠ 527 → f9 b = f b) ∧ (∀ b, kd b = 1 → fldR (f9 b) 0 = fldR (f b) 0) ∧ (∀ b, kd b = 1 → fldR (f9 b) 1 = fldR (f b) 1) ∧ (∀ b, kd b = 3 → fldR (f9 b) 0 = fldR (f b) 0) ∧ (∀ b, kd b = 3 → fldR (f9 b) 3 = fldR (f b) 3) ∧ (∀ d9, fldR (f9 o0) 3 = some d9 → drel kd 1 521 522 f9 d9)) (qP (dC, dI) cI cL cZ cR cG cH L) (fun q => q ∈ L)) [.ref o0, .int 0, .int p2, .int p3, .int p4, .int p5].toArray s 0 0 (fun q => q ∈ L)) (F0 m 89 ls [.int y_25]) := by
        intro y_25 by_25 f_27 hG H locs hP hS hD hfr0 hrr1_0 hrr1_1 hrr3_0 hrr3_3 hT0 ls hl
        refine lv_istore (lv' := [(8, .int y_25), (7, .int x_23), (6, .int y_20), (0, .ref o0), (1, .int 0), (2, .int p2), (3, .int p3), (4, .int p4), (5, .int p5)]) hx hb dX3_descend_89 hl (by decide) rfl (fun ls hl => ?_)
        refine lv_iload_n hx hb dX3_descend_91 rfl (lv_at hl 4 rfl) ?_
        refine lv_bipush (v := 9) hx hb dX3_descend_92 (by decide) ?_
        refine lv_icmp_ge (tgt := 102) hx hb dX3_descend_94 (by decide) (fun c9 => absurd c9 (by decide)) (fun _ => ?_)
        refine lv_bipush (v := 8) hx hb dX3_descend_97 (by decide) ?_
        refine lv_goto (tgt := 103) hx hb dX3_descend_99 (by decide) ?_
        refine lv_istore (lv' := [(9, .int 8), (8, .int y_25), (7, .int x_23), (6, .int y_20), (0, .ref o0), (1, .int 0), (2, .int p2), (3, .int p3), (4, .int p4), (5, .int p5)]) hx hb dX3_descend_103 hl (by decide) rfl (fun ls hl => ?_)
        refine lv_iload_n hx hb dX3_descend_105 rfl (lv_at hl 6 rfl) ?_
        refine lv_aload_n hx hb dX3_descend_106 rfl (lv_at hl 4 rfl) ?_
        obtain ⟨a_30, a_31, a_32, a_33, a_34, v_35, v_36, v_37, v_38, v_39, v_40, v_41, a_42, a_43, a_44, v_45, a_46, a_47, hfo_29, ⟨ma_30, ka_30⟩, ⟨ma_31, ka_31⟩, ⟨ma_32, ka_32⟩, ⟨ma_33, ka_33⟩, ⟨ma_34, ka_34⟩, bv_35, bv_36, bv_37, ⟨ma_42, ka_42⟩, ⟨ma_43, ka_43⟩, ⟨ma_44, ka_44⟩, bv_45, ⟨ma_46, ka_46⟩, ⟨ma_47, ka_47⟩⟩ := un_3 (hG _ mo0) ko0
        have bv_38 : ((-2147483648) ≤ v_38.toInt ∧ v_38.toInt ≤ 2147483647) := ⟨i32_lo _, i32_hi _⟩
        have bv_39 : ((-2147483648) ≤ v_39.toInt ∧ v_39.toInt ≤ 2147483647) := ⟨i32_lo _, i32_hi _⟩
        have bv_40 : ((-2147483648) ≤ v_40.toInt ∧ v_40.toInt ≤ 2147483647) := ⟨i32_lo _, i32_hi _⟩
        have bv_41 : ((-2147483648) ≤ v_41.toInt ∧ v_41.toInt ≤ 2147483647) := ⟨i32_lo _, i32_hi _⟩
        obtain rfl : a_2 = a_30 := by have hk9 := hrr3_0 o0 ko0; rw [hfo_29, hfo_1] at hk9; exact (Option.some.inj hk9).symm
        obtain rfl : a_5 = a_33 := by have hk9 := hrr3_3 o0 ko0; rw [hfo_29, hfo_1] at hk9; exact (Option.some.inj hk9).symm
        refine tk_getP (D := (dC, dI)) (ci := 3) (v := .int v_35) (C := RX3) (T := TX3) (N := 18) hx hb hU inlX3 hown hK hP mo0 hfo_29 rfl 5 (by decide) (hU _ wd_726) (fun _ h9 => h9) rfl dX3_descend_107 ?_
        have hcut_49 : ∀ (y_48 : Int32), (0 ≤ y_48.toInt ∧ y_48.toInt ≤ 4) → (4 ≤ y_48.toInt ∨ p2.toInt ≤ 7) → ∀ (ls : Array Slot), lv_has ls 18 [(9, .int 8), (8, .int y_25), (7, .int x_23), (6, .int y_20), (0, .ref o0), (1, .int 0), (2, .int p2), (3, .int p3), (4, .int p4), (5, .int p5)] → W p l e (headSpec (wU yX3_descend cX3_descend 18 (some .boolean)) { frames := 12, cells := 0, slots := 0, locals := 420 }).room s m [.ref o0, .int 0, .int p2, .int p3, .int p4, .int p5].toArray below meth c H locs 0 0 (MQ below (va_Qi (fun (r : Int32) (f9 : Nat → va_E) => GI (okc cI cL cZ cR cG cH L kd) kd L f9 ∧ (0 ≤ r.toInt ∧ r.toInt ≤ 1) ∧ (∀ b, kd b ≠ 1 → kd b ≠ 3 → kd b ≠ 10 → kd b ≠ 517 → kd b ≠ 518 → kd b ≠ 519 → kd b ≠ 520 → kd b ≠ 521 → kd b ≠ 522 → kd b ≠ 523 → kd b ≠ 524 → kd b ≠ 525 → kd b ≠ 526 → kd b ≠ 527 → f9 b = f b) ∧ (∀ b, kd b = 1 → fldR (f9 b) 0 = fldR (f b) 0) ∧ (∀ b, kd b = 1 → fldR (f9 b) 1 = fldR (f b) 1) ∧ (∀ b, kd b = 3 → fldR (f9 b) 0 = fldR (f b) 0) ∧ (∀ b, kd b = 3 → fldR (f9 b) 3 = fldR (f b) 3) ∧ (∀ d9, fldR (f9 o0) 3 = some d9 → drel kd 1 521 522 f9 d9)) (qP (dC, dI) cI cL cZ cR cG cH L) (fun q => q ∈ L)) [.ref o0, .int 0, .int p2, .int p3, .int p4, .int p5].toArray s 0 0 (fun q => q ∈ L)) (F0 m 118 ls [.int y_48]) := by
          intro y_48 by_48 hjhcut_49_0 ls hl
          refine lv_istore (lv' := [(10, .int y_48), (9, .int 8), (8, .int y_25), (7, .int x_23), (6, .int y_20), (0, .ref o0), (1, .int 0), (2, .int p2), (3, .int p3), (4, .int p4), (5, .int p5)]) hx hb dX3_descend_118 hl (by decide) rfl (fun ls hl => ?_)
          have hloop_66 : ∀ (n : Nat), ∀ (y_67 : Int32), (0 ≤ y_67.toInt ∧ y_67.toInt ≤ 8) → ∀ (y_68 : Int32), (0 ≤ y_68.toInt ∧ y_68.toInt ≤ 1) → ∀ (f_70 : Nat → va_E), GI (okc cI cL cZ cR cG cH L kd) kd L f_70 → ∀ (H : Heap) (locs : List Loc), va_P (dC, dI) vwCl (va_pl L f_70) H → va_S (fun q => q ∈ L) s.heap H locs → va_D (fun q => q ∈ L) (va_pl L f_70) → (∀ b, kd b ≠ 1 → kd b ≠ 3 → kd b ≠ 10 → kd b ≠ 517 → kd b ≠ 518 → kd b ≠ 519 → kd b ≠ 520 → kd b ≠ 521 → kd b ≠ 522 → kd b ≠ 523 → kd b ≠ 524 → kd b ≠ 525 → kd b ≠ 526 → kd b ≠ 527 → f_70 b = f b) → (∀ b, kd b = 1 → fldR (f_70 b) 0 = fldR (f b) 0) → (∀ b, kd b = 1 → fldR (f_70 b) 1 = fldR (f b) 1) → (∀ b, kd b = 3 → fldR (f_70 b) 0 = fldR (f b) 0) → (∀ b, kd b = 3 → fldR (f_70 b) 3 = fldR (f b) 3) → drel kd 1 521 522 f_70 a_5 → (4 ≤ y_67.toInt ∨ p2.toInt ≤ 7) → 8 - y_67.toInt < (n : Int) → ∀ (ls : Array Slot), lv_has ls 18 [(10, .int y_67), (9, .int 8), (8, .int y_68), (7, .int x_23), (6, .int y_20), (0, .ref o0), (1, .int 0), (2, .int p2), (3, .int p3), (4, .int p4), (5, .int p5)] → W p l e (headSpec (wU yX3_descend cX3_descend 18 (some .boolean)) { frames := 12, cells := 0, slots := 0, locals := 420 }).room s m [.ref o0, .int 0, .int p2, .int p3, .int p4, .int p5].toArray below meth c H locs 0 0 (MQ below (va_Qi (fun (r : Int32) (f9 : Nat → va_E) => GI (okc cI cL cZ cR cG cH L kd) kd L f9 ∧ (0 ≤ r.toInt ∧ r.toInt ≤ 1) ∧ (∀ b, kd b ≠ 1 → kd b ≠ 3 → kd b ≠ 10 → kd b ≠ 517 → kd b ≠ 518 → kd b ≠ 519 → kd b ≠ 520 → kd b ≠ 521 → kd b ≠ 522 → kd b ≠ 523 → kd b ≠ 524 → kd b ≠ 525 → kd b ≠ 526 → kd b ≠ 527 → f9 b = f b) ∧ (∀ b, kd b = 1 → fldR (f9 b) 0 = fldR (f b) 0) ∧ (∀ b, kd b = 1 → fldR (f9 b) 1 = fldR (f b) 1) ∧ (∀ b, kd b = 3 → fldR (f9 b) 0 = fldR (f b) 0) ∧ (∀ b, kd b = 3 → fldR (f9 b) 3 = fldR (f b) 3) ∧ (∀ d9, fldR (f9 o0) 3 = some d9 → drel kd 1 521 522 f9 d9)) (qP (dC, dI) cI cL cZ cR cG cH L) (fun q => q ∈ L)) [.ref o0, .int 0, .int p2, .int p3, .int p4, .int p5].toArray s 0 0 (fun q => q ∈ L)) (F0 m 120 ls []) := by
            intro n
            induction n with
            | zero => intro y_67 by_67 y_68 by_68 f_70 hG H locs hP hS hD hfr0 hrr1_0 hrr1_1 hrr3_0 hrr3_3 hT0 hrelhloop_66_0 hmuhloop_66 ls hl; exfalso; omega
            | succ n ih_hloop_66 =>
              intro y_67 by_67 y_68 by_68 f_70 hG H locs hP hS hD hfr0 hrr1_0 hrr1_1 hrr3_0 hrr3_3 hT0 hrelhloop_66_0 hmuhloop_66 ls hl
              refine lv_iload hx hb dX3_descend_120 (lv_at hl 0 rfl) ?_
              refine lv_iload hx hb dX3_descend_122 (lv_at hl 1 rfl) ?_
              have hcut_71 : ∀ (ls : Array Slot), lv_has ls 18 [(10, .int y_67), (9, .int 8), (8, .int y_68), (7, .int x_23), (6, .int y_20), (0, .ref o0), (1, .int 0), (2, .int p2), (3, .int p3), (4, .int p4), (5, .int p5)] → W p l e (headSpec (wU yX3_descend cX3_descend 18 (some .boolean)) { frames := 12, cells := 0, slots := 0, locals := 420 }).room s m [.ref o0, .int 0, .int p2, .int p3, .int p4, .int p5].toArray below meth c H locs 0 0 (MQ below (va_Qi (fun (r : Int32) (f9 : Nat → va_E) => GI (okc cI cL cZ cR cG cH L kd) kd L f9 ∧ (0 ≤ r.toInt ∧ r.toInt ≤ 1) ∧ (∀ b, kd b ≠ 1 → kd b ≠ 3 → kd b ≠ 10 → kd b ≠ 517 → kd b ≠ 518 → kd b ≠ 519 → kd b ≠ 520 → kd b ≠ 521 → kd b ≠ 522 → kd b ≠ 523 → kd b ≠ 524 → kd b ≠ 525 → kd b ≠ 526 → kd b ≠ 527 → f9 b = f b) ∧ (∀ b, kd b = 1 → fldR (f9 b) 0 = fldR (f b) 0) ∧ (∀ b, kd b = 1 → fldR (f9 b) 1 = fldR (f b) 1) ∧ (∀ b, kd b = 3 → fldR (f9 b) 0 = fldR (f b) 0) ∧ (∀ b, kd b = 3 → fldR (f9 b) 3 = fldR (f b) 3) ∧ (∀ d9, fldR (f9 o0) 3 = some d9 → drel kd 1 521 522 f9 d9)) (qP (dC, dI) cI cL cZ cR cG cH L) (fun q => q ∈ L)) [.ref o0, .int 0, .int p2, .int p3, .int p4, .int p5].toArray s 0 0 (fun q => q ∈ L)) (F0 m 349 ls []) := by
                intro ls hl
                refine lv_iload hx hb dX3_descend_349 (lv_at hl 4 rfl) ?_
                refine lv_if_eq (tgt := 394) hx hb dX3_descend_351 (by decide) (fun c_72 => ?_) (fun c_72 => ?_)
                · skip
                  rw [← Int32.toInt_inj, ti_0] at c_72
                  refine lv_iload hx hb dX3_descend_394 (lv_at hl 2 rfl) ?_
                  obtain ⟨a_74, a_75, a_76, a_77, a_78, v_79, v_80, v_81, v_82, v_83, v_84, v_85, a_86, a_87, a_88, v_89, a_90, a_91, hfo_73, ⟨ma_74, ka_74⟩, ⟨ma_75, ka_75⟩, ⟨ma_76, ka_76⟩, ⟨ma_77, ka_77⟩, ⟨ma_78, ka_78⟩, bv_79, bv_80, bv_81, ⟨ma_86, ka_86⟩, ⟨ma_87, ka_87⟩, ⟨ma_88, ka_88⟩, bv_89, ⟨ma_90, ka_90⟩, ⟨ma_91, ka_91⟩⟩ := un_3 (hG _ mo0) ko0
                  have bv_82 : ((-2147483648) ≤ v_82.toInt ∧ v_82.toInt ≤ 2147483647) := ⟨i32_lo _, i32_hi _⟩
                  have bv_83 : ((-2147483648) ≤ v_83.toInt ∧ v_83.toInt ≤ 2147483647) := ⟨i32_lo _, i32_hi _⟩
                  have bv_84 : ((-2147483648) ≤ v_84.toInt ∧ v_84.toInt ≤ 2147483647) := ⟨i32_lo _, i32_hi _⟩
                  have bv_85 : ((-2147483648) ≤ v_85.toInt ∧ v_85.toInt ≤ 2147483647) := ⟨i32_lo _, i32_hi _⟩
                  obtain rfl : a_2 = a_74 := by have hk9 := hrr3_0 o0 ko0; rw [hfo_73, hfo_1] at hk9; exact (Option.some.inj hk9).symm
                  obtain rfl : a_5 = a_77 := by have hk9 := hrr3_3 o0 ko0; rw [hfo_73, hfo_1] at hk9; exact (Option.some.inj hk9).symm
                  exact W.zret (v := y_68) (ty := .boolean) hx hb hr (zb_n (by constructor <;> omega)) (fun t ht hW => ⟨⟨y_68, f_70, rfl, ⟨hG, (by constructor <;> omega), hfr0, hrr1_0, hrr1_1, hrr3_0, hrr3_3, (fun d9 h9 => by rw [hfo_73] at h9; obtain rfl := Option.some.inj h9; exact hT0)⟩, by rw [ht]; exact hP, va_K.moved hW.alike hK, pl_in hD⟩, hS.F ht⟩) hS.2.2 dX3_descend_396
                · skip
                  rw [← Int32.toInt_inj, ti_0] at c_72
                  exfalso
                  omega
              refine lv_icmp_ge (tgt := 349) hx hb dX3_descend_124 (by decide) (fun c_92 => ?_) (fun c_92 => ?_)
              · skip
                rw [Int32.le_iff_toInt_le, ti_8] at c_92
                exact hcut_71 ls (lv_sub hl [0, 1, 2, 3, 4, 5, 6, 7, 8, 9, 10] rfl)
              · skip
                rw [Int32.le_iff_toInt_le, ti_8] at c_92
                refine lv_aload_n hx hb dX3_descend_127 rfl (lv_at hl 5 rfl) ?_
                obtain ⟨a_94, a_95, a_96, a_97, a_98, v_99, v_100, v_101, v_102, v_103, v_104, v_105, a_106, a_107, a_108, v_109, a_110, a_111, hfo_93, ⟨ma_94, ka_94⟩, ⟨ma_95, ka_95⟩, ⟨ma_96, ka_96⟩, ⟨ma_97, ka_97⟩, ⟨ma_98, ka_98⟩, bv_99, bv_100, bv_101, ⟨ma_106, ka_106⟩, ⟨ma_107, ka_107⟩, ⟨ma_108, ka_108⟩, bv_109, ⟨ma_110, ka_110⟩, ⟨ma_111, ka_111⟩⟩ := un_3 (hG _ mo0) ko0
                have bv_102 : ((-2147483648) ≤ v_102.toInt ∧ v_102.toInt ≤ 2147483647) := ⟨i32_lo _, i32_hi _⟩
                have bv_103 : ((-2147483648) ≤ v_103.toInt ∧ v_103.toInt ≤ 2147483647) := ⟨i32_lo _, i32_hi _⟩
                have bv_104 : ((-2147483648) ≤ v_104.toInt ∧ v_104.toInt ≤ 2147483647) := ⟨i32_lo _, i32_hi _⟩
                have bv_105 : ((-2147483648) ≤ v_105.toInt ∧ v_105.toInt ≤ 2147483647) := ⟨i32_lo _, i32_hi _⟩
                obtain rfl : a_2 = a_94 := by have hk9 := hrr3_0 o0 ko0; rw [hfo_93, hfo_1] at hk9; exact (Option.some.inj hk9).symm
                obtain rfl : a_5 = a_97 := by have hk9 := hrr3_3 o0 ko0; rw [hfo_93, hfo_1] at hk9; exact (Option.some.inj hk9).symm
                refine tk_getP (D := (dC, dI)) (ci := 3) (v := .ref a_95) (C := RX3) (T := TX3) (N := 18) hx hb hU inlX3 hown hK hP mo0 hfo_93 rfl 1 (by decide) (hU _ wd_52) (fun _ h9 => h9) rfl dX3_descend_128 ?_
                obtain ⟨a_113, v_114, v_115, hfo_112, ⟨ma_113, ka_113⟩, bv_114, bv_115⟩ := un_10 (hG _ ma_95) ka_95
                refine tk_getP (D := (dC, dI)) (ci := 10) (v := .int v_115) (C := RX10) (T := TX10) (N := 3) hx hb hU inlX10 hown hK hP ma_95 hfo_112 rfl 2 (by decide) (hU _ wd_766) (fun _ h9 => h9) rfl dX3_descend_131 ?_
                refine lv_if_ne (tgt := 349) hx hb dX3_descend_134 (by decide) (fun c_116 => ?_) (fun c_116 => ?_)
                · skip
                  rw [← Int32.toInt_inj, ti_0] at c_116
                  exact hcut_71 ls (lv_sub hl [0, 1, 2, 3, 4, 5, 6, 7, 8, 9, 10] rfl)
                · skip
                  rw [← Int32.toInt_inj, ti_0] at c_116
                  refine lv_iload hx hb dX3_descend_137 (lv_at hl 0 rfl) ?_
                  refine lv_iconst (v := 4) hx hb dX3_descend_139 (by decide) ?_
                  have hcut_118 : ∀ (y_117 : Int32), (0 ≤ y_117.toInt ∧ y_117.toInt ≤ 8) → (y_117.toInt = 0 ∨ p2.toInt ≤ 7) → ∀ (ls : Array Slot), lv_has ls 18 [(10, .int y_67), (9, .int 8), (8, .int y_68), (7, .int x_23), (6, .int y_20), (0, .ref o0), (1, .int 0), (2, .int p2), (3, .int p3), (4, .int p4), (5, .int p5)] → W p l e (headSpec (wU yX3_descend cX3_descend 18 (some .boolean)) { frames := 12, cells := 0, slots := 0, locals := 420 }).room s m [.ref o0, .int 0, .int p2, .int p3, .int p4, .int p5].toArray below meth c H locs 0 0 (MQ below (va_Qi (fun (r : Int32) (f9 : Nat → va_E) => GI (okc cI cL cZ cR cG cH L kd) kd L f9 ∧ (0 ≤ r.toInt ∧ r.toInt ≤ 1) ∧ (∀ b, kd b ≠ 1 → kd b ≠ 3 → kd b ≠ 10 → kd b ≠ 517 → kd b ≠ 518 → kd b ≠ 519 → kd b ≠ 520 → kd b ≠ 521 → kd b ≠ 522 → kd b ≠ 523 → kd b ≠ 524 → kd b ≠ 525 → kd b ≠ 526 → kd b ≠ 527 → f9 b = f b) ∧ (∀ b, kd b = 1 → fldR (f9 b) 0 = fldR (f b) 0) ∧ (∀ b, kd b = 1 → fldR (f9 b) 1 = fldR (f b) 1) ∧ (∀ b, kd b = 3 → fldR (f9 b) 0 = fldR (f b) 0) ∧ (∀ b, kd b = 3 → fldR (f9 b) 3 = fldR (f b) 3) ∧ (∀ d9, fldR (f9 o0) 3 = some d9 → drel kd 1 521 522 f9 d9)) (qP (dC, dI) cI cL cZ cR cG cH L) (fun q => q ∈ L)) [.ref o0, .int 0, .int p2, .int p3, .int p4, .int p5].toArray s 0 0 (fun q => q ∈ L)) (F0 m 153 ls [.int y_117]) := by
                    intro y_117 by_117 hjhcut_118_0 ls hl
                    refine lv_istore (lv' := [(11, .int y_117), (10, .int y_67), (9, .int 8), (8, .int y_68), (7, .int x_23), (6, .int y_20), (0, .ref o0), (1, .int 0), (2, .int p2), (3, .int p3), (4, .int p4), (5, .int p5)]) hx hb dX3_descend_153 hl (by decide) rfl (fun ls hl => ?_)
                    refine lv_aload_n hx hb dX3_descend_155 rfl (lv_at hl 6 rfl) ?_
                    refine lv_iload hx hb dX3_descend_156 (lv_at hl 0 rfl) ?_
                    refine lv_iload hx hb dX3_descend_158 (lv_at hl 1 rfl) ?_
                    refine lv_iconst (v := 4) hx hb dX3_descend_160 (by decide) ?_
                    refine lv_irem hx hb dX3_descend_161 (by decide) ?_
                    refine lv_topi (fun x_119 ex_119 => ?_)
                    have hx_119 : x_119.toInt = y_67.toInt % 4 := by rw [ex_119, rm_I (by omega) (by rw [ti_4]; omega), ti_4]
                    have bx_119 : (0 ≤ x_119.toInt ∧ x_119.toInt ≤ 3) := by constructor <;> omega
                    refine tk_ViP (As := [.int y_117, .int x_119]) (rest := []) (n := 2) hx hb hml hown hU hN hZ (s_X3_choiceOf_k3 l (dC, dI) cI cL cZ cR cG cH Z kd L f_70 hG o0 mo0 ko0 y_117 (by constructor <;> omega) x_119 (by constructor <;> omega)) wd_819 wd_820 wd_821 wd_16 wd_822 (by decide +kernel) ⟨Nat.le_of_ble_eq_true rfl, Nat.le_of_ble_eq_true rfl⟩ hK hP hD hS mo0 hfo_93 3 rfl rfl rfl hl.1 rfl (Nat.le_of_ble_eq_true rfl) dX3_descend_162 ⟨Nat.le_of_ble_eq_true rfl, Nat.le_of_ble_eq_true rfl⟩ (fun x_120 f_121 H locs hw hP hD hS => ?_)
                    obtain ⟨rfl, bx_120⟩ := hw
                    refine lv_istore (lv' := [(12, .int x_120), (11, .int y_117), (10, .int y_67), (9, .int 8), (8, .int y_68), (7, .int x_23), (6, .int y_20), (0, .ref o0), (1, .int 0), (2, .int p2), (3, .int p3), (4, .int p4), (5, .int p5)]) hx hb dX3_descend_165 hl (by decide) rfl (fun ls hl => ?_)
                    refine lv_iload hx hb dX3_descend_167 (lv_at hl 0 rfl) ?_
                    refine lv_iconst (v := (-1)) hx hb dX3_descend_169 (by decide) ?_
                    have hcut_126 : ∀ (y_123 : Int32), (0 ≤ y_123.toInt ∧ y_123.toInt ≤ 1) → ∀ (f_125 : Nat → va_E), GI (okc cI cL cZ cR cG cH L kd) kd L f_125 → ∀ (H : Heap) (locs : List Loc), va_P (dC, dI) vwCl (va_pl L f_125) H → va_S (fun q => q ∈ L) s.heap H locs → va_D (fun q => q ∈ L) (va_pl L f_125) → (∀ b, kd b ≠ 1 → kd b ≠ 3 → kd b ≠ 10 → kd b ≠ 517 → kd b ≠ 518 → kd b ≠ 519 → kd b ≠ 520 → kd b ≠ 521 → kd b ≠ 522 → kd b ≠ 523 → kd b ≠ 524 → kd b ≠ 525 → kd b ≠ 526 → kd b ≠ 527 → f_125 b = f b) → (∀ b, kd b = 1 → fldR (f_125 b) 0 = fldR (f b) 0) → (∀ b, kd b = 1 → fldR (f_125 b) 1 = fldR (f b) 1) → (∀ b, kd b = 3 → fldR (f_125 b) 0 = fldR (f b) 0) → (∀ b, kd b = 3 → fldR (f_125 b) 3 = fldR (f b) 3) → drel kd 1 521 522 f_125 a_5 → ∀ (ls : Array Slot), lv_has ls 18 [(12, .int x_120), (11, .int y_117), (10, .int y_67), (9, .int 8), (8, .int y_123), (7, .int x_23), (6, .int y_20), (0, .ref o0), (1, .int 0), (2, .int p2), (3, .int p3), (4, .int p4), (5, .int p5)] → W p l e (headSpec (wU yX3_descend cX3_descend 18 (some .boolean)) { frames := 12, cells := 0, slots := 0, locals := 420 }).room s m [.ref o0, .int 0, .int p2, .int p3, .int p4, .int p5].toArray below meth c H locs 0 0 (MQ below (va_Qi (fun (r : Int32) (f9 : Nat → va_E) => GI (okc cI cL cZ cR cG cH L kd) kd L f9 ∧ (0 ≤ r.toInt ∧ r.toInt ≤ 1) ∧ (∀ b, kd b ≠ 1 → kd b ≠ 3 → kd b ≠ 10 → kd b ≠ 517 → kd b ≠ 518 → kd b ≠ 519 → kd b ≠ 520 → kd b ≠ 521 → kd b ≠ 522 → kd b ≠ 523 → kd b ≠ 524 → kd b ≠ 525 → kd b ≠ 526 → kd b ≠ 527 → f9 b = f b) ∧ (∀ b, kd b = 1 → fldR (f9 b) 0 = fldR (f b) 0) ∧ (∀ b, kd b = 1 → fldR (f9 b) 1 = fldR (f b) 1) ∧ (∀ b, kd b = 3 → fldR (f9 b) 0 = fldR (f b) 0) ∧ (∀ b, kd b = 3 → fldR (f9 b) 3 = fldR (f b) 3) ∧ (∀ d9, fldR (f9 o0) 3 = some d9 → drel kd 1 521 522 f9 d9)) (qP (dC, dI) cI cL cZ cR cG cH L) (fun q => q ∈ L)) [.ref o0, .int 0, .int p2, .int p3, .int p4, .int p5].toArray s 0 0 (fun q => q ∈ L)) (F0 m 343 ls []) := by
                      intro y_123 by_123 f_125 hG H locs hP hS hD hfr0 hrr1_0 hrr1_1 hrr3_0 hrr3_3 hT0 ls hl
                      obtain ⟨x_127, ex_127⟩ : ∃ y : Int32, y_67 + 1 = y := ⟨_, rfl⟩
                      have hx_127 : x_127.toInt = y_67.toInt + 1 := by rw [← ex_127, ad_I (by rw [ti_1]; omega) (by rw [ti_1]; omega), ti_1]
                      have bx_127 : (1 ≤ x_127.toInt ∧ x_127.toInt ≤ 8) := by constructor <;> omega
                      refine lv_iinc (v := x_127) (lv' := [(10, .int x_127), (12, .int x_120), (11, .int y_117), (9, .int 8), (8, .int y_123), (7, .int x_23), (6, .int y_20), (0, .ref o0), (1, .int 0), (2, .int p2), (3, .int p3), (4, .int p4), (5, .int p5)]) hx hb dX3_descend_343 hl (k := 2) rfl ex_127 (by decide) rfl (fun ls hl => ?_)
                      refine lv_goto (tgt := 120) hx hb dX3_descend_346 (by decide) ?_
                      exact ih_hloop_66 x_127 (by constructor <;> omega) y_123 (by constructor <;> omega) f_125 hG _ _ hP hS hD hfr0 hrr1_0 hrr1_1 hrr3_0 hrr3_3 hT0 (by (try rw [ti_8]) <;> (try rw [ti_0]) <;> omega) (by (try rw [ti_8]) <;> (try rw [ti_0]) <;> omega) ls (lv_sub hl [0, 3, 4, 5, 6, 7, 8, 9, 10, 11, 12] rfl)
                    refine lv_icmp_ne (tgt := 176) hx hb dX3_descend_170 (by decide) (fun c_128 => ?_) (fun c_128 => ?_)
                    · skip
                      rw [← Int32.toInt_inj, ti_m1] at c_128
                      refine lv_aload_n hx hb dX3_descend_176 rfl (lv_at hl 7 rfl) ?_
                      refine tk_getP (D := (dC, dI)) (ci := 3) (v := .int v_100) (C := RX3) (T := TX3) (N := 18) hx hb hU inlX3 hown hK hP mo0 hfo_93 rfl 6 (by decide) (hU _ wd_732) (fun _ h9 => h9) rfl dX3_descend_177 ?_
                      have hcut_130 : ∀ (y_129 : Int32), (0 ≤ y_129.toInt ∧ y_129.toInt ≤ 8) → ∀ (ls : Array Slot), lv_has ls 18 [(12, .int x_120), (11, .int y_117), (10, .int y_67), (9, .int 8), (8, .int y_68), (7, .int x_23), (6, .int y_20), (0, .ref o0), (1, .int 0), (2, .int p2), (3, .int p3), (4, .int p4), (5, .int p5)] → W p l e (headSpec (wU yX3_descend cX3_descend 18 (some .boolean)) { frames := 12, cells := 0, slots := 0, locals := 420 }).room s m [.ref o0, .int 0, .int p2, .int p3, .int p4, .int p5].toArray below meth c H locs 0 0 (MQ below (va_Qi (fun (r : Int32) (f9 : Nat → va_E) => GI (okc cI cL cZ cR cG cH L kd) kd L f9 ∧ (0 ≤ r.toInt ∧ r.toInt ≤ 1) ∧ (∀ b, kd b ≠ 1 → kd b ≠ 3 → kd b ≠ 10 → kd b ≠ 517 → kd b ≠ 518 → kd b ≠ 519 → kd b ≠ 520 → kd b ≠ 521 → kd b ≠ 522 → kd b ≠ 523 → kd b ≠ 524 → kd b ≠ 525 → kd b ≠ 526 → kd b ≠ 527 → f9 b = f b) ∧ (∀ b, kd b = 1 → fldR (f9 b) 0 = fldR (f b) 0) ∧ (∀ b, kd b = 1 → fldR (f9 b) 1 = fldR (f b) 1) ∧ (∀ b, kd b = 3 → fldR (f9 b) 0 = fldR (f b) 0) ∧ (∀ b, kd b = 3 → fldR (f9 b) 3 = fldR (f b) 3) ∧ (∀ d9, fldR (f9 o0) 3 = some d9 → drel kd 1 521 522 f9 d9)) (qP (dC, dI) cI cL cZ cR cG cH L) (fun q => q ∈ L)) [.ref o0, .int 0, .int p2, .int p3, .int p4, .int p5].toArray s 0 0 (fun q => q ∈ L)) (F0 m 206 ls [.int y_129]) := by
                        intro y_129 by_129 ls hl
                        refine lv_istore (lv' := [(13, .int y_129), (12, .int x_120), (11, .int y_117), (10, .int y_67), (9, .int 8), (8, .int y_68), (7, .int x_23), (6, .int y_20), (0, .ref o0), (1, .int 0), (2, .int p2), (3, .int p3), (4, .int p4), (5, .int p5)]) hx hb dX3_descend_206 hl (by decide) rfl (fun ls hl => ?_)
                        refine lv_iload hx hb dX3_descend_208 (lv_at hl 2 rfl) ?_
                        have hcut_132 : ∀ (y_131 : Int32), (0 ≤ y_131.toInt ∧ y_131.toInt ≤ 1) → ∀ (ls : Array Slot), lv_has ls 18 [(13, .int y_129), (12, .int x_120), (11, .int y_117), (10, .int y_67), (9, .int 8), (8, .int y_68), (7, .int x_23), (6, .int y_20), (0, .ref o0), (1, .int 0), (2, .int p2), (3, .int p3), (4, .int p4), (5, .int p5)] → W p l e (headSpec (wU yX3_descend cX3_descend 18 (some .boolean)) { frames := 12, cells := 0, slots := 0, locals := 420 }).room s m [.ref o0, .int 0, .int p2, .int p3, .int p4, .int p5].toArray below meth c H locs 0 0 (MQ below (va_Qi (fun (r : Int32) (f9 : Nat → va_E) => GI (okc cI cL cZ cR cG cH L kd) kd L f9 ∧ (0 ≤ r.toInt ∧ r.toInt ≤ 1) ∧ (∀ b, kd b ≠ 1 → kd b ≠ 3 → kd b ≠ 10 → kd b ≠ 517 → kd b ≠ 518 → kd b ≠ 519 → kd b ≠ 520 → kd b ≠ 521 → kd b ≠ 522 → kd b ≠ 523 → kd b ≠ 524 → kd b ≠ 525 → kd b ≠ 526 → kd b ≠ 527 → f9 b = f b) ∧ (∀ b, kd b = 1 → fldR (f9 b) 0 = fldR (f b) 0) ∧ (∀ b, kd b = 1 → fldR (f9 b) 1 = fldR (f b) 1) ∧ (∀ b, kd b = 3 → fldR (f9 b) 0 = fldR (f b) 0) ∧ (∀ b, kd b = 3 → fldR (f9 b) 3 = fldR (f b) 3) ∧ (∀ d9, fldR (f9 o0) 3 = some d9 → drel kd 1 521 522 f9 d9)) (qP (dC, dI) cI cL cZ cR cG cH L) (fun q => q ∈ L)) [.ref o0, .int 0, .int p2, .int p3, .int p4, .int p5].toArray s 0 0 (fun q => q ∈ L)) (F0 m 223 ls [.int y_131]) := by
                          intro y_131 by_131 ls hl
                          refine lv_istore (lv' := [(14, .int y_131), (13, .int y_129), (12, .int x_120), (11, .int y_117), (10, .int y_67), (9, .int 8), (8, .int y_68), (7, .int x_23), (6, .int y_20), (0, .ref o0), (1, .int 0), (2, .int p2), (3, .int p3), (4, .int p4), (5, .int p5)]) hx hb dX3_descend_223 hl (by decide) rfl (fun ls hl => ?_)
                          refine lv_iload hx hb dX3_descend_225 (lv_at hl 0 rfl) ?_
                          refine lv_iload_n hx hb dX3_descend_227 rfl (lv_at hl 12 rfl) ?_
                          refine lv_icmp_gt (tgt := 343) hx hb dX3_descend_228 (by decide) (fun c_133 => ?_) (fun c_133 => ?_)
                          · skip
                            rw [Int32.lt_iff_toInt_lt] at c_133
                            exact hcut_126 y_68 (by constructor <;> omega) f_70 hG _ _ hP hS hD hfr0 hrr1_0 hrr1_1 hrr3_0 hrr3_3 hT0 ls (lv_sub hl [2, 3, 4, 5, 6, 7, 8, 9, 10, 11, 12, 13, 14] rfl)
                          · skip
                            rw [Int32.lt_iff_toInt_lt] at c_133
                            refine lv_aload_n hx hb dX3_descend_231 rfl (lv_at hl 9 rfl) ?_
                            refine lv_aload_n hx hb dX3_descend_232 rfl (lv_at hl 9 rfl) ?_
                            refine tk_getP (D := (dC, dI)) (ci := 3) (v := .ref a_96) (C := RX3) (T := TX3) (N := 18) hx hb hU inlX3 hown hK hP mo0 hfo_93 rfl 2 (by decide) (hU _ wd_56) (fun _ h9 => h9) rfl dX3_descend_233 ?_
                            refine lv_aload_n hx hb dX3_descend_236 rfl (lv_at hl 9 rfl) ?_
                            refine tk_getP (D := (dC, dI)) (ci := 3) (v := .ref a_2) (C := RX3) (T := TX3) (N := 18) hx hb hU inlX3 hown hK hP mo0 hfo_93 rfl 0 (by decide) (hU _ wd_48) (fun _ h9 => h9) rfl dX3_descend_237 ?_
                            refine lv_aload_n hx hb dX3_descend_240 rfl (lv_at hl 9 rfl) ?_
                            refine tk_getP (D := (dC, dI)) (ci := 3) (v := .int v_102) (C := RX3) (T := TX3) (N := 18) hx hb hU inlX3 hown hK hP mo0 hfo_93 rfl 8 (by decide) (hU _ wd_734) (fun _ h9 => h9) rfl dX3_descend_241 ?_
                            refine lv_iload_n hx hb dX3_descend_244 rfl (lv_at hl 10 rfl) ?_
                            refine lv_iload hx hb dX3_descend_245 (lv_at hl 2 rfl) ?_
                            obtain ⟨a_135, a_136, a_137, a_138, a_139, hfo_134, ⟨ma_135, ka_135⟩, ⟨ma_136, ka_136⟩, ⟨ma_137, ka_137⟩, ⟨ma_138, ka_138⟩, ⟨ma_139, ka_139⟩⟩ := un_8 (hG _ ma_96) ka_96
                            refine tk_ViP (As := [.ref a_2, .int v_102, .int 0, .int x_120]) (rest := [.ref o0]) (n := 4) hx hb hml hown hU hN hZ (s_X8_step_k8_k7 l (dC, dI) cI cL cZ cR cG cH Z kd L f_70 hG a_96 ma_96 ka_96 a_2 ma_2 ka_2 v_102 0 (by decide) x_120 (by constructor <;> omega)) wd_825 wd_826 wd_827 wd_55 wd_828 (by decide +kernel) ⟨Nat.le_of_ble_eq_true rfl, Nat.le_of_ble_eq_true rfl⟩ hK hP hD hS ma_96 hfo_134 8 rfl rfl rfl hl.1 rfl (Nat.le_of_ble_eq_true rfl) dX3_descend_247 ⟨Nat.le_of_ble_eq_true rfl, Nat.le_of_ble_eq_true rfl⟩ (fun x_140 f_141 H locs hw hP hD hS => ?_)
                            obtain ⟨hG, bx_140, hkc_142⟩ := hw
                            have hfo_144 : f_141 o0 = .inr (3, [.ref a_2, .ref a_95, .ref a_96, .ref a_5, .ref a_98, .int v_99, .int v_100, .int v_101, .int v_102, .int v_103, .int v_104, .int v_105, .ref a_106, .ref a_107, .ref a_108, .int v_109, .ref a_110, .ref a_111]) := by rw [hkc_142 o0 (by rw [ko0]; decide) (by rw [ko0]; decide) (by rw [ko0]; decide) (by rw [ko0]; decide)]; exact hfo_93
                            have hfo_145 : f_141 a_95 = .inr (10, [.ref a_113, .int v_114, .int v_115]) := by rw [hkc_142 a_95 (by rw [ka_95]; decide) (by rw [ka_95]; decide) (by rw [ka_95]; decide) (by rw [ka_95]; decide)]; exact hfo_112
                            have hfo_146 : f_141 a_96 = .inr (8, [.ref a_135, .ref a_136, .ref a_137, .ref a_138, .ref a_139]) := by rw [hkc_142 a_96 (by rw [ka_96]; decide) (by rw [ka_96]; decide) (by rw [ka_96]; decide) (by rw [ka_96]; decide)]; exact hfo_134
                            have hfr0 : ∀ b, kd b ≠ 1 → kd b ≠ 3 → kd b ≠ 10 → kd b ≠ 517 → kd b ≠ 518 → kd b ≠ 519 → kd b ≠ 520 → kd b ≠ 521 → kd b ≠ 522 → kd b ≠ 523 → kd b ≠ 524 → kd b ≠ 525 → kd b ≠ 526 → kd b ≠ 527 → f_141 b = f b := fun b q1 q3 q10 q517 q518 q519 q520 q521 q522 q523 q524 q525 q526 q527 => (hkc_142 b q517 q518 q519 q520).trans (hfr0 b q1 q3 q10 q517 q518 q519 q520 q521 q522 q523 q524 q525 q526 q527)
                            have hrr1_0 : ∀ b, kd b = 1 → fldR (f_141 b) 0 = fldR (f b) 0 := fun b kb => (congrArg (fun x => fldR x 0) (hkc_142 b (by rw [kb]; decide) (by rw [kb]; decide) (by rw [kb]; decide) (by rw [kb]; decide))).trans (hrr1_0 b kb)
                            have hrr1_1 : ∀ b, kd b = 1 → fldR (f_141 b) 1 = fldR (f b) 1 := fun b kb => (congrArg (fun x => fldR x 1) (hkc_142 b (by rw [kb]; decide) (by rw [kb]; decide) (by rw [kb]; decide) (by rw [kb]; decide))).trans (hrr1_1 b kb)
                            have hrr3_0 : ∀ b, kd b = 3 → fldR (f_141 b) 0 = fldR (f b) 0 := fun b kb => (congrArg (fun x => fldR x 0) (hkc_142 b (by rw [kb]; decide) (by rw [kb]; decide) (by rw [kb]; decide) (by rw [kb]; decide))).trans (hrr3_0 b kb)
                            have hrr3_3 : ∀ b, kd b = 3 → fldR (f_141 b) 3 = fldR (f b) 3 := fun b kb => (congrArg (fun x => fldR x 3) (hkc_142 b (by rw [kb]; decide) (by rw [kb]; decide) (by rw [kb]; decide) (by rw [kb]; decide))).trans (hrr3_3 b kb)
                            have hT0 : drel kd 1 521 522 f_141 a_5 := hT0.keep (fun b q => congrArg (fun x => fldI x 5) (hkc_142 b (by rw [q]; decide) (by rw [q]; decide) (by rw [q]; decide) (by rw [q]; decide))) (fun b q => congrArg (fun x => fldR x 0) (hkc_142 b (by rw [q]; decide) (by rw [q]; decide) (by rw [q]; decide) (by rw [q]; decide))) (fun b q => congrArg (fun x => fldR x 1) (hkc_142 b (by rw [q]; decide) (by rw [q]; decide) (by rw [q]; decide) (by rw [q]; decide))) (fun b q => hkc_142 b (by rw [q]; decide) (by rw [q]; decide) (by rw [q]; decide) (by rw [q]; decide)) (fun b q => hkc_142 b (by rw [q]; decide) (by rw [q]; decide) (by rw [q]; decide) (by rw [q]; decide))
                            refine tk_ViP (As := [.int x_140]) (rest := []) (n := 1) hx hb hml hown hU hN hZ (s_X3_isLeft_k3 l (dC, dI) cI cL cZ cR cG cH Z kd L f_141 hG o0 mo0 ko0 x_140) wd_806 wd_807 wd_808 wd_16 wd_809 (by decide +kernel) ⟨Nat.le_of_ble_eq_true rfl, Nat.le_of_ble_eq_true rfl⟩ hK hP hD hS mo0 hfo_144 3 rfl rfl rfl hl.1 rfl (Nat.le_of_ble_eq_true rfl) dX3_descend_250 ⟨Nat.le_of_ble_eq_true rfl, Nat.le_of_ble_eq_true rfl⟩ (fun x_147 f_148 H locs hw hP hD hS => ?_)
                            obtain ⟨rfl, bx_147⟩ := hw
                            refine lv_if_eq (tgt := 259) hx hb dX3_descend_253 (by decide) (fun c_150 => ?_) (fun c_150 => ?_)
                            · skip
                              rw [← Int32.toInt_inj, ti_0] at c_150
                              refine lv_aload_n hx hb dX3_descend_259 rfl (lv_at hl 9 rfl) ?_
                              refine tk_getP (D := (dC, dI)) (ci := 3) (v := .ref a_106) (C := RX3) (T := TX3) (N := 18) hx hb hU inlX3 hown hK hP mo0 hfo_144 rfl 12 (by decide) (hU _ wd_63) (fun _ h9 => h9) rfl dX3_descend_260 ?_
                              refine lv_iload_n hx hb dX3_descend_263 rfl (lv_at hl 10 rfl) ?_
                              refine lv_iload hx hb dX3_descend_264 (lv_at hl 2 rfl) ?_
                              obtain ⟨g_152, hfo_151, hbg_152⟩ := un_525 (hG _ ma_106) ka_106
                              refine tk_istP hx hb hK hP hD hS 0 ma_106 hfo_151 rfl (vp_in_nI (n := 0) (by decide) (by decide)) dX3_descend_266 (fun H locs hP hD hS => ?_)
                              obtain ⟨f_154, ef_154⟩ : ∃ y : Nat → va_E, y = va_up f_141 a_106 (.inl (cI, 9, .inl (upd g_152 (Int32.toNatClampNeg 0) x_120))) := ⟨_, rfl⟩
                              have hP : va_P (dC, dI) vwCl (va_pl L f_154) H := by rw [ef_154]; exact hP
                              have hD : va_D (fun q => q ∈ L) (va_pl L f_154) := by rw [ef_154]; exact hD
                              have hG : GI (okc cI cL cZ cR cG cH L kd) kd L f_154 := by rw [ef_154]; exact hG.set a_106 (mk_525 ka_106 ⟨_, rfl, okI_up hbg_152 (by constructor <;> omega) _⟩)
                              have hfo_155 : f_154 o0 = .inr (3, [.ref a_2, .ref a_95, .ref a_96, .ref a_5, .ref a_98, .int v_99, .int v_100, .int v_101, .int v_102, .int v_103, .int v_104, .int v_105, .ref a_106, .ref a_107, .ref a_108, .int v_109, .ref a_110, .ref a_111]) := by rw [ef_154, up_ne (kd_ne ka_106 ko0 (by decide))]; exact hfo_144
                              have hfo_156 : f_154 a_95 = .inr (10, [.ref a_113, .int v_114, .int v_115]) := by rw [ef_154, up_ne (kd_ne ka_106 ka_95 (by decide))]; exact hfo_145
                              have hfo_157 : f_154 a_96 = .inr (8, [.ref a_135, .ref a_136, .ref a_137, .ref a_138, .ref a_139]) := by rw [ef_154, up_ne (kd_ne ka_106 ka_96 (by decide))]; exact hfo_146
                              have hfr0 : ∀ b, kd b ≠ 1 → kd b ≠ 3 → kd b ≠ 10 → kd b ≠ 517 → kd b ≠ 518 → kd b ≠ 519 → kd b ≠ 520 → kd b ≠ 521 → kd b ≠ 522 → kd b ≠ 523 → kd b ≠ 524 → kd b ≠ 525 → kd b ≠ 526 → kd b ≠ 527 → f_154 b = f b := fun b q1 q3 q10 q517 q518 q519 q520 q521 q522 q523 q524 q525 q526 q527 => (congrFun ef_154 b).trans ((up_ne (fun e9 => q525 (by rw [e9]; exact ka_106))).trans (hfr0 b q1 q3 q10 q517 q518 q519 q520 q521 q522 q523 q524 q525 q526 q527))
                              have hrr1_0 : ∀ b, kd b = 1 → fldR (f_154 b) 0 = fldR (f b) 0 := fun b kb => (congrArg (fun x => fldR x 0) ((congrFun ef_154 b).trans (up_ne (kd_ne ka_106 kb (by decide))))).trans (hrr1_0 b kb)
                              have hrr1_1 : ∀ b, kd b = 1 → fldR (f_154 b) 1 = fldR (f b) 1 := fun b kb => (congrArg (fun x => fldR x 1) ((congrFun ef_154 b).trans (up_ne (kd_ne ka_106 kb (by decide))))).trans (hrr1_1 b kb)
                              have hrr3_0 : ∀ b, kd b = 3 → fldR (f_154 b) 0 = fldR (f b) 0 := fun b kb => (congrArg (fun x => fldR x 0) ((congrFun ef_154 b).trans (up_ne (kd_ne ka_106 kb (by decide))))).trans (hrr3_0 b kb)
                              have hrr3_3 : ∀ b, kd b = 3 → fldR (f_154 b) 3 = fldR (f b) 3 := fun b kb => (congrArg (fun x => fldR x 3) ((congrFun ef_154 b).trans (up_ne (kd_ne ka_106 kb (by decide))))).trans (hrr3_3 b kb)
                              have hT0 : drel kd 1 521 522 f_154 a_5 := by rw [ef_154]; exact hT0.up ka_106 (by decide) (by decide) (by decide)
                              have hfo_158 : f_154 a_106 = .inl (cI, 9, .inl (upd g_152 (Int32.toNatClampNeg 0) x_120)) := by rw [ef_154]; exact up_self
                              refine lv_iload hx hb dX3_descend_267 (lv_at hl 3 rfl) ?_
                              have hcut_160 : ∀ (y_159 : Int32), (0 ≤ y_159.toInt ∧ y_159.toInt ≤ 8) → ∀ (ls : Array Slot), lv_has ls 18 [(14, .int y_131), (13, .int y_129), (12, .int x_120), (11, .int y_117), (10, .int y_67), (9, .int 8), (8, .int y_68), (7, .int x_23), (6, .int y_20), (0, .ref o0), (1, .int 0), (2, .int p2), (3, .int p3), (4, .int p4), (5, .int p5)] → W p l e (headSpec (wU yX3_descend cX3_descend 18 (some .boolean)) { frames := 12, cells := 0, slots := 0, locals := 420 }).room s m [.ref o0, .int 0, .int p2, .int p3, .int p4, .int p5].toArray below meth c H locs 0 0 (MQ below (va_Qi (fun (r : Int32) (f9 : Nat → va_E) => GI (okc cI cL cZ cR cG cH L kd) kd L f9 ∧ (0 ≤ r.toInt ∧ r.toInt ≤ 1) ∧ (∀ b, kd b ≠ 1 → kd b ≠ 3 → kd b ≠ 10 → kd b ≠ 517 → kd b ≠ 518 → kd b ≠ 519 → kd b ≠ 520 → kd b ≠ 521 → kd b ≠ 522 → kd b ≠ 523 → kd b ≠ 524 → kd b ≠ 525 → kd b ≠ 526 → kd b ≠ 527 → f9 b = f b) ∧ (∀ b, kd b = 1 → fldR (f9 b) 0 = fldR (f b) 0) ∧ (∀ b, kd b = 1 → fldR (f9 b) 1 = fldR (f b) 1) ∧ (∀ b, kd b = 3 → fldR (f9 b) 0 = fldR (f b) 0) ∧ (∀ b, kd b = 3 → fldR (f9 b) 3 = fldR (f b) 3) ∧ (∀ d9, fldR (f9 o0) 3 = some d9 → drel kd 1 521 522 f9 d9)) (qP (dC, dI) cI cL cZ cR cG cH L) (fun q => q ∈ L)) [.ref o0, .int 0, .int p2, .int p3, .int p4, .int p5].toArray s 0 0 (fun q => q ∈ L)) (F0 m 279 ls [.int y_159]) := by
                                intro y_159 by_159 ls hl
                                refine lv_istore (lv' := [(15, .int y_159), (14, .int y_131), (13, .int y_129), (12, .int x_120), (11, .int y_117), (10, .int y_67), (9, .int 8), (8, .int y_68), (7, .int x_23), (6, .int y_20), (0, .ref o0), (1, .int 0), (2, .int p2), (3, .int p3), (4, .int p4), (5, .int p5)]) hx hb dX3_descend_279 hl (by decide) rfl (fun ls hl => ?_)
                                refine lv_iload hx hb dX3_descend_281 (lv_at hl 2 rfl) ?_
                                have hcut_162 : ∀ (y_161 : Int32), (0 ≤ y_161.toInt ∧ y_161.toInt ≤ 731794256) → ((y_129.toInt = 0 ∧ y_161.toInt = p4.toInt) ∨ (1 ≤ y_129.toInt ∧ capR y_161.toInt (p5.toInt + 1))) → ∀ (ls : Array Slot), lv_has ls 18 [(15, .int y_159), (14, .int y_131), (13, .int y_129), (12, .int x_120), (11, .int y_117), (10, .int y_67), (9, .int 8), (8, .int y_68), (7, .int x_23), (6, .int y_20), (0, .ref o0), (1, .int 0), (2, .int p2), (3, .int p3), (4, .int p4), (5, .int p5)] → W p l e (headSpec (wU yX3_descend cX3_descend 18 (some .boolean)) { frames := 12, cells := 0, slots := 0, locals := 420 }).room s m [.ref o0, .int 0, .int p2, .int p3, .int p4, .int p5].toArray below meth c H locs 0 0 (MQ below (va_Qi (fun (r : Int32) (f9 : Nat → va_E) => GI (okc cI cL cZ cR cG cH L kd) kd L f9 ∧ (0 ≤ r.toInt ∧ r.toInt ≤ 1) ∧ (∀ b, kd b ≠ 1 → kd b ≠ 3 → kd b ≠ 10 → kd b ≠ 517 → kd b ≠ 518 → kd b ≠ 519 → kd b ≠ 520 → kd b ≠ 521 → kd b ≠ 522 → kd b ≠ 523 → kd b ≠ 524 → kd b ≠ 525 → kd b ≠ 526 → kd b ≠ 527 → f9 b = f b) ∧ (∀ b, kd b = 1 → fldR (f9 b) 0 = fldR (f b) 0) ∧ (∀ b, kd b = 1 → fldR (f9 b) 1 = fldR (f b) 1) ∧ (∀ b, kd b = 3 → fldR (f9 b) 0 = fldR (f b) 0) ∧ (∀ b, kd b = 3 → fldR (f9 b) 3 = fldR (f b) 3) ∧ (∀ d9, fldR (f9 o0) 3 = some d9 → drel kd 1 521 522 f9 d9)) (qP (dC, dI) cI cL cZ cR cG cH L) (fun q => q ∈ L)) [.ref o0, .int 0, .int p2, .int p3, .int p4, .int p5].toArray s 0 0 (fun q => q ∈ L)) (F0 m 303 ls [.int y_161]) := by
                                  intro y_161 by_161 hjhcut_162_0 ls hl
                                  refine lv_istore (lv' := [(16, .int y_161), (15, .int y_159), (14, .int y_131), (13, .int y_129), (12, .int x_120), (11, .int y_117), (10, .int y_67), (9, .int 8), (8, .int y_68), (7, .int x_23), (6, .int y_20), (0, .ref o0), (1, .int 0), (2, .int p2), (3, .int p3), (4, .int p4), (5, .int p5)]) hx hb dX3_descend_303 hl (by decide) rfl (fun ls hl => ?_)
                                  refine lv_iload hx hb dX3_descend_305 (lv_at hl 3 rfl) ?_
                                  have hcut_164 : ∀ (y_163 : Int32), (0 ≤ y_163.toInt ∧ y_163.toInt ≤ 1) → ((y_129.toInt = 0 ∧ y_163.toInt = p5.toInt) ∨ (1 ≤ y_129.toInt ∧ y_163.toInt = p5.toInt + 1)) → ∀ (ls : Array Slot), lv_has ls 18 [(16, .int y_161), (15, .int y_159), (14, .int y_131), (13, .int y_129), (12, .int x_120), (11, .int y_117), (10, .int y_67), (9, .int 8), (8, .int y_68), (7, .int x_23), (6, .int y_20), (0, .ref o0), (1, .int 0), (2, .int p2), (3, .int p3), (4, .int p4), (5, .int p5)] → W p l e (headSpec (wU yX3_descend cX3_descend 18 (some .boolean)) { frames := 12, cells := 0, slots := 0, locals := 420 }).room s m [.ref o0, .int 0, .int p2, .int p3, .int p4, .int p5].toArray below meth c H locs 0 0 (MQ below (va_Qi (fun (r : Int32) (f9 : Nat → va_E) => GI (okc cI cL cZ cR cG cH L kd) kd L f9 ∧ (0 ≤ r.toInt ∧ r.toInt ≤ 1) ∧ (∀ b, kd b ≠ 1 → kd b ≠ 3 → kd b ≠ 10 → kd b ≠ 517 → kd b ≠ 518 → kd b ≠ 519 → kd b ≠ 520 → kd b ≠ 521 → kd b ≠ 522 → kd b ≠ 523 → kd b ≠ 524 → kd b ≠ 525 → kd b ≠ 526 → kd b ≠ 527 → f9 b = f b) ∧ (∀ b, kd b = 1 → fldR (f9 b) 0 = fldR (f b) 0) ∧ (∀ b, kd b = 1 → fldR (f9 b) 1 = fldR (f b) 1) ∧ (∀ b, kd b = 3 → fldR (f9 b) 0 = fldR (f b) 0) ∧ (∀ b, kd b = 3 → fldR (f9 b) 3 = fldR (f b) 3) ∧ (∀ d9, fldR (f9 o0) 3 = some d9 → drel kd 1 521 522 f9 d9)) (qP (dC, dI) cI cL cZ cR cG cH L) (fun q => q ∈ L)) [.ref o0, .int 0, .int p2, .int p3, .int p4, .int p5].toArray s 0 0 (fun q => q ∈ L)) (F0 m 319 ls [.int y_163]) := by
                                    intro y_163 by_163 hjhcut_164_0 ls hl
                                    refine lv_istore (lv' := [(17, .int y_163), (16, .int y_161), (15, .int y_159), (14, .int y_131), (13, .int y_129), (12, .int x_120), (11, .int y_117), (10, .int y_67), (9, .int 8), (8, .int y_68), (7, .int x_23), (6, .int y_20), (0, .ref o0), (1, .int 0), (2, .int p2), (3, .int p3), (4, .int p4), (5, .int p5)]) hx hb dX3_descend_319 hl (by decide) rfl (fun ls hl => ?_)
                                    refine lv_iload hx hb dX3_descend_321 (lv_at hl 9 rfl) ?_
                                    refine lv_aload_n hx hb dX3_descend_323 rfl (lv_at hl 12 rfl) ?_
                                    refine lv_iload_n hx hb dX3_descend_324 rfl (lv_at hl 13 rfl) ?_
                                    refine lv_iconst (v := 1) hx hb dX3_descend_325 (by decide) ?_
                                    refine lv_iadd hx hb dX3_descend_326 ?_
                                    refine tk_topi (y := 1) (by decide) ?_
                                    refine lv_iload hx hb dX3_descend_327 (lv_at hl 2 rfl) ?_
                                    refine lv_iload_n hx hb dX3_descend_329 rfl (lv_at hl 15 rfl) ?_
                                    refine lv_iload hx hb dX3_descend_330 (lv_at hl 3 rfl) ?_
                                    refine lv_isub hx hb dX3_descend_332 ?_
                                    refine lv_topi (fun x_165 ex_165 => ?_)
                                    have hx_165 : x_165.toInt = p3.toInt - y_131.toInt := by rw [ex_165, sb_I (by omega) (by omega)]
                                    have bx_165 : ((-1) ≤ x_165.toInt ∧ x_165.toInt ≤ 2147483647) := by constructor <;> omega
                                    refine lv_iload hx hb dX3_descend_333 (lv_at hl 1 rfl) ?_
                                    refine lv_iload hx hb dX3_descend_335 (lv_at hl 0 rfl) ?_
                                    have hccc_166 : (0 ≤ y_161.toInt ∧ y_161.toInt ≤ 387420488) := by have hq9 := hjhcut_162_0; unfold capR at hq9; constructor <;> omega
                                    refine tk_ViP (As := [.int 1, .int y_159, .int x_165, .int y_161, .int y_163]) (rest := [.int y_68]) (n := 5) hx hb hml hown hU hN hZ (s_X3_descend_k3_c1 l (dC, dI) cI cL cZ cR cG cH Z kd L f_154 hG o0 mo0 ko0 y_159 (by constructor <;> omega) x_165 y_161 (by constructor <;> omega) y_163 (by constructor <;> omega) (fun d9 h9 => by rw [hfo_155] at h9; obtain rfl := Option.some.inj h9; exact hT0) (by rcases hjhcut_162_0 with ⟨q1, q2⟩ | ⟨q1, q2⟩ <;> rcases hjhcut_164_0 with ⟨q3, q4⟩ | ⟨q3, q4⟩ <;> first | (exfalso; omega) | (rw [q2, q4]; exact hxpre0) | (rw [q4]; exact q2))) wd_762 wd_763 wd_764 wd_16 wd_765 (by decide +kernel) ⟨Nat.le_of_ble_eq_true rfl, Nat.le_of_ble_eq_true rfl⟩ hK hP hD hS mo0 hfo_155 3 rfl rfl rfl hl.1 rfl (Nat.le_of_ble_eq_true rfl) dX3_descend_337 ⟨Nat.le_of_ble_eq_true rfl, Nat.le_of_ble_eq_true rfl⟩ (fun x_167 f_168 H locs hw hP hD hS => ?_)
                                    obtain ⟨hG, bx_167, hkc_169, hrc_170, hrc_171, hrc_172, hrc_173, hTc_174⟩ := hw
                                    have hfo_176 : f_168 a_96 = .inr (8, [.ref a_135, .ref a_136, .ref a_137, .ref a_138, .ref a_139]) := by rw [hkc_169 a_96 (by rw [ka_96]; decide) (by rw [ka_96]; decide) (by rw [ka_96]; decide) (by rw [ka_96]; decide) (by rw [ka_96]; decide) (by rw [ka_96]; decide) (by rw [ka_96]; decide) (by rw [ka_96]; decide) (by rw [ka_96]; decide) (by rw [ka_96]; decide) (by rw [ka_96]; decide) (by rw [ka_96]; decide) (by rw [ka_96]; decide) (by rw [ka_96]; decide)]; exact hfo_157
                                    have hfr0 : ∀ b, kd b ≠ 1 → kd b ≠ 3 → kd b ≠ 10 → kd b ≠ 517 → kd b ≠ 518 → kd b ≠ 519 → kd b ≠ 520 → kd b ≠ 521 → kd b ≠ 522 → kd b ≠ 523 → kd b ≠ 524 → kd b ≠ 525 → kd b ≠ 526 → kd b ≠ 527 → f_168 b = f b := fun b q1 q3 q10 q517 q518 q519 q520 q521 q522 q523 q524 q525 q526 q527 => (hkc_169 b q1 q3 q10 q517 q518 q519 q520 q521 q522 q523 q524 q525 q526 q527).trans (hfr0 b q1 q3 q10 q517 q518 q519 q520 q521 q522 q523 q524 q525 q526 q527)
                                    have hrr1_0 : ∀ b, kd b = 1 → fldR (f_168 b) 0 = fldR (f b) 0 := fun b kb => (hrc_170 b kb).trans (hrr1_0 b kb)
                                    have hrr1_1 : ∀ b, kd b = 1 → fldR (f_168 b) 1 = fldR (f b) 1 := fun b kb => (hrc_171 b kb).trans (hrr1_1 b kb)
                                    have hrr3_0 : ∀ b, kd b = 3 → fldR (f_168 b) 0 = fldR (f b) 0 := fun b kb => (hrc_172 b kb).trans (hrr3_0 b kb)
                                    have hrr3_3 : ∀ b, kd b = 3 → fldR (f_168 b) 3 = fldR (f b) 3 := fun b kb => (hrc_173 b kb).trans (hrr3_3 b kb)
                                    obtain ⟨a_178, a_179, a_180, a_181, a_182, v_183, v_184, v_185, v_186, v_187, v_188, v_189, a_190, a_191, a_192, v_193, a_194, a_195, hfo_177, ⟨ma_178, ka_178⟩, ⟨ma_179, ka_179⟩, ⟨ma_180, ka_180⟩, ⟨ma_181, ka_181⟩, ⟨ma_182, ka_182⟩, bv_183, bv_184, bv_185, ⟨ma_190, ka_190⟩, ⟨ma_191, ka_191⟩, ⟨ma_192, ka_192⟩, bv_193, ⟨ma_194, ka_194⟩, ⟨ma_195, ka_195⟩⟩ := un_3 (hG _ mo0) ko0
                                    have bv_186 : ((-2147483648) ≤ v_186.toInt ∧ v_186.toInt ≤ 2147483647) := ⟨i32_lo _, i32_hi _⟩
                                    have bv_187 : ((-2147483648) ≤ v_187.toInt ∧ v_187.toInt ≤ 2147483647) := ⟨i32_lo _, i32_hi _⟩
                                    have bv_188 : ((-2147483648) ≤ v_188.toInt ∧ v_188.toInt ≤ 2147483647) := ⟨i32_lo _, i32_hi _⟩
                                    have bv_189 : ((-2147483648) ≤ v_189.toInt ∧ v_189.toInt ≤ 2147483647) := ⟨i32_lo _, i32_hi _⟩
                                    obtain rfl : a_2 = a_178 := by have hk9 := hrr3_0 o0 ko0; rw [hfo_177, hfo_1] at hk9; exact (Option.some.inj hk9).symm
                                    obtain rfl : a_5 = a_181 := by have hk9 := hrr3_3 o0 ko0; rw [hfo_177, hfo_1] at hk9; exact (Option.some.inj hk9).symm
                                    have hT_196 := hTc_174 a_5 (by rw [hfo_177]; rfl)
                                    refine lv_ior hx hb dX3_descend_340 ?_
                                    refine lv_topi (fun x_197 ex_197 => ?_)
                                    have bx_197 : (0 ≤ x_197.toInt ∧ x_197.toInt ≤ 1) := by rw [ex_197]; exact or_K 1 (by decide) (by constructor <;> omega) (by constructor <;> omega)
                                    refine lv_istore (lv' := [(8, .int x_197), (17, .int y_163), (16, .int y_161), (15, .int y_159), (14, .int y_131), (13, .int y_129), (12, .int x_120), (11, .int y_117), (10, .int y_67), (9, .int 8), (7, .int x_23), (6, .int y_20), (0, .ref o0), (1, .int 0), (2, .int p2), (3, .int p3), (4, .int p4), (5, .int p5)]) hx hb dX3_descend_341 hl (by decide) rfl (fun ls hl => ?_)
                                    exact hcut_126 x_197 (by constructor <;> omega) f_168 hG _ _ hP hS hD hfr0 hrr1_0 hrr1_1 hrr3_0 hrr3_3 hT_196 ls (lv_sub hl [6, 7, 8, 9, 0, 10, 11, 12, 13, 14, 15, 16, 17] rfl)
                                  refine lv_if_ne (tgt := 315) hx hb dX3_descend_307 (by decide) (fun c_198 => ?_) (fun c_198 => ?_)
                                  · skip
                                    rw [← Int32.toInt_inj, ti_0] at c_198
                                    refine lv_iload hx hb dX3_descend_315 (lv_at hl 16 rfl) ?_
                                    refine lv_iconst (v := 1) hx hb dX3_descend_317 (by decide) ?_
                                    refine lv_iadd hx hb dX3_descend_318 ?_
                                    refine lv_topi (fun x_199 ex_199 => ?_)
                                    have hx_199 : x_199.toInt = p5.toInt + 1 := by rw [ex_199, ad_I (by rw [ti_1]; omega) (by rw [ti_1]; omega), ti_1]
                                    have bx_199 : (1 ≤ x_199.toInt ∧ x_199.toInt ≤ 1) := by constructor <;> omega
                                    exact hcut_164 x_199 (by constructor <;> omega) (by (try rw [ti_8]) <;> (try rw [ti_0]) <;> omega) ls (lv_sub hl [0, 1, 2, 3, 4, 5, 6, 7, 8, 9, 10, 11, 12, 13, 14, 15, 16] rfl)
                                  · skip
                                    rw [← Int32.toInt_inj, ti_0] at c_198
                                    refine lv_iload hx hb dX3_descend_310 (lv_at hl 16 rfl) ?_
                                    refine lv_goto (tgt := 319) hx hb dX3_descend_312 (by decide) ?_
                                    exact hcut_164 p5 (by constructor <;> omega) (by (try rw [ti_8]) <;> (try rw [ti_0]) <;> omega) ls (lv_sub hl [0, 1, 2, 3, 4, 5, 6, 7, 8, 9, 10, 11, 12, 13, 14, 15, 16] rfl)
                                refine lv_if_ne (tgt := 291) hx hb dX3_descend_283 (by decide) (fun c_200 => ?_) (fun c_200 => ?_)
                                · skip
                                  rw [← Int32.toInt_inj, ti_0] at c_200
                                  refine lv_iload hx hb dX3_descend_291 (lv_at hl 14 rfl) ?_
                                  refine lv_iload hx hb dX3_descend_293 (lv_at hl 2 rfl) ?_
                                  refine va_gets hx hb hZ.2.2.1 hS hown (hU _ wd_769) (fun _ h9 => h9) dX3_descend_295 ?_
                                  refine lv_iload hx hb dX3_descend_298 (lv_at hl 15 rfl) ?_
                                  refine va_ti (v := zWt (Int32.toNatClampNeg p5)) hx hb hZ.2.2.2.1 hS (vp_in_iff.mpr (by constructor <;> omega)) rfl dX3_descend_300 ?_
                                  rw [zWt]
                                  refine lv_topi (fun x_201 ex_201 => ?_)
                                  have bx_201 : (1 ≤ x_201.toInt ∧ x_201.toInt ≤ 43046721) := by rw [ex_201]; exact zw_b (vp_in_iff.mpr (by constructor <;> omega))
                                  have htx_201 := zw_t ex_201 (vp_in_iff.mpr (by constructor <;> omega))
                                  refine lv_imul hx hb dX3_descend_301 ?_
                                  refine lv_topi (fun x_202 ex_202 => ?_)
                                  have bx_202 : (0 ≤ x_202.toInt ∧ x_202.toInt ≤ 344373768) := by rw [ex_202]; exact ml_B (a := 8) (b := 43046721) (by constructor <;> omega) (by constructor <;> omega) (by decide)
                                  have hm8 : 0 ≤ x_202.toInt ∧ x_202.toInt ≤ 8 * x_201.toInt := by rw [ex_202]; exact ml_8 (by constructor <;> omega) (by constructor <;> omega)
                                  have hcw : ∀ z : Int, z ≤ p4.toInt + x_202.toInt → capR z (p5.toInt + 1) := fun z hz => hxpre0.step htx_201 (by omega)
                                  clear htx_201
                                  refine lv_iadd hx hb dX3_descend_302 ?_
                                  refine lv_topi (fun x_203 ex_203 => ?_)
                                  have hx_203 : x_203.toInt = p4.toInt + x_202.toInt := by rw [ex_203, ad_I (by omega) (by omega)]
                                  have bx_203 : (0 ≤ x_203.toInt ∧ x_203.toInt ≤ 731794256) := by constructor <;> omega
                                  exact hcut_162 x_203 (by constructor <;> omega) (Or.inr ⟨by omega, hcw _ (by omega)⟩) ls (lv_sub hl [0, 1, 2, 3, 4, 5, 6, 7, 8, 9, 10, 11, 12, 13, 14, 15] rfl)
                                · skip
                                  rw [← Int32.toInt_inj, ti_0] at c_200
                                  refine lv_iload hx hb dX3_descend_286 (lv_at hl 14 rfl) ?_
                                  refine lv_goto (tgt := 303) hx hb dX3_descend_288 (by decide) ?_
                                  exact hcut_162 p4 (by constructor <;> omega) (Or.inl ⟨by omega, rfl⟩) ls (lv_sub hl [0, 1, 2, 3, 4, 5, 6, 7, 8, 9, 10, 11, 12, 13, 14, 15] rfl)
                              refine lv_if_ne (tgt := 276) hx hb dX3_descend_269 (by decide) (fun c_204 => ?_) (fun c_204 => ?_)
                              · skip
                                rw [← Int32.toInt_inj, ti_0] at c_204
                                refine lv_iload_n hx hb dX3_descend_276 rfl (lv_at hl 11 rfl) ?_
                                refine lv_iconst (v := 1) hx hb dX3_descend_277 (by decide) ?_
                                refine lv_iadd hx hb dX3_descend_278 ?_
                                refine lv_topi (fun x_205 ex_205 => ?_)
                                have hx_205 : x_205.toInt = p2.toInt + 1 := by rw [ex_205, ad_I (by rw [ti_1]; omega) (by rw [ti_1]; omega), ti_1]
                                have bx_205 : (1 ≤ x_205.toInt ∧ x_205.toInt ≤ 9) := by constructor <;> omega
                                exact hcut_160 x_205 (by constructor <;> omega) ls (lv_sub hl [0, 1, 2, 3, 4, 5, 6, 7, 8, 9, 10, 11, 12, 13, 14] rfl)
                              · skip
                                rw [← Int32.toInt_inj, ti_0] at c_204
                                refine lv_iload_n hx hb dX3_descend_272 rfl (lv_at hl 11 rfl) ?_
                                refine lv_goto (tgt := 279) hx hb dX3_descend_273 (by decide) ?_
                                exact hcut_160 p2 (by constructor <;> omega) ls (lv_sub hl [0, 1, 2, 3, 4, 5, 6, 7, 8, 9, 10, 11, 12, 13, 14] rfl)
                            · skip
                              rw [← Int32.toInt_inj, ti_0] at c_150
                              refine lv_goto (tgt := 343) hx hb dX3_descend_256 (by decide) ?_
                              exact hcut_126 y_68 (by constructor <;> omega) f_141 hG _ _ hP hS hD hfr0 hrr1_0 hrr1_1 hrr3_0 hrr3_3 hT0 ls (lv_sub hl [2, 3, 4, 5, 6, 7, 8, 9, 10, 11, 12, 13, 14] rfl)
                        refine lv_if_eq (tgt := 218) hx hb dX3_descend_210 (by decide) (fun c_206 => ?_) (fun c_206 => ?_)
                        · skip
                          rw [← Int32.toInt_inj, ti_0] at c_206
                          refine lv_iconst (v := 1) hx hb dX3_descend_218 (by decide) ?_
                          refine lv_goto (tgt := 223) hx hb dX3_descend_219 (by decide) ?_
                          exact hcut_132 1 (by decide) ls (lv_sub hl [0, 1, 2, 3, 4, 5, 6, 7, 8, 9, 10, 11, 12, 13] rfl)
                        · skip
                          rw [← Int32.toInt_inj, ti_0] at c_206
                          refine lv_iload hx hb dX3_descend_213 (lv_at hl 0 rfl) ?_
                          refine lv_if_ne (tgt := 222) hx hb dX3_descend_215 (by decide) (fun c_207 => ?_) (fun c_207 => ?_)
                          · skip
                            rw [← Int32.toInt_inj, ti_0] at c_207
                            refine lv_iconst (v := 0) hx hb dX3_descend_222 (by decide) ?_
                            exact hcut_132 0 (by decide) ls (lv_sub hl [0, 1, 2, 3, 4, 5, 6, 7, 8, 9, 10, 11, 12, 13] rfl)
                          · skip
                            rw [← Int32.toInt_inj, ti_0] at c_207
                            refine lv_iconst (v := 1) hx hb dX3_descend_218 (by decide) ?_
                            refine lv_goto (tgt := 223) hx hb dX3_descend_219 (by decide) ?_
                            exact hcut_132 1 (by decide) ls (lv_sub hl [0, 1, 2, 3, 4, 5, 6, 7, 8, 9, 10, 11, 12, 13] rfl)
                      refine lv_if_eq (tgt := 196) hx hb dX3_descend_180 (by decide) (fun c_208 => ?_) (fun c_208 => ?_)
                      · skip
                        rw [← Int32.toInt_inj, ti_0] at c_208
                        refine lv_aload_n hx hb dX3_descend_196 rfl (lv_at hl 7 rfl) ?_
                        refine tk_getP (D := (dC, dI)) (ci := 3) (v := .ref a_2) (C := RX3) (T := TX3) (N := 18) hx hb hU inlX3 hown hK hP mo0 hfo_93 rfl 0 (by decide) (hU _ wd_48) (fun _ h9 => h9) rfl dX3_descend_197 ?_
                        obtain ⟨a_210, v_211, a_212, a_213, a_214, a_215, v_216, a_217, a_218, a_219, a_220, a_221, v_222, a_223, a_224, a_225, hfo_209, ⟨ma_210, ka_210⟩, bv_211, ⟨ma_212, ka_212⟩, ⟨ma_213, ka_213⟩, ⟨ma_214, ka_214⟩, ⟨ma_215, ka_215⟩, bv_216, ⟨ma_217, ka_217⟩, ⟨ma_218, ka_218⟩, ⟨ma_219, ka_219⟩, ⟨ma_220, ka_220⟩, ⟨ma_221, ka_221⟩, bv_222, ⟨ma_223, ka_223⟩, ⟨ma_224, ka_224⟩, ⟨ma_225, ka_225⟩⟩ := un_7 (hG _ ma_2) ka_2
                        refine tk_getP (D := (dC, dI)) (ci := 7) (v := .ref a_214) (C := RX7) (T := TX7) (N := 16) hx hb hU inlX7 hown hK hP ma_2 hfo_209 rfl 4 (by decide) (hU _ wd_768) (fun _ h9 => h9) rfl dX3_descend_200 ?_
                        refine lv_iload hx hb dX3_descend_203 (lv_at hl 0 rfl) ?_
                        obtain ⟨g_227, hfo_226, hbg_227⟩ := un_511 (hG _ ma_214) ka_214
                        refine tk_ildP hx hb hK hP 0 ma_214 hfo_226 rfl (vp_in_iff.mpr (by constructor <;> omega)) dX3_descend_205 ?_
                        refine lv_topi (fun x_228 ex_228 => ?_)
                        have bx_228 : (0 ≤ x_228.toInt ∧ x_228.toInt ≤ 8) := by rw [ex_228]; exact hbg_227 _
                        exact hcut_130 x_228 (by constructor <;> omega) ls (lv_sub hl [0, 1, 2, 3, 4, 5, 6, 7, 8, 9, 10, 11, 12] rfl)
                      · skip
                        rw [← Int32.toInt_inj, ti_0] at c_208
                        refine lv_aload_n hx hb dX3_descend_183 rfl (lv_at hl 7 rfl) ?_
                        refine tk_getP (D := (dC, dI)) (ci := 3) (v := .ref a_2) (C := RX3) (T := TX3) (N := 18) hx hb hU inlX3 hown hK hP mo0 hfo_93 rfl 0 (by decide) (hU _ wd_48) (fun _ h9 => h9) rfl dX3_descend_184 ?_
                        obtain ⟨a_230, v_231, a_232, a_233, a_234, a_235, v_236, a_237, a_238, a_239, a_240, a_241, v_242, a_243, a_244, a_245, hfo_229, ⟨ma_230, ka_230⟩, bv_231, ⟨ma_232, ka_232⟩, ⟨ma_233, ka_233⟩, ⟨ma_234, ka_234⟩, ⟨ma_235, ka_235⟩, bv_236, ⟨ma_237, ka_237⟩, ⟨ma_238, ka_238⟩, ⟨ma_239, ka_239⟩, ⟨ma_240, ka_240⟩, ⟨ma_241, ka_241⟩, bv_242, ⟨ma_243, ka_243⟩, ⟨ma_244, ka_244⟩, ⟨ma_245, ka_245⟩⟩ := un_7 (hG _ ma_2) ka_2
                        refine tk_getP (D := (dC, dI)) (ci := 7) (v := .ref a_235) (C := RX7) (T := TX7) (N := 16) hx hb hU inlX7 hown hK hP ma_2 hfo_229 rfl 5 (by decide) (hU _ wd_767) (fun _ h9 => h9) rfl dX3_descend_187 ?_
                        refine lv_iload hx hb dX3_descend_190 (lv_at hl 0 rfl) ?_
                        obtain ⟨g_247, hfo_246, hbg_247⟩ := un_511 (hG _ ma_235) ka_235
                        refine tk_ildP hx hb hK hP 0 ma_235 hfo_246 rfl (vp_in_iff.mpr (by constructor <;> omega)) dX3_descend_192 ?_
                        refine lv_topi (fun x_248 ex_248 => ?_)
                        have bx_248 : (0 ≤ x_248.toInt ∧ x_248.toInt ≤ 8) := by rw [ex_248]; exact hbg_247 _
                        refine lv_goto (tgt := 206) hx hb dX3_descend_193 (by decide) ?_
                        exact hcut_130 x_248 (by constructor <;> omega) ls (lv_sub hl [0, 1, 2, 3, 4, 5, 6, 7, 8, 9, 10, 11, 12] rfl)
                    · skip
                      rw [← Int32.toInt_inj, ti_m1] at c_128
                      refine lv_goto (tgt := 343) hx hb dX3_descend_173 (by decide) ?_
                      exact hcut_126 y_68 (by constructor <;> omega) f_70 hG _ _ hP hS hD hfr0 hrr1_0 hrr1_1 hrr3_0 hrr3_3 hT0 ls (lv_sub hl [0, 1, 2, 3, 4, 5, 6, 7, 8, 9, 10, 11, 12] rfl)
                  refine lv_icmp_ge (tgt := 152) hx hb dX3_descend_140 (by decide) (fun c_249 => ?_) (fun c_249 => ?_)
                  · skip
                    rw [Int32.le_iff_toInt_le, ti_4] at c_249
                    refine lv_iconst (v := 0) hx hb dX3_descend_152 (by decide) ?_
                    exact hcut_118 0 (by decide) (by (try rw [ti_0]) <;> (try rw [ti_8]) <;> omega) ls (lv_sub hl [0, 1, 2, 3, 4, 5, 6, 7, 8, 9, 10] rfl)
                  · skip
                    rw [Int32.le_iff_toInt_le, ti_4] at c_249
                    refine lv_aload_n hx hb dX3_descend_143 rfl (lv_at hl 5 rfl) ?_
                    refine tk_getP (D := (dC, dI)) (ci := 3) (v := .ref a_98) (C := RX3) (T := TX3) (N := 18) hx hb hU inlX3 hown hK hP mo0 hfo_93 rfl 4 (by decide) (hU _ wd_61) (fun _ h9 => h9) rfl dX3_descend_144 ?_
                    refine lv_iload_n hx hb dX3_descend_147 rfl (lv_at hl 7 rfl) ?_
                    obtain ⟨g_251, hfo_250, hbg_251⟩ := un_507 (hG _ ma_98) ka_98
                    refine tk_ildP hx hb hK hP 0 ma_98 hfo_250 rfl (vp_in_iff.mpr (by constructor <;> omega)) dX3_descend_148 ?_
                    refine lv_topi (fun x_252 ex_252 => ?_)
                    have bx_252 : (0 ≤ x_252.toInt ∧ x_252.toInt ≤ 8) := by rw [ex_252]; exact hbg_251 _
                    refine lv_goto (tgt := 153) hx hb dX3_descend_149 (by decide) ?_
                    exact hcut_118 x_252 (by constructor <;> omega) (by (try rw [ti_8]) <;> (try rw [ti_0]) <;> omega) ls (lv_sub hl [0, 1, 2, 3, 4, 5, 6, 7, 8, 9, 10] rfl)
          exact hloop_66 9 y_48 (by constructor <;> omega) y_25 (by constructor <;> omega) f_27 hG _ _ hP hS hD hfr0 hrr1_0 hrr1_1 hrr3_0 hrr3_3 hT0 (by (try rw [ti_8]) <;> (try rw [ti_0]) <;> omega) (by (try rw [ti_8]) <;> (try rw [ti_0]) <;> omega) ls hl
        refine lv_icmp_ge (tgt := 117) hx hb dX3_descend_110 (by decide) (fun c_253 => ?_) (fun c_253 => ?_)
        · skip
          rw [Int32.le_iff_toInt_le] at c_253
          refine lv_iconst (v := 4) hx hb dX3_descend_117 (by decide) ?_
          exact hcut_49 4 (by decide) (by (try rw [ti_4]) <;> (try rw [ti_8]) <;> (try rw [ti_0]) <;> omega) ls (lv_sub hl [0, 1, 2, 3, 4, 5, 6, 7, 8, 9] rfl)
        · skip
          rw [Int32.le_iff_toInt_le] at c_253
          refine lv_iconst (v := 0) hx hb dX3_descend_113 (by decide) ?_
          refine lv_goto (tgt := 118) hx hb dX3_descend_114 (by decide) ?_
          exact hcut_49 0 (by decide) (by (try rw [ti_0]) <;> (try rw [ti_8]) <;> omega) ls (lv_sub hl [0, 1, 2, 3, 4, 5, 6, 7, 8, 9] rfl)
      refine lv_icmp_ne (tgt := 88) hx hb dX3_descend_71 (by decide) (fun c_254 => ?_) (fun c_254 => ?_)
      · skip
        rw [← Int32.toInt_inj] at c_254
        refine lv_iconst (v := 0) hx hb dX3_descend_88 (by decide) ?_
        exact hcut_28 0 (by decide) f hG _ _ hP hS hD hfr0 hrr1_0 hrr1_1 hrr3_0 hrr3_3 hT0 ls (lv_sub hl [0, 1, 2, 3, 4, 5, 6, 7] rfl)
      · skip
        rw [← Int32.toInt_inj] at c_254
        refine lv_aload_n hx hb dX3_descend_74 rfl (lv_at hl 2 rfl) ?_
        refine lv_iload_n hx hb dX3_descend_75 rfl (lv_at hl 3 rfl) ?_
        refine lv_iload hx hb dX3_descend_76 (lv_at hl 6 rfl) ?_
        refine tk_ViP (As := [.int 0, .int p4]) (rest := []) (n := 2) hx hb hml hown hU hN hZ (s_X3_complete_k3 l (dC, dI) cI cL cZ cR cG cH Z kd L f hG o0 mo0 ko0 0 (by decide) p4 (by constructor <;> omega) (fun d9 h9 => by rw [hfo_1] at h9; obtain rfl := Option.some.inj h9; exact hT0)) wd_792 wd_793 wd_794 wd_16 wd_795 (by decide +kernel) ⟨Nat.le_of_ble_eq_true rfl, Nat.le_of_ble_eq_true rfl⟩ hK hP hD hS mo0 hfo_1 3 rfl rfl rfl hl.1 rfl (Nat.le_of_ble_eq_true rfl) dX3_descend_78 ⟨Nat.le_of_ble_eq_true rfl, Nat.le_of_ble_eq_true rfl⟩ (fun x_255 f_256 H locs hw hP hD hS => ?_)
        obtain ⟨hG, bx_255, hkc_257, hrc_258, hrc_259, hTc_260⟩ := hw
        have hfr0 : ∀ b, kd b ≠ 1 → kd b ≠ 3 → kd b ≠ 10 → kd b ≠ 517 → kd b ≠ 518 → kd b ≠ 519 → kd b ≠ 520 → kd b ≠ 521 → kd b ≠ 522 → kd b ≠ 523 → kd b ≠ 524 → kd b ≠ 525 → kd b ≠ 526 → kd b ≠ 527 → f_256 b = f b := fun b q1 q3 q10 q517 q518 q519 q520 q521 q522 q523 q524 q525 q526 q527 => (hkc_257 b q3 q10 q524 q526 q527).trans (hfr0 b q1 q3 q10 q517 q518 q519 q520 q521 q522 q523 q524 q525 q526 q527)
        have hrr1_0 : ∀ b, kd b = 1 → fldR (f_256 b) 0 = fldR (f b) 0 := fun b kb => (congrArg (fun x => fldR x 0) (hkc_257 b (by rw [kb]; decide) (by rw [kb]; decide) (by rw [kb]; decide) (by rw [kb]; decide) (by rw [kb]; decide))).trans (hrr1_0 b kb)
        have hrr1_1 : ∀ b, kd b = 1 → fldR (f_256 b) 1 = fldR (f b) 1 := fun b kb => (congrArg (fun x => fldR x 1) (hkc_257 b (by rw [kb]; decide) (by rw [kb]; decide) (by rw [kb]; decide) (by rw [kb]; decide) (by rw [kb]; decide))).trans (hrr1_1 b kb)
        have hrr3_0 : ∀ b, kd b = 3 → fldR (f_256 b) 0 = fldR (f b) 0 := fun b kb => (hrc_258 b kb).trans (hrr3_0 b kb)
        have hrr3_3 : ∀ b, kd b = 3 → fldR (f_256 b) 3 = fldR (f b) 3 := fun b kb => (hrc_259 b kb).trans (hrr3_3 b kb)
        have hT0 : drel kd 1 521 522 f_256 a_5 := hT0.keep (fun b q => congrArg (fun x => fldI x 5) (hkc_257 b (by rw [q]; decide) (by rw [q]; decide) (by rw [q]; decide) (by rw [q]; decide) (by rw [q]; decide))) (fun b q => congrArg (fun x => fldR x 0) (hkc_257 b (by rw [q]; decide) (by rw [q]; decide) (by rw [q]; decide) (by rw [q]; decide) (by rw [q]; decide))) (fun b q => congrArg (fun x => fldR x 1) (hkc_257 b (by rw [q]; decide) (by rw [q]; decide) (by rw [q]; decide) (by rw [q]; decide) (by rw [q]; decide))) (fun b q => hkc_257 b (by rw [q]; decide) (by rw [q]; decide) (by rw [q]; decide) (by rw [q]; decide) (by rw [q]; decide)) (fun b q => hkc_257 b (by rw [q]; decide) (by rw [q]; decide) (by rw [q]; decide) (by rw [q]; decide) (by rw [q]; decide))
        obtain ⟨a_263, a_264, a_265, a_266, a_267, v_268, v_269, v_270, v_271, v_272, v_273, v_274, a_275, a_276, a_277, v_278, a_279, a_280, hfo_262, ⟨ma_263, ka_263⟩, ⟨ma_264, ka_264⟩, ⟨ma_265, ka_265⟩, ⟨ma_266, ka_266⟩, ⟨ma_267, ka_267⟩, bv_268, bv_269, bv_270, ⟨ma_275, ka_275⟩, ⟨ma_276, ka_276⟩, ⟨ma_277, ka_277⟩, bv_278, ⟨ma_279, ka_279⟩, ⟨ma_280, ka_280⟩⟩ := un_3 (hG _ mo0) ko0
        have bv_271 : ((-2147483648) ≤ v_271.toInt ∧ v_271.toInt ≤ 2147483647) := ⟨i32_lo _, i32_hi _⟩
        have bv_272 : ((-2147483648) ≤ v_272.toInt ∧ v_272.toInt ≤ 2147483647) := ⟨i32_lo _, i32_hi _⟩
        have bv_273 : ((-2147483648) ≤ v_273.toInt ∧ v_273.toInt ≤ 2147483647) := ⟨i32_lo _, i32_hi _⟩
        have bv_274 : ((-2147483648) ≤ v_274.toInt ∧ v_274.toInt ≤ 2147483647) := ⟨i32_lo _, i32_hi _⟩
        obtain rfl : a_2 = a_263 := by have hk9 := hrr3_0 o0 ko0; rw [hfo_262, hfo_1] at hk9; exact (Option.some.inj hk9).symm
        obtain rfl : a_5 = a_266 := by have hk9 := hrr3_3 o0 ko0; rw [hfo_262, hfo_1] at hk9; exact (Option.some.inj hk9).symm
        have hT_281 := hTc_260 a_5 (by rw [hfo_262]; rfl)
        refine lv_if_eq (tgt := 88) hx hb dX3_descend_81 (by decide) (fun c_282 => ?_) (fun c_282 => ?_)
        · skip
          rw [← Int32.toInt_inj, ti_0] at c_282
          refine lv_iconst (v := 0) hx hb dX3_descend_88 (by decide) ?_
          exact hcut_28 0 (by decide) f_256 hG _ _ hP hS hD hfr0 hrr1_0 hrr1_1 hrr3_0 hrr3_3 hT_281 ls (lv_sub hl [0, 1, 2, 3, 4, 5, 6, 7] rfl)
        · skip
          rw [← Int32.toInt_inj, ti_0] at c_282
          refine lv_iconst (v := 1) hx hb dX3_descend_84 (by decide) ?_
          refine lv_goto (tgt := 89) hx hb dX3_descend_85 (by decide) ?_
          exact hcut_28 1 (by decide) f_256 hG _ _ hP hS hD hfr0 hrr1_0 hrr1_1 hrr3_0 hrr3_3 hT_281 ls (lv_sub hl [0, 1, 2, 3, 4, 5, 6, 7] rfl)
    · skip
      rw [← Int32.toInt_inj, ti_0] at c_24
      refine lv_aload_n hx hb dX3_descend_36 rfl (lv_at hl 2 rfl) ?_
      refine tk_getP (D := (dC, dI)) (ci := 3) (v := .ref a_5) (C := RX3) (T := TX3) (N := 18) hx hb hU inlX3 hown hK hP mo0 hfo_1 rfl 3 (by decide) (hU _ wd_60) (fun _ h9 => h9) rfl dX3_descend_37 ?_
      refine lv_aload_n hx hb dX3_descend_40 rfl (lv_at hl 2 rfl) ?_
      refine tk_getP (D := (dC, dI)) (ci := 3) (v := .ref a_4) (C := RX3) (T := TX3) (N := 18) hx hb hU inlX3 hown hK hP mo0 hfo_1 rfl 2 (by decide) (hU _ wd_56) (fun _ h9 => h9) rfl dX3_descend_41 ?_
      refine lv_aload_n hx hb dX3_descend_44 rfl (lv_at hl 2 rfl) ?_
      refine tk_getP (D := (dC, dI)) (ci := 3) (v := .int v_10) (C := RX3) (T := TX3) (N := 18) hx hb hU inlX3 hown hK hP mo0 hfo_1 rfl 8 (by decide) (hU _ wd_734) (fun _ h9 => h9) rfl dX3_descend_45 ?_
      refine lv_iload_n hx hb dX3_descend_48 rfl (lv_at hl 3 rfl) ?_
      refine lv_iload hx hb dX3_descend_49 (lv_at hl 0 rfl) ?_
      obtain ⟨a_284, a_285, a_286, v_287, v_288, v_289, hfo_283, ⟨ma_284, ka_284⟩, ⟨ma_285, ka_285⟩, ⟨ma_286, ka_286⟩, bv_287, bv_288, bv_289⟩ := un_1 (hG _ ma_5) ka_5
      refine tk_VvP (As := [.ref a_4, .int v_10, .int 0, .int x_23]) (rest := []) (n := 4) hx hb hml hown hU hN hZ (s_X1_makeKey_k1_k8 l (dC, dI) cI cL cZ cR cG cH Z kd L f hG a_5 ma_5 ka_5 a_4 ma_4 ka_4 v_10 0 (by decide) x_23) wd_770 wd_771 wd_772 wd_59 wd_773 (by decide +kernel) ⟨Nat.le_of_ble_eq_true rfl, Nat.le_of_ble_eq_true rfl⟩ hK hP hD hS ma_5 hfo_283 1 rfl rfl rfl hl.1 rfl (Nat.le_of_ble_eq_true rfl) dX3_descend_51 ⟨Nat.le_of_ble_eq_true rfl, Nat.le_of_ble_eq_true rfl⟩ (fun f_291 H locs hw hP hD hS => ?_)
      obtain ⟨hG, hkc_292, hfc_293, hrc_294, hrc_295⟩ := hw
      have hfo_297 : f_291 o0 = .inr (3, [.ref a_2, .ref a_3, .ref a_4, .ref a_5, .ref a_6, .int v_7, .int v_8, .int v_9, .int v_10, .int v_11, .int v_12, .int v_13, .ref a_14, .ref a_15, .ref a_16, .int v_17, .ref a_18, .ref a_19]) := by rw [hkc_292 o0 (by rw [ko0]; decide) (by rw [ko0]; decide)]; exact hfo_1
      have hfr0 : ∀ b, kd b ≠ 1 → kd b ≠ 3 → kd b ≠ 10 → kd b ≠ 517 → kd b ≠ 518 → kd b ≠ 519 → kd b ≠ 520 → kd b ≠ 521 → kd b ≠ 522 → kd b ≠ 523 → kd b ≠ 524 → kd b ≠ 525 → kd b ≠ 526 → kd b ≠ 527 → f_291 b = f b := fun b q1 q3 q10 q517 q518 q519 q520 q521 q522 q523 q524 q525 q526 q527 => (hkc_292 b q1 q523).trans (hfr0 b q1 q3 q10 q517 q518 q519 q520 q521 q522 q523 q524 q525 q526 q527)
      have hrr1_0 : ∀ b, kd b = 1 → fldR (f_291 b) 0 = fldR (f b) 0 := fun b kb => (hrc_294 b kb).trans (hrr1_0 b kb)
      have hrr1_1 : ∀ b, kd b = 1 → fldR (f_291 b) 1 = fldR (f b) 1 := fun b kb => (hrc_295 b kb).trans (hrr1_1 b kb)
      have hrr3_0 : ∀ b, kd b = 3 → fldR (f_291 b) 0 = fldR (f b) 0 := fun b kb => (congrArg (fun x => fldR x 0) (hkc_292 b (by rw [kb]; decide) (by rw [kb]; decide))).trans (hrr3_0 b kb)
      have hrr3_3 : ∀ b, kd b = 3 → fldR (f_291 b) 3 = fldR (f b) 3 := fun b kb => (congrArg (fun x => fldR x 3) (hkc_292 b (by rw [kb]; decide) (by rw [kb]; decide))).trans (hrr3_3 b kb)
      have hT0 : drel kd 1 521 522 f_291 a_5 := hT0.keep (fun b q => hfc_293 b q) (fun b q => hrc_294 b q) (fun b q => hrc_295 b q) (fun b q => hkc_292 b (by rw [q]; decide) (by rw [q]; decide)) (fun b q => hkc_292 b (by rw [q]; decide) (by rw [q]; decide))
      obtain ⟨a_299, a_300, a_301, v_302, v_303, v_304, hfo_298, ⟨ma_299, ka_299⟩, ⟨ma_300, ka_300⟩, ⟨ma_301, ka_301⟩, bv_302, bv_303, bv_304⟩ := un_1 (hG _ ma_5) ka_5
      obtain rfl : a_284 = a_299 := by have hk9 := hrr1_0 a_5 ka_5; rw [hfo_298, hfo_283] at hk9; exact (Option.some.inj hk9).symm
      obtain rfl : a_285 = a_300 := by have hk9 := hrr1_1 a_5 ka_5; rw [hfo_298, hfo_283] at hk9; exact (Option.some.inj hk9).symm
      obtain rfl : v_289 = v_304 := by have hk9 := hfc_293 a_5 ka_5; rw [hfo_298, hfo_283] at hk9; exact (Option.some.inj hk9).symm
      refine lv_aload_n hx hb dX3_descend_54 rfl (lv_at hl 2 rfl) ?_
      refine tk_getP (D := (dC, dI)) (ci := 3) (v := .ref a_5) (C := RX3) (T := TX3) (N := 18) hx hb hU inlX3 hown hK hP mo0 hfo_297 rfl 3 (by decide) (hU _ wd_60) (fun _ h9 => h9) rfl dX3_descend_55 ?_
      refine tk_ViP (As := []) (rest := []) (n := 0) hx hb hml hown hU hN hZ (s_X1_hasKey_k1 l (dC, dI) cI cL cZ cR cG cH Z kd L f_291 hG a_5 ma_5 ka_5 hT0) wd_779 wd_780 wd_781 wd_59 wd_782 (by decide +kernel) ⟨Nat.le_of_ble_eq_true rfl, Nat.le_of_ble_eq_true rfl⟩ hK hP hD hS ma_5 hfo_298 1 rfl rfl rfl hl.1 rfl (Nat.le_of_ble_eq_true rfl) dX3_descend_58 ⟨Nat.le_of_ble_eq_true rfl, Nat.le_of_ble_eq_true rfl⟩ (fun x_305 f_306 H locs hw hP hD hS => ?_)
      obtain ⟨rfl, bx_305⟩ := hw
      refine lv_if_eq (tgt := 66) hx hb dX3_descend_61 (by decide) (fun c_308 => ?_) (fun c_308 => ?_)
      · skip
        rw [← Int32.toInt_inj, ti_0] at c_308
        refine lv_iload_n hx hb dX3_descend_66 rfl (lv_at hl 4 rfl) ?_
        refine lv_aload_n hx hb dX3_descend_67 rfl (lv_at hl 2 rfl) ?_
        refine tk_getP (D := (dC, dI)) (ci := 3) (v := .int v_7) (C := RX3) (T := TX3) (N := 18) hx hb hU inlX3 hown hK hP mo0 hfo_297 rfl 5 (by decide) (hU _ wd_726) (fun _ h9 => h9) rfl dX3_descend_68 ?_
        have hcut_313 : ∀ (y_309 : Int32), (0 ≤ y_309.toInt ∧ y_309.toInt ≤ 1) → ∀ (f_311 : Nat → va_E), GI (okc cI cL cZ cR cG cH L kd) kd L f_311 → ∀ (H : Heap) (locs : List Loc), va_P (dC, dI) vwCl (va_pl L f_311) H → va_S (fun q => q ∈ L) s.heap H locs → va_D (fun q => q ∈ L) (va_pl L f_311) → (∀ b, kd b ≠ 1 → kd b ≠ 3 → kd b ≠ 10 → kd b ≠ 517 → kd b ≠ 518 → kd b ≠ 519 → kd b ≠ 520 → kd b ≠ 521 → kd b ≠ 522 → kd b ≠ 523 → kd b ≠ 524 → kd b ≠ 525 → kd b ≠ 526 → kd b ≠ 527 → f_311 b = f b) → (∀ b, kd b = 1 → fldR (f_311 b) 0 = fldR (f b) 0) → (∀ b, kd b = 1 → fldR (f_311 b) 1 = fldR (f b) 1) → (∀ b, kd b = 3 → fldR (f_311 b) 0 = fldR (f b) 0) → (∀ b, kd b = 3 → fldR (f_311 b) 3 = fldR (f b) 3) → (f_311 a_5 = .inr (1, [.ref a_284, .ref a_285, .ref a_301, .int v_302, .int v_303, .int v_289])) → drel kd 1 521 522 f_311 a_5 → ∀ (ls : Array Slot), lv_has ls 18 [(7, .int x_23), (6, .int y_20), (0, .ref o0), (1, .int 0), (2, .int p2), (3, .int p3), (4, .int p4), (5, .int p5)] → W p l e (headSpec (wU yX3_descend cX3_descend 18 (some .boolean)) { frames := 12, cells := 0, slots := 0, locals := 420 }).room s m [.ref o0, .int 0, .int p2, .int p3, .int p4, .int p5].toArray below meth c H locs 0 0 (MQ below (va_Qi (fun (r : Int32) (f9 : Nat → va_E) => GI (okc cI cL cZ cR cG cH L kd) kd L f9 ∧ (0 ≤ r.toInt ∧ r.toInt ≤ 1) ∧ (∀ b, kd b ≠ 1 → kd b ≠ 3 → kd b ≠ 10 → kd b ≠ 517 → kd b ≠ 518 → kd b ≠ 519 → kd b ≠ 520 → kd b ≠ 521 → kd b ≠ 522 → kd b ≠ 523 → kd b ≠ 524 → kd b ≠ 525 → kd b ≠ 526 → kd b ≠ 527 → f9 b = f b) ∧ (∀ b, kd b = 1 → fldR (f9 b) 0 = fldR (f b) 0) ∧ (∀ b, kd b = 1 → fldR (f9 b) 1 = fldR (f b) 1) ∧ (∀ b, kd b = 3 → fldR (f9 b) 0 = fldR (f b) 0) ∧ (∀ b, kd b = 3 → fldR (f9 b) 3 = fldR (f b) 3) ∧ (∀ d9, fldR (f9 o0) 3 = some d9 → drel kd 1 521 522 f9 d9)) (qP (dC, dI) cI cL cZ cR cG cH L) (fun q => q ∈ L)) [.ref o0, .int 0, .int p2, .int p3, .int p4, .int p5].toArray s 0 0 (fun q => q ∈ L)) (F0 m 89 ls [.int y_309]) := by
          intro y_309 by_309 f_311 hG H locs hP hS hD hfr0 hrr1_0 hrr1_1 hrr3_0 hrr3_3 hfo_312 hT0 ls hl
          refine lv_istore (lv' := [(8, .int y_309), (7, .int x_23), (6, .int y_20), (0, .ref o0), (1, .int 0), (2, .int p2), (3, .int p3), (4, .int p4), (5, .int p5)]) hx hb dX3_descend_89 hl (by decide) rfl (fun ls hl => ?_)
          refine lv_iload_n hx hb dX3_descend_91 rfl (lv_at hl 4 rfl) ?_
          refine lv_bipush (v := 9) hx hb dX3_descend_92 (by decide) ?_
          refine lv_icmp_ge (tgt := 102) hx hb dX3_descend_94 (by decide) (fun c9 => absurd c9 (by decide)) (fun _ => ?_)
          refine lv_bipush (v := 8) hx hb dX3_descend_97 (by decide) ?_
          refine lv_goto (tgt := 103) hx hb dX3_descend_99 (by decide) ?_
          refine lv_istore (lv' := [(9, .int 8), (8, .int y_309), (7, .int x_23), (6, .int y_20), (0, .ref o0), (1, .int 0), (2, .int p2), (3, .int p3), (4, .int p4), (5, .int p5)]) hx hb dX3_descend_103 hl (by decide) rfl (fun ls hl => ?_)
          refine lv_iload_n hx hb dX3_descend_105 rfl (lv_at hl 6 rfl) ?_
          refine lv_aload_n hx hb dX3_descend_106 rfl (lv_at hl 4 rfl) ?_
          obtain ⟨a_315, a_316, a_317, a_318, a_319, v_320, v_321, v_322, v_323, v_324, v_325, v_326, a_327, a_328, a_329, v_330, a_331, a_332, hfo_314, ⟨ma_315, ka_315⟩, ⟨ma_316, ka_316⟩, ⟨ma_317, ka_317⟩, ⟨ma_318, ka_318⟩, ⟨ma_319, ka_319⟩, bv_320, bv_321, bv_322, ⟨ma_327, ka_327⟩, ⟨ma_328, ka_328⟩, ⟨ma_329, ka_329⟩, bv_330, ⟨ma_331, ka_331⟩, ⟨ma_332, ka_332⟩⟩ := un_3 (hG _ mo0) ko0
          have bv_323 : ((-2147483648) ≤ v_323.toInt ∧ v_323.toInt ≤ 2147483647) := ⟨i32_lo _, i32_hi _⟩
          have bv_324 : ((-2147483648) ≤ v_324.toInt ∧ v_324.toInt ≤ 2147483647) := ⟨i32_lo _, i32_hi _⟩
          have bv_325 : ((-2147483648) ≤ v_325.toInt ∧ v_325.toInt ≤ 2147483647) := ⟨i32_lo _, i32_hi _⟩
          have bv_326 : ((-2147483648) ≤ v_326.toInt ∧ v_326.toInt ≤ 2147483647) := ⟨i32_lo _, i32_hi _⟩
          obtain rfl : a_2 = a_315 := by have hk9 := hrr3_0 o0 ko0; rw [hfo_314, hfo_1] at hk9; exact (Option.some.inj hk9).symm
          obtain rfl : a_5 = a_318 := by have hk9 := hrr3_3 o0 ko0; rw [hfo_314, hfo_1] at hk9; exact (Option.some.inj hk9).symm
          refine tk_getP (D := (dC, dI)) (ci := 3) (v := .int v_320) (C := RX3) (T := TX3) (N := 18) hx hb hU inlX3 hown hK hP mo0 hfo_314 rfl 5 (by decide) (hU _ wd_726) (fun _ h9 => h9) rfl dX3_descend_107 ?_
          have hcut_334 : ∀ (y_333 : Int32), (0 ≤ y_333.toInt ∧ y_333.toInt ≤ 4) → (4 ≤ y_333.toInt ∨ p2.toInt ≤ 7) → ∀ (ls : Array Slot), lv_has ls 18 [(9, .int 8), (8, .int y_309), (7, .int x_23), (6, .int y_20), (0, .ref o0), (1, .int 0), (2, .int p2), (3, .int p3), (4, .int p4), (5, .int p5)] → W p l e (headSpec (wU yX3_descend cX3_descend 18 (some .boolean)) { frames := 12, cells := 0, slots := 0, locals := 420 }).room s m [.ref o0, .int 0, .int p2, .int p3, .int p4, .int p5].toArray below meth c H locs 0 0 (MQ below (va_Qi (fun (r : Int32) (f9 : Nat → va_E) => GI (okc cI cL cZ cR cG cH L kd) kd L f9 ∧ (0 ≤ r.toInt ∧ r.toInt ≤ 1) ∧ (∀ b, kd b ≠ 1 → kd b ≠ 3 → kd b ≠ 10 → kd b ≠ 517 → kd b ≠ 518 → kd b ≠ 519 → kd b ≠ 520 → kd b ≠ 521 → kd b ≠ 522 → kd b ≠ 523 → kd b ≠ 524 → kd b ≠ 525 → kd b ≠ 526 → kd b ≠ 527 → f9 b = f b) ∧ (∀ b, kd b = 1 → fldR (f9 b) 0 = fldR (f b) 0) ∧ (∀ b, kd b = 1 → fldR (f9 b) 1 = fldR (f b) 1) ∧ (∀ b, kd b = 3 → fldR (f9 b) 0 = fldR (f b) 0) ∧ (∀ b, kd b = 3 → fldR (f9 b) 3 = fldR (f b) 3) ∧ (∀ d9, fldR (f9 o0) 3 = some d9 → drel kd 1 521 522 f9 d9)) (qP (dC, dI) cI cL cZ cR cG cH L) (fun q => q ∈ L)) [.ref o0, .int 0, .int p2, .int p3, .int p4, .int p5].toArray s 0 0 (fun q => q ∈ L)) (F0 m 118 ls [.int y_333]) := by
            intro y_333 by_333 hjhcut_334_0 ls hl
            refine lv_istore (lv' := [(10, .int y_333), (9, .int 8), (8, .int y_309), (7, .int x_23), (6, .int y_20), (0, .ref o0), (1, .int 0), (2, .int p2), (3, .int p3), (4, .int p4), (5, .int p5)]) hx hb dX3_descend_118 hl (by decide) rfl (fun ls hl => ?_)
            have hloop_350 : ∀ (n : Nat), ∀ (y_351 : Int32), (0 ≤ y_351.toInt ∧ y_351.toInt ≤ 8) → ∀ (y_352 : Int32), (0 ≤ y_352.toInt ∧ y_352.toInt ≤ 1) → ∀ (f_354 : Nat → va_E), GI (okc cI cL cZ cR cG cH L kd) kd L f_354 → ∀ (H : Heap) (locs : List Loc), va_P (dC, dI) vwCl (va_pl L f_354) H → va_S (fun q => q ∈ L) s.heap H locs → va_D (fun q => q ∈ L) (va_pl L f_354) → (∀ b, kd b ≠ 1 → kd b ≠ 3 → kd b ≠ 10 → kd b ≠ 517 → kd b ≠ 518 → kd b ≠ 519 → kd b ≠ 520 → kd b ≠ 521 → kd b ≠ 522 → kd b ≠ 523 → kd b ≠ 524 → kd b ≠ 525 → kd b ≠ 526 → kd b ≠ 527 → f_354 b = f b) → (∀ b, kd b = 1 → fldR (f_354 b) 0 = fldR (f b) 0) → (∀ b, kd b = 1 → fldR (f_354 b) 1 = fldR (f b) 1) → (∀ b, kd b = 3 → fldR (f_354 b) 0 = fldR (f b) 0) → (∀ b, kd b = 3 → fldR (f_354 b) 3 = fldR (f b) 3) → drel kd 1 521 522 f_354 a_5 → (4 ≤ y_351.toInt ∨ p2.toInt ≤ 7) → 8 - y_351.toInt < (n : Int) → ∀ (ls : Array Slot), lv_has ls 18 [(10, .int y_351), (9, .int 8), (8, .int y_352), (7, .int x_23), (6, .int y_20), (0, .ref o0), (1, .int 0), (2, .int p2), (3, .int p3), (4, .int p4), (5, .int p5)] → W p l e (headSpec (wU yX3_descend cX3_descend 18 (some .boolean)) { frames := 12, cells := 0, slots := 0, locals := 420 }).room s m [.ref o0, .int 0, .int p2, .int p3, .int p4, .int p5].toArray below meth c H locs 0 0 (MQ below (va_Qi (fun (r : Int32) (f9 : Nat → va_E) => GI (okc cI cL cZ cR cG cH L kd) kd L f9 ∧ (0 ≤ r.toInt ∧ r.toInt ≤ 1) ∧ (∀ b, kd b ≠ 1 → kd b ≠ 3 → kd b ≠ 10 → kd b ≠ 517 → kd b ≠ 518 → kd b ≠ 519 → kd b ≠ 520 → kd b ≠ 521 → kd b ≠ 522 → kd b ≠ 523 → kd b ≠ 524 → kd b ≠ 525 → kd b ≠ 526 → kd b ≠ 527 → f9 b = f b) ∧ (∀ b, kd b = 1 → fldR (f9 b) 0 = fldR (f b) 0) ∧ (∀ b, kd b = 1 → fldR (f9 b) 1 = fldR (f b) 1) ∧ (∀ b, kd b = 3 → fldR (f9 b) 0 = fldR (f b) 0) ∧ (∀ b, kd b = 3 → fldR (f9 b) 3 = fldR (f b) 3) ∧ (∀ d9, fldR (f9 o0) 3 = some d9 → drel kd 1 521 522 f9 d9)) (qP (dC, dI) cI cL cZ cR cG cH L) (fun q => q ∈ L)) [.ref o0, .int 0, .int p2, .int p3, .int p4, .int p5].toArray s 0 0 (fun q => q ∈ L)) (F0 m 120 ls []) := by
              intro n
              induction n with
              | zero => intro y_351 by_351 y_352 by_352 f_354 hG H locs hP hS hD hfr0 hrr1_0 hrr1_1 hrr3_0 hrr3_3 hT0 hrelhloop_350_0 hmuhloop_350 ls hl; exfalso; omega
              | succ n ih_hloop_350 =>
                intro y_351 by_351 y_352 by_352 f_354 hG H locs hP hS hD hfr0 hrr1_0 hrr1_1 hrr3_0 hrr3_3 hT0 hrelhloop_350_0 hmuhloop_350 ls hl
                refine lv_iload hx hb dX3_descend_120 (lv_at hl 0 rfl) ?_
                refine lv_iload hx hb dX3_descend_122 (lv_at hl 1 rfl) ?_
                have hcut_355 : ∀ (ls : Array Slot), lv_has ls 18 [(10, .int y_351), (9, .int 8), (8, .int y_352), (7, .int x_23), (6, .int y_20), (0, .ref o0), (1, .int 0), (2, .int p2), (3, .int p3), (4, .int p4), (5, .int p5)] → W p l e (headSpec (wU yX3_descend cX3_descend 18 (some .boolean)) { frames := 12, cells := 0, slots := 0, locals := 420 }).room s m [.ref o0, .int 0, .int p2, .int p3, .int p4, .int p5].toArray below meth c H locs 0 0 (MQ below (va_Qi (fun (r : Int32) (f9 : Nat → va_E) => GI (okc cI cL cZ cR cG cH L kd) kd L f9 ∧ (0 ≤ r.toInt ∧ r.toInt ≤ 1) ∧ (∀ b, kd b ≠ 1 → kd b ≠ 3 → kd b ≠ 10 → kd b ≠ 517 → kd b ≠ 518 → kd b ≠ 519 → kd b ≠ 520 → kd b ≠ 521 → kd b ≠ 522 → kd b ≠ 523 → kd b ≠ 524 → kd b ≠ 525 → kd b ≠ 526 → kd b ≠ 527 → f9 b = f b) ∧ (∀ b, kd b = 1 → fldR (f9 b) 0 = fldR (f b) 0) ∧ (∀ b, kd b = 1 → fldR (f9 b) 1 = fldR (f b) 1) ∧ (∀ b, kd b = 3 → fldR (f9 b) 0 = fldR (f b) 0) ∧ (∀ b, kd b = 3 → fldR (f9 b) 3 = fldR (f b) 3) ∧ (∀ d9, fldR (f9 o0) 3 = some d9 → drel kd 1 521 522 f9 d9)) (qP (dC, dI) cI cL cZ cR cG cH L) (fun q => q ∈ L)) [.ref o0, .int 0, .int p2, .int p3, .int p4, .int p5].toArray s 0 0 (fun q => q ∈ L)) (F0 m 349 ls []) := by
                  intro ls hl
                  refine lv_iload hx hb dX3_descend_349 (lv_at hl 4 rfl) ?_
                  have hcut_358 : ∀ (f_357 : Nat → va_E), GI (okc cI cL cZ cR cG cH L kd) kd L f_357 → ∀ (H : Heap) (locs : List Loc), va_P (dC, dI) vwCl (va_pl L f_357) H → va_S (fun q => q ∈ L) s.heap H locs → va_D (fun q => q ∈ L) (va_pl L f_357) → (∀ b, kd b ≠ 1 → kd b ≠ 3 → kd b ≠ 10 → kd b ≠ 517 → kd b ≠ 518 → kd b ≠ 519 → kd b ≠ 520 → kd b ≠ 521 → kd b ≠ 522 → kd b ≠ 523 → kd b ≠ 524 → kd b ≠ 525 → kd b ≠ 526 → kd b ≠ 527 → f_357 b = f b) → (∀ b, kd b = 1 → fldR (f_357 b) 0 = fldR (f b) 0) → (∀ b, kd b = 1 → fldR (f_357 b) 1 = fldR (f b) 1) → (∀ b, kd b = 3 → fldR (f_357 b) 0 = fldR (f b) 0) → (∀ b, kd b = 3 → fldR (f_357 b) 3 = fldR (f b) 3) → drel kd 1 521 522 f_357 a_5 → ∀ (ls : Array Slot), lv_has ls 18 [(10, .int y_351), (9, .int 8), (8, .int y_352), (7, .int x_23), (6, .int y_20), (0, .ref o0), (1, .int 0), (2, .int p2), (3, .int p3), (4, .int p4), (5, .int p5)] → W p l e (headSpec (wU yX3_descend cX3_descend 18 (some .boolean)) { frames := 12, cells := 0, slots := 0, locals := 420 }).room s m [.ref o0, .int 0, .int p2, .int p3, .int p4, .int p5].toArray below meth c H locs 0 0 (MQ below (va_Qi (fun (r : Int32) (f9 : Nat → va_E) => GI (okc cI cL cZ cR cG cH L kd) kd L f9 ∧ (0 ≤ r.toInt ∧ r.toInt ≤ 1) ∧ (∀ b, kd b ≠ 1 → kd b ≠ 3 → kd b ≠ 10 → kd b ≠ 517 → kd b ≠ 518 → kd b ≠ 519 → kd b ≠ 520 → kd b ≠ 521 → kd b ≠ 522 → kd b ≠ 523 → kd b ≠ 524 → kd b ≠ 525 → kd b ≠ 526 → kd b ≠ 527 → f9 b = f b) ∧ (∀ b, kd b = 1 → fldR (f9 b) 0 = fldR (f b) 0) ∧ (∀ b, kd b = 1 → fldR (f9 b) 1 = fldR (f b) 1) ∧ (∀ b, kd b = 3 → fldR (f9 b) 0 = fldR (f b) 0) ∧ (∀ b, kd b = 3 → fldR (f9 b) 3 = fldR (f b) 3) ∧ (∀ d9, fldR (f9 o0) 3 = some d9 → drel kd 1 521 522 f9 d9)) (qP (dC, dI) cI cL cZ cR cG cH L) (fun q => q ∈ L)) [.ref o0, .int 0, .int p2, .int p3, .int p4, .int p5].toArray s 0 0 (fun q => q ∈ L)) (F0 m 394 ls []) := by
                    intro f_357 hG H locs hP hS hD hfr0 hrr1_0 hrr1_1 hrr3_0 hrr3_3 hT0 ls hl
                    refine lv_iload hx hb dX3_descend_394 (lv_at hl 2 rfl) ?_
                    obtain ⟨a_360, a_361, a_362, a_363, a_364, v_365, v_366, v_367, v_368, v_369, v_370, v_371, a_372, a_373, a_374, v_375, a_376, a_377, hfo_359, ⟨ma_360, ka_360⟩, ⟨ma_361, ka_361⟩, ⟨ma_362, ka_362⟩, ⟨ma_363, ka_363⟩, ⟨ma_364, ka_364⟩, bv_365, bv_366, bv_367, ⟨ma_372, ka_372⟩, ⟨ma_373, ka_373⟩, ⟨ma_374, ka_374⟩, bv_375, ⟨ma_376, ka_376⟩, ⟨ma_377, ka_377⟩⟩ := un_3 (hG _ mo0) ko0
                    have bv_368 : ((-2147483648) ≤ v_368.toInt ∧ v_368.toInt ≤ 2147483647) := ⟨i32_lo _, i32_hi _⟩
                    have bv_369 : ((-2147483648) ≤ v_369.toInt ∧ v_369.toInt ≤ 2147483647) := ⟨i32_lo _, i32_hi _⟩
                    have bv_370 : ((-2147483648) ≤ v_370.toInt ∧ v_370.toInt ≤ 2147483647) := ⟨i32_lo _, i32_hi _⟩
                    have bv_371 : ((-2147483648) ≤ v_371.toInt ∧ v_371.toInt ≤ 2147483647) := ⟨i32_lo _, i32_hi _⟩
                    obtain rfl : a_2 = a_360 := by have hk9 := hrr3_0 o0 ko0; rw [hfo_359, hfo_1] at hk9; exact (Option.some.inj hk9).symm
                    obtain rfl : a_5 = a_363 := by have hk9 := hrr3_3 o0 ko0; rw [hfo_359, hfo_1] at hk9; exact (Option.some.inj hk9).symm
                    exact W.zret (v := y_352) (ty := .boolean) hx hb hr (zb_n (by constructor <;> omega)) (fun t ht hW => ⟨⟨y_352, f_357, rfl, ⟨hG, (by constructor <;> omega), hfr0, hrr1_0, hrr1_1, hrr3_0, hrr3_3, (fun d9 h9 => by rw [hfo_359] at h9; obtain rfl := Option.some.inj h9; exact hT0)⟩, by rw [ht]; exact hP, va_K.moved hW.alike hK, pl_in hD⟩, hS.F ht⟩) hS.2.2 dX3_descend_396
                  refine lv_if_eq (tgt := 394) hx hb dX3_descend_351 (by decide) (fun c_378 => ?_) (fun c_378 => ?_)
                  · skip
                    rw [← Int32.toInt_inj, ti_0] at c_378
                    exfalso
                    omega
                  · skip
                    rw [← Int32.toInt_inj, ti_0] at c_378
                    refine lv_iload hx hb dX3_descend_354 (lv_at hl 2 rfl) ?_
                    refine lv_if_ne (tgt := 394) hx hb dX3_descend_356 (by decide) (fun c_379 => ?_) (fun c_379 => ?_)
                    · skip
                      rw [← Int32.toInt_inj, ti_0] at c_379
                      exact hcut_358 f_354 hG _ _ hP hS hD hfr0 hrr1_0 hrr1_1 hrr3_0 hrr3_3 hT0 ls (lv_sub hl [0, 1, 2, 3, 4, 5, 6, 7, 8, 9, 10] rfl)
                    · skip
                      rw [← Int32.toInt_inj, ti_0] at c_379
                      refine lv_aload_n hx hb dX3_descend_359 rfl (lv_at hl 5 rfl) ?_
                      obtain ⟨a_381, a_382, a_383, a_384, a_385, v_386, v_387, v_388, v_389, v_390, v_391, v_392, a_393, a_394, a_395, v_396, a_397, a_398, hfo_380, ⟨ma_381, ka_381⟩, ⟨ma_382, ka_382⟩, ⟨ma_383, ka_383⟩, ⟨ma_384, ka_384⟩, ⟨ma_385, ka_385⟩, bv_386, bv_387, bv_388, ⟨ma_393, ka_393⟩, ⟨ma_394, ka_394⟩, ⟨ma_395, ka_395⟩, bv_396, ⟨ma_397, ka_397⟩, ⟨ma_398, ka_398⟩⟩ := un_3 (hG _ mo0) ko0
                      have bv_389 : ((-2147483648) ≤ v_389.toInt ∧ v_389.toInt ≤ 2147483647) := ⟨i32_lo _, i32_hi _⟩
                      have bv_390 : ((-2147483648) ≤ v_390.toInt ∧ v_390.toInt ≤ 2147483647) := ⟨i32_lo _, i32_hi _⟩
                      have bv_391 : ((-2147483648) ≤ v_391.toInt ∧ v_391.toInt ≤ 2147483647) := ⟨i32_lo _, i32_hi _⟩
                      have bv_392 : ((-2147483648) ≤ v_392.toInt ∧ v_392.toInt ≤ 2147483647) := ⟨i32_lo _, i32_hi _⟩
                      obtain rfl : a_2 = a_381 := by have hk9 := hrr3_0 o0 ko0; rw [hfo_380, hfo_1] at hk9; exact (Option.some.inj hk9).symm
                      obtain rfl : a_5 = a_384 := by have hk9 := hrr3_3 o0 ko0; rw [hfo_380, hfo_1] at hk9; exact (Option.some.inj hk9).symm
                      refine tk_getP (D := (dC, dI)) (ci := 3) (v := .ref a_382) (C := RX3) (T := TX3) (N := 18) hx hb hU inlX3 hown hK hP mo0 hfo_380 rfl 1 (by decide) (hU _ wd_52) (fun _ h9 => h9) rfl dX3_descend_360 ?_
                      obtain ⟨a_400, v_401, v_402, hfo_399, ⟨ma_400, ka_400⟩, bv_401, bv_402⟩ := un_10 (hG _ ma_382) ka_382
                      refine tk_getP (D := (dC, dI)) (ci := 10) (v := .int v_402) (C := RX10) (T := TX10) (N := 3) hx hb hU inlX10 hown hK hP ma_382 hfo_399 rfl 2 (by decide) (hU _ wd_766) (fun _ h9 => h9) rfl dX3_descend_363 ?_
                      refine lv_if_ne (tgt := 394) hx hb dX3_descend_366 (by decide) (fun c_403 => ?_) (fun c_403 => ?_)
                      · skip
                        rw [← Int32.toInt_inj, ti_0] at c_403
                        exact hcut_358 f_354 hG _ _ hP hS hD hfr0 hrr1_0 hrr1_1 hrr3_0 hrr3_3 hT0 ls (lv_sub hl [0, 1, 2, 3, 4, 5, 6, 7, 8, 9, 10] rfl)
                      · skip
                        rw [← Int32.toInt_inj, ti_0] at c_403
                        refine lv_aload_n hx hb dX3_descend_369 rfl (lv_at hl 5 rfl) ?_
                        refine tk_getP (D := (dC, dI)) (ci := 3) (v := .ref a_5) (C := RX3) (T := TX3) (N := 18) hx hb hU inlX3 hown hK hP mo0 hfo_380 rfl 3 (by decide) (hU _ wd_60) (fun _ h9 => h9) rfl dX3_descend_370 ?_
                        refine lv_aload_n hx hb dX3_descend_373 rfl (lv_at hl 5 rfl) ?_
                        refine tk_getP (D := (dC, dI)) (ci := 3) (v := .ref a_383) (C := RX3) (T := TX3) (N := 18) hx hb hU inlX3 hown hK hP mo0 hfo_380 rfl 2 (by decide) (hU _ wd_56) (fun _ h9 => h9) rfl dX3_descend_374 ?_
                        refine lv_aload_n hx hb dX3_descend_377 rfl (lv_at hl 5 rfl) ?_
                        refine tk_getP (D := (dC, dI)) (ci := 3) (v := .int v_389) (C := RX3) (T := TX3) (N := 18) hx hb hU inlX3 hown hK hP mo0 hfo_380 rfl 8 (by decide) (hU _ wd_734) (fun _ h9 => h9) rfl dX3_descend_378 ?_
                        refine lv_iload_n hx hb dX3_descend_381 rfl (lv_at hl 6 rfl) ?_
                        refine lv_iload hx hb dX3_descend_382 (lv_at hl 3 rfl) ?_
                        obtain ⟨a_405, a_406, a_407, v_408, v_409, v_410, hfo_404, ⟨ma_405, ka_405⟩, ⟨ma_406, ka_406⟩, ⟨ma_407, ka_407⟩, bv_408, bv_409, bv_410⟩ := un_1 (hG _ ma_5) ka_5
                        obtain rfl : a_284 = a_405 := by have hk9 := hrr1_0 a_5 ka_5; rw [hfo_404, hfo_283] at hk9; exact (Option.some.inj hk9).symm
                        obtain rfl : a_285 = a_406 := by have hk9 := hrr1_1 a_5 ka_5; rw [hfo_404, hfo_283] at hk9; exact (Option.some.inj hk9).symm
                        refine tk_VvP (As := [.ref a_383, .int v_389, .int 0, .int x_23]) (rest := []) (n := 4) hx hb hml hown hU hN hZ (s_X1_makeKey_k1_k8 l (dC, dI) cI cL cZ cR cG cH Z kd L f_354 hG a_5 ma_5 ka_5 a_383 ma_383 ka_383 v_389 0 (by decide) x_23) wd_770 wd_771 wd_772 wd_59 wd_773 (by decide +kernel) ⟨Nat.le_of_ble_eq_true rfl, Nat.le_of_ble_eq_true rfl⟩ hK hP hD hS ma_5 hfo_404 1 rfl rfl rfl hl.1 rfl (Nat.le_of_ble_eq_true rfl) dX3_descend_384 ⟨Nat.le_of_ble_eq_true rfl, Nat.le_of_ble_eq_true rfl⟩ (fun f_412 H locs hw hP hD hS => ?_)
                        obtain ⟨hG, hkc_413, hfc_414, hrc_415, hrc_416⟩ := hw
                        have hfo_418 : f_412 o0 = .inr (3, [.ref a_2, .ref a_382, .ref a_383, .ref a_5, .ref a_385, .int v_386, .int v_387, .int v_388, .int v_389, .int v_390, .int v_391, .int v_392, .ref a_393, .ref a_394, .ref a_395, .int v_396, .ref a_397, .ref a_398]) := by rw [hkc_413 o0 (by rw [ko0]; decide) (by rw [ko0]; decide)]; exact hfo_380
                        have hfo_419 : f_412 a_382 = .inr (10, [.ref a_400, .int v_401, .int v_402]) := by rw [hkc_413 a_382 (by rw [ka_382]; decide) (by rw [ka_382]; decide)]; exact hfo_399
                        have hfr0 : ∀ b, kd b ≠ 1 → kd b ≠ 3 → kd b ≠ 10 → kd b ≠ 517 → kd b ≠ 518 → kd b ≠ 519 → kd b ≠ 520 → kd b ≠ 521 → kd b ≠ 522 → kd b ≠ 523 → kd b ≠ 524 → kd b ≠ 525 → kd b ≠ 526 → kd b ≠ 527 → f_412 b = f b := fun b q1 q3 q10 q517 q518 q519 q520 q521 q522 q523 q524 q525 q526 q527 => (hkc_413 b q1 q523).trans (hfr0 b q1 q3 q10 q517 q518 q519 q520 q521 q522 q523 q524 q525 q526 q527)
                        have hrr1_0 : ∀ b, kd b = 1 → fldR (f_412 b) 0 = fldR (f b) 0 := fun b kb => (hrc_415 b kb).trans (hrr1_0 b kb)
                        have hrr1_1 : ∀ b, kd b = 1 → fldR (f_412 b) 1 = fldR (f b) 1 := fun b kb => (hrc_416 b kb).trans (hrr1_1 b kb)
                        have hrr3_0 : ∀ b, kd b = 3 → fldR (f_412 b) 0 = fldR (f b) 0 := fun b kb => (congrArg (fun x => fldR x 0) (hkc_413 b (by rw [kb]; decide) (by rw [kb]; decide))).trans (hrr3_0 b kb)
                        have hrr3_3 : ∀ b, kd b = 3 → fldR (f_412 b) 3 = fldR (f b) 3 := fun b kb => (congrArg (fun x => fldR x 3) (hkc_413 b (by rw [kb]; decide) (by rw [kb]; decide))).trans (hrr3_3 b kb)
                        have hT0 : drel kd 1 521 522 f_412 a_5 := hT0.keep (fun b q => hfc_414 b q) (fun b q => hrc_415 b q) (fun b q => hrc_416 b q) (fun b q => hkc_413 b (by rw [q]; decide) (by rw [q]; decide)) (fun b q => hkc_413 b (by rw [q]; decide) (by rw [q]; decide))
                        obtain ⟨a_421, a_422, a_423, v_424, v_425, v_426, hfo_420, ⟨ma_421, ka_421⟩, ⟨ma_422, ka_422⟩, ⟨ma_423, ka_423⟩, bv_424, bv_425, bv_426⟩ := un_1 (hG _ ma_5) ka_5
                        obtain rfl : a_284 = a_421 := by have hk9 := hrr1_0 a_5 ka_5; rw [hfo_420, hfo_283] at hk9; exact (Option.some.inj hk9).symm
                        obtain rfl : a_285 = a_422 := by have hk9 := hrr1_1 a_5 ka_5; rw [hfo_420, hfo_283] at hk9; exact (Option.some.inj hk9).symm
                        obtain rfl : v_410 = v_426 := by have hk9 := hfc_414 a_5 ka_5; rw [hfo_420, hfo_404] at hk9; exact (Option.some.inj hk9).symm
                        refine lv_aload_n hx hb dX3_descend_387 rfl (lv_at hl 5 rfl) ?_
                        refine tk_getP (D := (dC, dI)) (ci := 3) (v := .ref a_5) (C := RX3) (T := TX3) (N := 18) hx hb hU inlX3 hown hK hP mo0 hfo_418 rfl 3 (by decide) (hU _ wd_60) (fun _ h9 => h9) rfl dX3_descend_388 ?_
                        refine tk_VvP (As := []) (rest := []) (n := 0) hx hb hml hown hU hN hZ (s_X1_addKey_k1 l (dC, dI) cI cL cZ cR cG cH Z kd L f_412 hG a_5 ma_5 ka_5 hT0) wd_850 wd_851 wd_852 wd_59 wd_853 (by decide +kernel) ⟨Nat.le_of_ble_eq_true rfl, Nat.le_of_ble_eq_true rfl⟩ hK hP hD hS ma_5 hfo_420 1 rfl rfl rfl hl.1 rfl (Nat.le_of_ble_eq_true rfl) dX3_descend_391 ⟨Nat.le_of_ble_eq_true rfl, Nat.le_of_ble_eq_true rfl⟩ (fun f_428 H locs hw hP hD hS => ?_)
                        obtain ⟨hG, hkc_429, hrc_430, hrc_431, hTc_432⟩ := hw
                        have hfo_434 : f_428 o0 = .inr (3, [.ref a_2, .ref a_382, .ref a_383, .ref a_5, .ref a_385, .int v_386, .int v_387, .int v_388, .int v_389, .int v_390, .int v_391, .int v_392, .ref a_393, .ref a_394, .ref a_395, .int v_396, .ref a_397, .ref a_398]) := by rw [hkc_429 o0 (by rw [ko0]; decide) (by rw [ko0]; decide) (by rw [ko0]; decide)]; exact hfo_418
                        have hfo_435 : f_428 a_382 = .inr (10, [.ref a_400, .int v_401, .int v_402]) := by rw [hkc_429 a_382 (by rw [ka_382]; decide) (by rw [ka_382]; decide) (by rw [ka_382]; decide)]; exact hfo_419
                        have hfr0 : ∀ b, kd b ≠ 1 → kd b ≠ 3 → kd b ≠ 10 → kd b ≠ 517 → kd b ≠ 518 → kd b ≠ 519 → kd b ≠ 520 → kd b ≠ 521 → kd b ≠ 522 → kd b ≠ 523 → kd b ≠ 524 → kd b ≠ 525 → kd b ≠ 526 → kd b ≠ 527 → f_428 b = f b := fun b q1 q3 q10 q517 q518 q519 q520 q521 q522 q523 q524 q525 q526 q527 => (hkc_429 b q1 q521 q522).trans (hfr0 b q1 q3 q10 q517 q518 q519 q520 q521 q522 q523 q524 q525 q526 q527)
                        have hrr1_0 : ∀ b, kd b = 1 → fldR (f_428 b) 0 = fldR (f b) 0 := fun b kb => (hrc_430 b kb).trans (hrr1_0 b kb)
                        have hrr1_1 : ∀ b, kd b = 1 → fldR (f_428 b) 1 = fldR (f b) 1 := fun b kb => (hrc_431 b kb).trans (hrr1_1 b kb)
                        have hrr3_0 : ∀ b, kd b = 3 → fldR (f_428 b) 0 = fldR (f b) 0 := fun b kb => (congrArg (fun x => fldR x 0) (hkc_429 b (by rw [kb]; decide) (by rw [kb]; decide) (by rw [kb]; decide))).trans (hrr3_0 b kb)
                        have hrr3_3 : ∀ b, kd b = 3 → fldR (f_428 b) 3 = fldR (f b) 3 := fun b kb => (congrArg (fun x => fldR x 3) (hkc_429 b (by rw [kb]; decide) (by rw [kb]; decide) (by rw [kb]; decide))).trans (hrr3_3 b kb)
                        obtain ⟨a_437, a_438, a_439, v_440, v_441, v_442, hfo_436, ⟨ma_437, ka_437⟩, ⟨ma_438, ka_438⟩, ⟨ma_439, ka_439⟩, bv_440, bv_441, bv_442⟩ := un_1 (hG _ ma_5) ka_5
                        obtain rfl : a_284 = a_437 := by have hk9 := hrr1_0 a_5 ka_5; rw [hfo_436, hfo_283] at hk9; exact (Option.some.inj hk9).symm
                        obtain rfl : a_285 = a_438 := by have hk9 := hrr1_1 a_5 ka_5; rw [hfo_436, hfo_283] at hk9; exact (Option.some.inj hk9).symm
                        exact hcut_358 f_428 hG _ _ hP hS hD hfr0 hrr1_0 hrr1_1 hrr3_0 hrr3_3 hTc_432 ls (lv_sub hl [0, 1, 2, 3, 4, 5, 6, 7, 8, 9, 10] rfl)
                refine lv_icmp_ge (tgt := 349) hx hb dX3_descend_124 (by decide) (fun c_443 => ?_) (fun c_443 => ?_)
                · skip
                  rw [Int32.le_iff_toInt_le, ti_8] at c_443
                  exact hcut_355 ls (lv_sub hl [0, 1, 2, 3, 4, 5, 6, 7, 8, 9, 10] rfl)
                · skip
                  rw [Int32.le_iff_toInt_le, ti_8] at c_443
                  refine lv_aload_n hx hb dX3_descend_127 rfl (lv_at hl 5 rfl) ?_
                  obtain ⟨a_445, a_446, a_447, a_448, a_449, v_450, v_451, v_452, v_453, v_454, v_455, v_456, a_457, a_458, a_459, v_460, a_461, a_462, hfo_444, ⟨ma_445, ka_445⟩, ⟨ma_446, ka_446⟩, ⟨ma_447, ka_447⟩, ⟨ma_448, ka_448⟩, ⟨ma_449, ka_449⟩, bv_450, bv_451, bv_452, ⟨ma_457, ka_457⟩, ⟨ma_458, ka_458⟩, ⟨ma_459, ka_459⟩, bv_460, ⟨ma_461, ka_461⟩, ⟨ma_462, ka_462⟩⟩ := un_3 (hG _ mo0) ko0
                  have bv_453 : ((-2147483648) ≤ v_453.toInt ∧ v_453.toInt ≤ 2147483647) := ⟨i32_lo _, i32_hi _⟩
                  have bv_454 : ((-2147483648) ≤ v_454.toInt ∧ v_454.toInt ≤ 2147483647) := ⟨i32_lo _, i32_hi _⟩
                  have bv_455 : ((-2147483648) ≤ v_455.toInt ∧ v_455.toInt ≤ 2147483647) := ⟨i32_lo _, i32_hi _⟩
                  have bv_456 : ((-2147483648) ≤ v_456.toInt ∧ v_456.toInt ≤ 2147483647) := ⟨i32_lo _, i32_hi _⟩
                  obtain rfl : a_2 = a_445 := by have hk9 := hrr3_0 o0 ko0; rw [hfo_444, hfo_1] at hk9; exact (Option.some.inj hk9).symm
                  obtain rfl : a_5 = a_448 := by have hk9 := hrr3_3 o0 ko0; rw [hfo_444, hfo_1] at hk9; exact (Option.some.inj hk9).symm
                  refine tk_getP (D := (dC, dI)) (ci := 3) (v := .ref a_446) (C := RX3) (T := TX3) (N := 18) hx hb hU inlX3 hown hK hP mo0 hfo_444 rfl 1 (by decide) (hU _ wd_52) (fun _ h9 => h9) rfl dX3_descend_128 ?_
                  obtain ⟨a_464, v_465, v_466, hfo_463, ⟨ma_464, ka_464⟩, bv_465, bv_466⟩ := un_10 (hG _ ma_446) ka_446
                  refine tk_getP (D := (dC, dI)) (ci := 10) (v := .int v_466) (C := RX10) (T := TX10) (N := 3) hx hb hU inlX10 hown hK hP ma_446 hfo_463 rfl 2 (by decide) (hU _ wd_766) (fun _ h9 => h9) rfl dX3_descend_131 ?_
                  refine lv_if_ne (tgt := 349) hx hb dX3_descend_134 (by decide) (fun c_467 => ?_) (fun c_467 => ?_)
                  · skip
                    rw [← Int32.toInt_inj, ti_0] at c_467
                    exact hcut_355 ls (lv_sub hl [0, 1, 2, 3, 4, 5, 6, 7, 8, 9, 10] rfl)
                  · skip
                    rw [← Int32.toInt_inj, ti_0] at c_467
                    refine lv_iload hx hb dX3_descend_137 (lv_at hl 0 rfl) ?_
                    refine lv_iconst (v := 4) hx hb dX3_descend_139 (by decide) ?_
                    have hcut_469 : ∀ (y_468 : Int32), (0 ≤ y_468.toInt ∧ y_468.toInt ≤ 8) → (y_468.toInt = 0 ∨ p2.toInt ≤ 7) → ∀ (ls : Array Slot), lv_has ls 18 [(10, .int y_351), (9, .int 8), (8, .int y_352), (7, .int x_23), (6, .int y_20), (0, .ref o0), (1, .int 0), (2, .int p2), (3, .int p3), (4, .int p4), (5, .int p5)] → W p l e (headSpec (wU yX3_descend cX3_descend 18 (some .boolean)) { frames := 12, cells := 0, slots := 0, locals := 420 }).room s m [.ref o0, .int 0, .int p2, .int p3, .int p4, .int p5].toArray below meth c H locs 0 0 (MQ below (va_Qi (fun (r : Int32) (f9 : Nat → va_E) => GI (okc cI cL cZ cR cG cH L kd) kd L f9 ∧ (0 ≤ r.toInt ∧ r.toInt ≤ 1) ∧ (∀ b, kd b ≠ 1 → kd b ≠ 3 → kd b ≠ 10 → kd b ≠ 517 → kd b ≠ 518 → kd b ≠ 519 → kd b ≠ 520 → kd b ≠ 521 → kd b ≠ 522 → kd b ≠ 523 → kd b ≠ 524 → kd b ≠ 525 → kd b ≠ 526 → kd b ≠ 527 → f9 b = f b) ∧ (∀ b, kd b = 1 → fldR (f9 b) 0 = fldR (f b) 0) ∧ (∀ b, kd b = 1 → fldR (f9 b) 1 = fldR (f b) 1) ∧ (∀ b, kd b = 3 → fldR (f9 b) 0 = fldR (f b) 0) ∧ (∀ b, kd b = 3 → fldR (f9 b) 3 = fldR (f b) 3) ∧ (∀ d9, fldR (f9 o0) 3 = some d9 → drel kd 1 521 522 f9 d9)) (qP (dC, dI) cI cL cZ cR cG cH L) (fun q => q ∈ L)) [.ref o0, .int 0, .int p2, .int p3, .int p4, .int p5].toArray s 0 0 (fun q => q ∈ L)) (F0 m 153 ls [.int y_468]) := by
                      intro y_468 by_468 hjhcut_469_0 ls hl
                      refine lv_istore (lv' := [(11, .int y_468), (10, .int y_351), (9, .int 8), (8, .int y_352), (7, .int x_23), (6, .int y_20), (0, .ref o0), (1, .int 0), (2, .int p2), (3, .int p3), (4, .int p4), (5, .int p5)]) hx hb dX3_descend_153 hl (by decide) rfl (fun ls hl => ?_)
                      refine lv_aload_n hx hb dX3_descend_155 rfl (lv_at hl 6 rfl) ?_
                      refine lv_iload hx hb dX3_descend_156 (lv_at hl 0 rfl) ?_
                      refine lv_iload hx hb dX3_descend_158 (lv_at hl 1 rfl) ?_
                      refine lv_iconst (v := 4) hx hb dX3_descend_160 (by decide) ?_
                      refine lv_irem hx hb dX3_descend_161 (by decide) ?_
                      refine lv_topi (fun x_470 ex_470 => ?_)
                      have hx_470 : x_470.toInt = y_351.toInt % 4 := by rw [ex_470, rm_I (by omega) (by rw [ti_4]; omega), ti_4]
                      have bx_470 : (0 ≤ x_470.toInt ∧ x_470.toInt ≤ 3) := by constructor <;> omega
                      refine tk_ViP (As := [.int y_468, .int x_470]) (rest := []) (n := 2) hx hb hml hown hU hN hZ (s_X3_choiceOf_k3 l (dC, dI) cI cL cZ cR cG cH Z kd L f_354 hG o0 mo0 ko0 y_468 (by constructor <;> omega) x_470 (by constructor <;> omega)) wd_819 wd_820 wd_821 wd_16 wd_822 (by decide +kernel) ⟨Nat.le_of_ble_eq_true rfl, Nat.le_of_ble_eq_true rfl⟩ hK hP hD hS mo0 hfo_444 3 rfl rfl rfl hl.1 rfl (Nat.le_of_ble_eq_true rfl) dX3_descend_162 ⟨Nat.le_of_ble_eq_true rfl, Nat.le_of_ble_eq_true rfl⟩ (fun x_471 f_472 H locs hw hP hD hS => ?_)
                      obtain ⟨rfl, bx_471⟩ := hw
                      refine lv_istore (lv' := [(12, .int x_471), (11, .int y_468), (10, .int y_351), (9, .int 8), (8, .int y_352), (7, .int x_23), (6, .int y_20), (0, .ref o0), (1, .int 0), (2, .int p2), (3, .int p3), (4, .int p4), (5, .int p5)]) hx hb dX3_descend_165 hl (by decide) rfl (fun ls hl => ?_)
                      refine lv_iload hx hb dX3_descend_167 (lv_at hl 0 rfl) ?_
                      refine lv_iconst (v := (-1)) hx hb dX3_descend_169 (by decide) ?_
                      have hcut_477 : ∀ (y_474 : Int32), (0 ≤ y_474.toInt ∧ y_474.toInt ≤ 1) → ∀ (f_476 : Nat → va_E), GI (okc cI cL cZ cR cG cH L kd) kd L f_476 → ∀ (H : Heap) (locs : List Loc), va_P (dC, dI) vwCl (va_pl L f_476) H → va_S (fun q => q ∈ L) s.heap H locs → va_D (fun q => q ∈ L) (va_pl L f_476) → (∀ b, kd b ≠ 1 → kd b ≠ 3 → kd b ≠ 10 → kd b ≠ 517 → kd b ≠ 518 → kd b ≠ 519 → kd b ≠ 520 → kd b ≠ 521 → kd b ≠ 522 → kd b ≠ 523 → kd b ≠ 524 → kd b ≠ 525 → kd b ≠ 526 → kd b ≠ 527 → f_476 b = f b) → (∀ b, kd b = 1 → fldR (f_476 b) 0 = fldR (f b) 0) → (∀ b, kd b = 1 → fldR (f_476 b) 1 = fldR (f b) 1) → (∀ b, kd b = 3 → fldR (f_476 b) 0 = fldR (f b) 0) → (∀ b, kd b = 3 → fldR (f_476 b) 3 = fldR (f b) 3) → drel kd 1 521 522 f_476 a_5 → ∀ (ls : Array Slot), lv_has ls 18 [(12, .int x_471), (11, .int y_468), (10, .int y_351), (9, .int 8), (8, .int y_474), (7, .int x_23), (6, .int y_20), (0, .ref o0), (1, .int 0), (2, .int p2), (3, .int p3), (4, .int p4), (5, .int p5)] → W p l e (headSpec (wU yX3_descend cX3_descend 18 (some .boolean)) { frames := 12, cells := 0, slots := 0, locals := 420 }).room s m [.ref o0, .int 0, .int p2, .int p3, .int p4, .int p5].toArray below meth c H locs 0 0 (MQ below (va_Qi (fun (r : Int32) (f9 : Nat → va_E) => GI (okc cI cL cZ cR cG cH L kd) kd L f9 ∧ (0 ≤ r.toInt ∧ r.toInt ≤ 1) ∧ (∀ b, kd b ≠ 1 → kd b ≠ 3 → kd b ≠ 10 → kd b ≠ 517 → kd b ≠ 518 → kd b ≠ 519 → kd b ≠ 520 → kd b ≠ 521 → kd b ≠ 522 → kd b ≠ 523 → kd b ≠ 524 → kd b ≠ 525 → kd b ≠ 526 → kd b ≠ 527 → f9 b = f b) ∧ (∀ b, kd b = 1 → fldR (f9 b) 0 = fldR (f b) 0) ∧ (∀ b, kd b = 1 → fldR (f9 b) 1 = fldR (f b) 1) ∧ (∀ b, kd b = 3 → fldR (f9 b) 0 = fldR (f b) 0) ∧ (∀ b, kd b = 3 → fldR (f9 b) 3 = fldR (f b) 3) ∧ (∀ d9, fldR (f9 o0) 3 = some d9 → drel kd 1 521 522 f9 d9)) (qP (dC, dI) cI cL cZ cR cG cH L) (fun q => q ∈ L)) [.ref o0, .int 0, .int p2, .int p3, .int p4, .int p5].toArray s 0 0 (fun q => q ∈ L)) (F0 m 343 ls []) := by
                        intro y_474 by_474 f_476 hG H locs hP hS hD hfr0 hrr1_0 hrr1_1 hrr3_0 hrr3_3 hT0 ls hl
                        obtain ⟨x_478, ex_478⟩ : ∃ y : Int32, y_351 + 1 = y := ⟨_, rfl⟩
                        have hx_478 : x_478.toInt = y_351.toInt + 1 := by rw [← ex_478, ad_I (by rw [ti_1]; omega) (by rw [ti_1]; omega), ti_1]
                        have bx_478 : (1 ≤ x_478.toInt ∧ x_478.toInt ≤ 8) := by constructor <;> omega
                        refine lv_iinc (v := x_478) (lv' := [(10, .int x_478), (12, .int x_471), (11, .int y_468), (9, .int 8), (8, .int y_474), (7, .int x_23), (6, .int y_20), (0, .ref o0), (1, .int 0), (2, .int p2), (3, .int p3), (4, .int p4), (5, .int p5)]) hx hb dX3_descend_343 hl (k := 2) rfl ex_478 (by decide) rfl (fun ls hl => ?_)
                        refine lv_goto (tgt := 120) hx hb dX3_descend_346 (by decide) ?_
                        exact ih_hloop_350 x_478 (by constructor <;> omega) y_474 (by constructor <;> omega) f_476 hG _ _ hP hS hD hfr0 hrr1_0 hrr1_1 hrr3_0 hrr3_3 hT0 (by (try rw [ti_8]) <;> (try rw [ti_0]) <;> omega) (by (try rw [ti_8]) <;> (try rw [ti_0]) <;> omega) ls (lv_sub hl [0, 3, 4, 5, 6, 7, 8, 9, 10, 11, 12] rfl)
                      refine lv_icmp_ne (tgt := 176) hx hb dX3_descend_170 (by decide) (fun c_479 => ?_) (fun c_479 => ?_)
                      · skip
                        rw [← Int32.toInt_inj, ti_m1] at c_479
                        refine lv_aload_n hx hb dX3_descend_176 rfl (lv_at hl 7 rfl) ?_
                        refine tk_getP (D := (dC, dI)) (ci := 3) (v := .int v_451) (C := RX3) (T := TX3) (N := 18) hx hb hU inlX3 hown hK hP mo0 hfo_444 rfl 6 (by decide) (hU _ wd_732) (fun _ h9 => h9) rfl dX3_descend_177 ?_
                        have hcut_481 : ∀ (y_480 : Int32), (0 ≤ y_480.toInt ∧ y_480.toInt ≤ 8) → ∀ (ls : Array Slot), lv_has ls 18 [(12, .int x_471), (11, .int y_468), (10, .int y_351), (9, .int 8), (8, .int y_352), (7, .int x_23), (6, .int y_20), (0, .ref o0), (1, .int 0), (2, .int p2), (3, .int p3), (4, .int p4), (5, .int p5)] → W p l e (headSpec (wU yX3_descend cX3_descend 18 (some .boolean)) { frames := 12, cells := 0, slots := 0, locals := 420 }).room s m [.ref o0, .int 0, .int p2, .int p3, .int p4, .int p5].toArray below meth c H locs 0 0 (MQ below (va_Qi (fun (r : Int32) (f9 : Nat → va_E) => GI (okc cI cL cZ cR cG cH L kd) kd L f9 ∧ (0 ≤ r.toInt ∧ r.toInt ≤ 1) ∧ (∀ b, kd b ≠ 1 → kd b ≠ 3 → kd b ≠ 10 → kd b ≠ 517 → kd b ≠ 518 → kd b ≠ 519 → kd b ≠ 520 → kd b ≠ 521 → kd b ≠ 522 → kd b ≠ 523 → kd b ≠ 524 → kd b ≠ 525 → kd b ≠ 526 → kd b ≠ 527 → f9 b = f b) ∧ (∀ b, kd b = 1 → fldR (f9 b) 0 = fldR (f b) 0) ∧ (∀ b, kd b = 1 → fldR (f9 b) 1 = fldR (f b) 1) ∧ (∀ b, kd b = 3 → fldR (f9 b) 0 = fldR (f b) 0) ∧ (∀ b, kd b = 3 → fldR (f9 b) 3 = fldR (f b) 3) ∧ (∀ d9, fldR (f9 o0) 3 = some d9 → drel kd 1 521 522 f9 d9)) (qP (dC, dI) cI cL cZ cR cG cH L) (fun q => q ∈ L)) [.ref o0, .int 0, .int p2, .int p3, .int p4, .int p5].toArray s 0 0 (fun q => q ∈ L)) (F0 m 206 ls [.int y_480]) := by
                          intro y_480 by_480 ls hl
                          refine lv_istore (lv' := [(13, .int y_480), (12, .int x_471), (11, .int y_468), (10, .int y_351), (9, .int 8), (8, .int y_352), (7, .int x_23), (6, .int y_20), (0, .ref o0), (1, .int 0), (2, .int p2), (3, .int p3), (4, .int p4), (5, .int p5)]) hx hb dX3_descend_206 hl (by decide) rfl (fun ls hl => ?_)
                          refine lv_iload hx hb dX3_descend_208 (lv_at hl 2 rfl) ?_
                          have hcut_483 : ∀ (y_482 : Int32), (0 ≤ y_482.toInt ∧ y_482.toInt ≤ 1) → ∀ (ls : Array Slot), lv_has ls 18 [(13, .int y_480), (12, .int x_471), (11, .int y_468), (10, .int y_351), (9, .int 8), (8, .int y_352), (7, .int x_23), (6, .int y_20), (0, .ref o0), (1, .int 0), (2, .int p2), (3, .int p3), (4, .int p4), (5, .int p5)] → W p l e (headSpec (wU yX3_descend cX3_descend 18 (some .boolean)) { frames := 12, cells := 0, slots := 0, locals := 420 }).room s m [.ref o0, .int 0, .int p2, .int p3, .int p4, .int p5].toArray below meth c H locs 0 0 (MQ below (va_Qi (fun (r : Int32) (f9 : Nat → va_E) => GI (okc cI cL cZ cR cG cH L kd) kd L f9 ∧ (0 ≤ r.toInt ∧ r.toInt ≤ 1) ∧ (∀ b, kd b ≠ 1 → kd b ≠ 3 → kd b ≠ 10 → kd b ≠ 517 → kd b ≠ 518 → kd b ≠ 519 → kd b ≠ 520 → kd b ≠ 521 → kd b ≠ 522 → kd b ≠ 523 → kd b ≠ 524 → kd b ≠ 525 → kd b ≠ 526 → kd b ≠ 527 → f9 b = f b) ∧ (∀ b, kd b = 1 → fldR (f9 b) 0 = fldR (f b) 0) ∧ (∀ b, kd b = 1 → fldR (f9 b) 1 = fldR (f b) 1) ∧ (∀ b, kd b = 3 → fldR (f9 b) 0 = fldR (f b) 0) ∧ (∀ b, kd b = 3 → fldR (f9 b) 3 = fldR (f b) 3) ∧ (∀ d9, fldR (f9 o0) 3 = some d9 → drel kd 1 521 522 f9 d9)) (qP (dC, dI) cI cL cZ cR cG cH L) (fun q => q ∈ L)) [.ref o0, .int 0, .int p2, .int p3, .int p4, .int p5].toArray s 0 0 (fun q => q ∈ L)) (F0 m 223 ls [.int y_482]) := by
                            intro y_482 by_482 ls hl
                            refine lv_istore (lv' := [(14, .int y_482), (13, .int y_480), (12, .int x_471), (11, .int y_468), (10, .int y_351), (9, .int 8), (8, .int y_352), (7, .int x_23), (6, .int y_20), (0, .ref o0), (1, .int 0), (2, .int p2), (3, .int p3), (4, .int p4), (5, .int p5)]) hx hb dX3_descend_223 hl (by decide) rfl (fun ls hl => ?_)
                            refine lv_iload hx hb dX3_descend_225 (lv_at hl 0 rfl) ?_
                            refine lv_iload_n hx hb dX3_descend_227 rfl (lv_at hl 12 rfl) ?_
                            refine lv_icmp_gt (tgt := 343) hx hb dX3_descend_228 (by decide) (fun c_484 => ?_) (fun c_484 => ?_)
                            · skip
                              rw [Int32.lt_iff_toInt_lt] at c_484
                              exact hcut_477 y_352 (by constructor <;> omega) f_354 hG _ _ hP hS hD hfr0 hrr1_0 hrr1_1 hrr3_0 hrr3_3 hT0 ls (lv_sub hl [2, 3, 4, 5, 6, 7, 8, 9, 10, 11, 12, 13, 14] rfl)
                            · skip
                              rw [Int32.lt_iff_toInt_lt] at c_484
                              refine lv_aload_n hx hb dX3_descend_231 rfl (lv_at hl 9 rfl) ?_
                              refine lv_aload_n hx hb dX3_descend_232 rfl (lv_at hl 9 rfl) ?_
                              refine tk_getP (D := (dC, dI)) (ci := 3) (v := .ref a_447) (C := RX3) (T := TX3) (N := 18) hx hb hU inlX3 hown hK hP mo0 hfo_444 rfl 2 (by decide) (hU _ wd_56) (fun _ h9 => h9) rfl dX3_descend_233 ?_
                              refine lv_aload_n hx hb dX3_descend_236 rfl (lv_at hl 9 rfl) ?_
                              refine tk_getP (D := (dC, dI)) (ci := 3) (v := .ref a_2) (C := RX3) (T := TX3) (N := 18) hx hb hU inlX3 hown hK hP mo0 hfo_444 rfl 0 (by decide) (hU _ wd_48) (fun _ h9 => h9) rfl dX3_descend_237 ?_
                              refine lv_aload_n hx hb dX3_descend_240 rfl (lv_at hl 9 rfl) ?_
                              refine tk_getP (D := (dC, dI)) (ci := 3) (v := .int v_453) (C := RX3) (T := TX3) (N := 18) hx hb hU inlX3 hown hK hP mo0 hfo_444 rfl 8 (by decide) (hU _ wd_734) (fun _ h9 => h9) rfl dX3_descend_241 ?_
                              refine lv_iload_n hx hb dX3_descend_244 rfl (lv_at hl 10 rfl) ?_
                              refine lv_iload hx hb dX3_descend_245 (lv_at hl 2 rfl) ?_
                              obtain ⟨a_486, a_487, a_488, a_489, a_490, hfo_485, ⟨ma_486, ka_486⟩, ⟨ma_487, ka_487⟩, ⟨ma_488, ka_488⟩, ⟨ma_489, ka_489⟩, ⟨ma_490, ka_490⟩⟩ := un_8 (hG _ ma_447) ka_447
                              refine tk_ViP (As := [.ref a_2, .int v_453, .int 0, .int x_471]) (rest := [.ref o0]) (n := 4) hx hb hml hown hU hN hZ (s_X8_step_k8_k7 l (dC, dI) cI cL cZ cR cG cH Z kd L f_354 hG a_447 ma_447 ka_447 a_2 ma_2 ka_2 v_453 0 (by decide) x_471 (by constructor <;> omega)) wd_825 wd_826 wd_827 wd_55 wd_828 (by decide +kernel) ⟨Nat.le_of_ble_eq_true rfl, Nat.le_of_ble_eq_true rfl⟩ hK hP hD hS ma_447 hfo_485 8 rfl rfl rfl hl.1 rfl (Nat.le_of_ble_eq_true rfl) dX3_descend_247 ⟨Nat.le_of_ble_eq_true rfl, Nat.le_of_ble_eq_true rfl⟩ (fun x_491 f_492 H locs hw hP hD hS => ?_)
                              obtain ⟨hG, bx_491, hkc_493⟩ := hw
                              have hfo_495 : f_492 o0 = .inr (3, [.ref a_2, .ref a_446, .ref a_447, .ref a_5, .ref a_449, .int v_450, .int v_451, .int v_452, .int v_453, .int v_454, .int v_455, .int v_456, .ref a_457, .ref a_458, .ref a_459, .int v_460, .ref a_461, .ref a_462]) := by rw [hkc_493 o0 (by rw [ko0]; decide) (by rw [ko0]; decide) (by rw [ko0]; decide) (by rw [ko0]; decide)]; exact hfo_444
                              have hfo_496 : f_492 a_446 = .inr (10, [.ref a_464, .int v_465, .int v_466]) := by rw [hkc_493 a_446 (by rw [ka_446]; decide) (by rw [ka_446]; decide) (by rw [ka_446]; decide) (by rw [ka_446]; decide)]; exact hfo_463
                              have hfo_497 : f_492 a_447 = .inr (8, [.ref a_486, .ref a_487, .ref a_488, .ref a_489, .ref a_490]) := by rw [hkc_493 a_447 (by rw [ka_447]; decide) (by rw [ka_447]; decide) (by rw [ka_447]; decide) (by rw [ka_447]; decide)]; exact hfo_485
                              have hfr0 : ∀ b, kd b ≠ 1 → kd b ≠ 3 → kd b ≠ 10 → kd b ≠ 517 → kd b ≠ 518 → kd b ≠ 519 → kd b ≠ 520 → kd b ≠ 521 → kd b ≠ 522 → kd b ≠ 523 → kd b ≠ 524 → kd b ≠ 525 → kd b ≠ 526 → kd b ≠ 527 → f_492 b = f b := fun b q1 q3 q10 q517 q518 q519 q520 q521 q522 q523 q524 q525 q526 q527 => (hkc_493 b q517 q518 q519 q520).trans (hfr0 b q1 q3 q10 q517 q518 q519 q520 q521 q522 q523 q524 q525 q526 q527)
                              have hrr1_0 : ∀ b, kd b = 1 → fldR (f_492 b) 0 = fldR (f b) 0 := fun b kb => (congrArg (fun x => fldR x 0) (hkc_493 b (by rw [kb]; decide) (by rw [kb]; decide) (by rw [kb]; decide) (by rw [kb]; decide))).trans (hrr1_0 b kb)
                              have hrr1_1 : ∀ b, kd b = 1 → fldR (f_492 b) 1 = fldR (f b) 1 := fun b kb => (congrArg (fun x => fldR x 1) (hkc_493 b (by rw [kb]; decide) (by rw [kb]; decide) (by rw [kb]; decide) (by rw [kb]; decide))).trans (hrr1_1 b kb)
                              have hrr3_0 : ∀ b, kd b = 3 → fldR (f_492 b) 0 = fldR (f b) 0 := fun b kb => (congrArg (fun x => fldR x 0) (hkc_493 b (by rw [kb]; decide) (by rw [kb]; decide) (by rw [kb]; decide) (by rw [kb]; decide))).trans (hrr3_0 b kb)
                              have hrr3_3 : ∀ b, kd b = 3 → fldR (f_492 b) 3 = fldR (f b) 3 := fun b kb => (congrArg (fun x => fldR x 3) (hkc_493 b (by rw [kb]; decide) (by rw [kb]; decide) (by rw [kb]; decide) (by rw [kb]; decide))).trans (hrr3_3 b kb)
                              have hT0 : drel kd 1 521 522 f_492 a_5 := hT0.keep (fun b q => congrArg (fun x => fldI x 5) (hkc_493 b (by rw [q]; decide) (by rw [q]; decide) (by rw [q]; decide) (by rw [q]; decide))) (fun b q => congrArg (fun x => fldR x 0) (hkc_493 b (by rw [q]; decide) (by rw [q]; decide) (by rw [q]; decide) (by rw [q]; decide))) (fun b q => congrArg (fun x => fldR x 1) (hkc_493 b (by rw [q]; decide) (by rw [q]; decide) (by rw [q]; decide) (by rw [q]; decide))) (fun b q => hkc_493 b (by rw [q]; decide) (by rw [q]; decide) (by rw [q]; decide) (by rw [q]; decide)) (fun b q => hkc_493 b (by rw [q]; decide) (by rw [q]; decide) (by rw [q]; decide) (by rw [q]; decide))
                              refine tk_ViP (As := [.int x_491]) (rest := []) (n := 1) hx hb hml hown hU hN hZ (s_X3_isLeft_k3 l (dC, dI) cI cL cZ cR cG cH Z kd L f_492 hG o0 mo0 ko0 x_491) wd_806 wd_807 wd_808 wd_16 wd_809 (by decide +kernel) ⟨Nat.le_of_ble_eq_true rfl, Nat.le_of_ble_eq_true rfl⟩ hK hP hD hS mo0 hfo_495 3 rfl rfl rfl hl.1 rfl (Nat.le_of_ble_eq_true rfl) dX3_descend_250 ⟨Nat.le_of_ble_eq_true rfl, Nat.le_of_ble_eq_true rfl⟩ (fun x_498 f_499 H locs hw hP hD hS => ?_)
                              obtain ⟨rfl, bx_498⟩ := hw
                              refine lv_if_eq (tgt := 259) hx hb dX3_descend_253 (by decide) (fun c_501 => ?_) (fun c_501 => ?_)
                              · skip
                                rw [← Int32.toInt_inj, ti_0] at c_501
                                refine lv_aload_n hx hb dX3_descend_259 rfl (lv_at hl 9 rfl) ?_
                                refine tk_getP (D := (dC, dI)) (ci := 3) (v := .ref a_457) (C := RX3) (T := TX3) (N := 18) hx hb hU inlX3 hown hK hP mo0 hfo_495 rfl 12 (by decide) (hU _ wd_63) (fun _ h9 => h9) rfl dX3_descend_260 ?_
                                refine lv_iload_n hx hb dX3_descend_263 rfl (lv_at hl 10 rfl) ?_
                                refine lv_iload hx hb dX3_descend_264 (lv_at hl 2 rfl) ?_
                                obtain ⟨g_503, hfo_502, hbg_503⟩ := un_525 (hG _ ma_457) ka_457
                                refine tk_istP hx hb hK hP hD hS 0 ma_457 hfo_502 rfl (vp_in_nI (n := 0) (by decide) (by decide)) dX3_descend_266 (fun H locs hP hD hS => ?_)
                                obtain ⟨f_505, ef_505⟩ : ∃ y : Nat → va_E, y = va_up f_492 a_457 (.inl (cI, 9, .inl (upd g_503 (Int32.toNatClampNeg 0) x_471))) := ⟨_, rfl⟩
                                have hP : va_P (dC, dI) vwCl (va_pl L f_505) H := by rw [ef_505]; exact hP
                                have hD : va_D (fun q => q ∈ L) (va_pl L f_505) := by rw [ef_505]; exact hD
                                have hG : GI (okc cI cL cZ cR cG cH L kd) kd L f_505 := by rw [ef_505]; exact hG.set a_457 (mk_525 ka_457 ⟨_, rfl, okI_up hbg_503 (by constructor <;> omega) _⟩)
                                have hfo_506 : f_505 o0 = .inr (3, [.ref a_2, .ref a_446, .ref a_447, .ref a_5, .ref a_449, .int v_450, .int v_451, .int v_452, .int v_453, .int v_454, .int v_455, .int v_456, .ref a_457, .ref a_458, .ref a_459, .int v_460, .ref a_461, .ref a_462]) := by rw [ef_505, up_ne (kd_ne ka_457 ko0 (by decide))]; exact hfo_495
                                have hfo_507 : f_505 a_446 = .inr (10, [.ref a_464, .int v_465, .int v_466]) := by rw [ef_505, up_ne (kd_ne ka_457 ka_446 (by decide))]; exact hfo_496
                                have hfo_508 : f_505 a_447 = .inr (8, [.ref a_486, .ref a_487, .ref a_488, .ref a_489, .ref a_490]) := by rw [ef_505, up_ne (kd_ne ka_457 ka_447 (by decide))]; exact hfo_497
                                have hfr0 : ∀ b, kd b ≠ 1 → kd b ≠ 3 → kd b ≠ 10 → kd b ≠ 517 → kd b ≠ 518 → kd b ≠ 519 → kd b ≠ 520 → kd b ≠ 521 → kd b ≠ 522 → kd b ≠ 523 → kd b ≠ 524 → kd b ≠ 525 → kd b ≠ 526 → kd b ≠ 527 → f_505 b = f b := fun b q1 q3 q10 q517 q518 q519 q520 q521 q522 q523 q524 q525 q526 q527 => (congrFun ef_505 b).trans ((up_ne (fun e9 => q525 (by rw [e9]; exact ka_457))).trans (hfr0 b q1 q3 q10 q517 q518 q519 q520 q521 q522 q523 q524 q525 q526 q527))
                                have hrr1_0 : ∀ b, kd b = 1 → fldR (f_505 b) 0 = fldR (f b) 0 := fun b kb => (congrArg (fun x => fldR x 0) ((congrFun ef_505 b).trans (up_ne (kd_ne ka_457 kb (by decide))))).trans (hrr1_0 b kb)
                                have hrr1_1 : ∀ b, kd b = 1 → fldR (f_505 b) 1 = fldR (f b) 1 := fun b kb => (congrArg (fun x => fldR x 1) ((congrFun ef_505 b).trans (up_ne (kd_ne ka_457 kb (by decide))))).trans (hrr1_1 b kb)
                                have hrr3_0 : ∀ b, kd b = 3 → fldR (f_505 b) 0 = fldR (f b) 0 := fun b kb => (congrArg (fun x => fldR x 0) ((congrFun ef_505 b).trans (up_ne (kd_ne ka_457 kb (by decide))))).trans (hrr3_0 b kb)
                                have hrr3_3 : ∀ b, kd b = 3 → fldR (f_505 b) 3 = fldR (f b) 3 := fun b kb => (congrArg (fun x => fldR x 3) ((congrFun ef_505 b).trans (up_ne (kd_ne ka_457 kb (by decide))))).trans (hrr3_3 b kb)
                                have hT0 : drel kd 1 521 522 f_505 a_5 := by rw [ef_505]; exact hT0.up ka_457 (by decide) (by decide) (by decide)
                                have hfo_509 : f_505 a_457 = .inl (cI, 9, .inl (upd g_503 (Int32.toNatClampNeg 0) x_471)) := by rw [ef_505]; exact up_self
                                refine lv_iload hx hb dX3_descend_267 (lv_at hl 3 rfl) ?_
                                have hcut_511 : ∀ (y_510 : Int32), (0 ≤ y_510.toInt ∧ y_510.toInt ≤ 8) → ∀ (ls : Array Slot), lv_has ls 18 [(14, .int y_482), (13, .int y_480), (12, .int x_471), (11, .int y_468), (10, .int y_351), (9, .int 8), (8, .int y_352), (7, .int x_23), (6, .int y_20), (0, .ref o0), (1, .int 0), (2, .int p2), (3, .int p3), (4, .int p4), (5, .int p5)] → W p l e (headSpec (wU yX3_descend cX3_descend 18 (some .boolean)) { frames := 12, cells := 0, slots := 0, locals := 420 }).room s m [.ref o0, .int 0, .int p2, .int p3, .int p4, .int p5].toArray below meth c H locs 0 0 (MQ below (va_Qi (fun (r : Int32) (f9 : Nat → va_E) => GI (okc cI cL cZ cR cG cH L kd) kd L f9 ∧ (0 ≤ r.toInt ∧ r.toInt ≤ 1) ∧ (∀ b, kd b ≠ 1 → kd b ≠ 3 → kd b ≠ 10 → kd b ≠ 517 → kd b ≠ 518 → kd b ≠ 519 → kd b ≠ 520 → kd b ≠ 521 → kd b ≠ 522 → kd b ≠ 523 → kd b ≠ 524 → kd b ≠ 525 → kd b ≠ 526 → kd b ≠ 527 → f9 b = f b) ∧ (∀ b, kd b = 1 → fldR (f9 b) 0 = fldR (f b) 0) ∧ (∀ b, kd b = 1 → fldR (f9 b) 1 = fldR (f b) 1) ∧ (∀ b, kd b = 3 → fldR (f9 b) 0 = fldR (f b) 0) ∧ (∀ b, kd b = 3 → fldR (f9 b) 3 = fldR (f b) 3) ∧ (∀ d9, fldR (f9 o0) 3 = some d9 → drel kd 1 521 522 f9 d9)) (qP (dC, dI) cI cL cZ cR cG cH L) (fun q => q ∈ L)) [.ref o0, .int 0, .int p2, .int p3, .int p4, .int p5].toArray s 0 0 (fun q => q ∈ L)) (F0 m 279 ls [.int y_510]) := by
                                  intro y_510 by_510 ls hl
                                  refine lv_istore (lv' := [(15, .int y_510), (14, .int y_482), (13, .int y_480), (12, .int x_471), (11, .int y_468), (10, .int y_351), (9, .int 8), (8, .int y_352), (7, .int x_23), (6, .int y_20), (0, .ref o0), (1, .int 0), (2, .int p2), (3, .int p3), (4, .int p4), (5, .int p5)]) hx hb dX3_descend_279 hl (by decide) rfl (fun ls hl => ?_)
                                  refine lv_iload hx hb dX3_descend_281 (lv_at hl 2 rfl) ?_
                                  have hcut_513 : ∀ (y_512 : Int32), (0 ≤ y_512.toInt ∧ y_512.toInt ≤ 731794256) → ((y_480.toInt = 0 ∧ y_512.toInt = p4.toInt) ∨ (1 ≤ y_480.toInt ∧ capR y_512.toInt (p5.toInt + 1))) → ∀ (ls : Array Slot), lv_has ls 18 [(15, .int y_510), (14, .int y_482), (13, .int y_480), (12, .int x_471), (11, .int y_468), (10, .int y_351), (9, .int 8), (8, .int y_352), (7, .int x_23), (6, .int y_20), (0, .ref o0), (1, .int 0), (2, .int p2), (3, .int p3), (4, .int p4), (5, .int p5)] → W p l e (headSpec (wU yX3_descend cX3_descend 18 (some .boolean)) { frames := 12, cells := 0, slots := 0, locals := 420 }).room s m [.ref o0, .int 0, .int p2, .int p3, .int p4, .int p5].toArray below meth c H locs 0 0 (MQ below (va_Qi (fun (r : Int32) (f9 : Nat → va_E) => GI (okc cI cL cZ cR cG cH L kd) kd L f9 ∧ (0 ≤ r.toInt ∧ r.toInt ≤ 1) ∧ (∀ b, kd b ≠ 1 → kd b ≠ 3 → kd b ≠ 10 → kd b ≠ 517 → kd b ≠ 518 → kd b ≠ 519 → kd b ≠ 520 → kd b ≠ 521 → kd b ≠ 522 → kd b ≠ 523 → kd b ≠ 524 → kd b ≠ 525 → kd b ≠ 526 → kd b ≠ 527 → f9 b = f b) ∧ (∀ b, kd b = 1 → fldR (f9 b) 0 = fldR (f b) 0) ∧ (∀ b, kd b = 1 → fldR (f9 b) 1 = fldR (f b) 1) ∧ (∀ b, kd b = 3 → fldR (f9 b) 0 = fldR (f b) 0) ∧ (∀ b, kd b = 3 → fldR (f9 b) 3 = fldR (f b) 3) ∧ (∀ d9, fldR (f9 o0) 3 = some d9 → drel kd 1 521 522 f9 d9)) (qP (dC, dI) cI cL cZ cR cG cH L) (fun q => q ∈ L)) [.ref o0, .int 0, .int p2, .int p3, .int p4, .int p5].toArray s 0 0 (fun q => q ∈ L)) (F0 m 303 ls [.int y_512]) := by
                                    intro y_512 by_512 hjhcut_513_0 ls hl
                                    refine lv_istore (lv' := [(16, .int y_512), (15, .int y_510), (14, .int y_482), (13, .int y_480), (12, .int x_471), (11, .int y_468), (10, .int y_351), (9, .int 8), (8, .int y_352), (7, .int x_23), (6, .int y_20), (0, .ref o0), (1, .int 0), (2, .int p2), (3, .int p3), (4, .int p4), (5, .int p5)]) hx hb dX3_descend_303 hl (by decide) rfl (fun ls hl => ?_)
                                    refine lv_iload hx hb dX3_descend_305 (lv_at hl 3 rfl) ?_
                                    have hcut_515 : ∀ (y_514 : Int32), (0 ≤ y_514.toInt ∧ y_514.toInt ≤ 1) → ((y_480.toInt = 0 ∧ y_514.toInt = p5.toInt) ∨ (1 ≤ y_480.toInt ∧ y_514.toInt = p5.toInt + 1)) → ∀ (ls : Array Slot), lv_has ls 18 [(16, .int y_512), (15, .int y_510), (14, .int y_482), (13, .int y_480), (12, .int x_471), (11, .int y_468), (10, .int y_351), (9, .int 8), (8, .int y_352), (7, .int x_23), (6, .int y_20), (0, .ref o0), (1, .int 0), (2, .int p2), (3, .int p3), (4, .int p4), (5, .int p5)] → W p l e (headSpec (wU yX3_descend cX3_descend 18 (some .boolean)) { frames := 12, cells := 0, slots := 0, locals := 420 }).room s m [.ref o0, .int 0, .int p2, .int p3, .int p4, .int p5].toArray below meth c H locs 0 0 (MQ below (va_Qi (fun (r : Int32) (f9 : Nat → va_E) => GI (okc cI cL cZ cR cG cH L kd) kd L f9 ∧ (0 ≤ r.toInt ∧ r.toInt ≤ 1) ∧ (∀ b, kd b ≠ 1 → kd b ≠ 3 → kd b ≠ 10 → kd b ≠ 517 → kd b ≠ 518 → kd b ≠ 519 → kd b ≠ 520 → kd b ≠ 521 → kd b ≠ 522 → kd b ≠ 523 → kd b ≠ 524 → kd b ≠ 525 → kd b ≠ 526 → kd b ≠ 527 → f9 b = f b) ∧ (∀ b, kd b = 1 → fldR (f9 b) 0 = fldR (f b) 0) ∧ (∀ b, kd b = 1 → fldR (f9 b) 1 = fldR (f b) 1) ∧ (∀ b, kd b = 3 → fldR (f9 b) 0 = fldR (f b) 0) ∧ (∀ b, kd b = 3 → fldR (f9 b) 3 = fldR (f b) 3) ∧ (∀ d9, fldR (f9 o0) 3 = some d9 → drel kd 1 521 522 f9 d9)) (qP (dC, dI) cI cL cZ cR cG cH L) (fun q => q ∈ L)) [.ref o0, .int 0, .int p2, .int p3, .int p4, .int p5].toArray s 0 0 (fun q => q ∈ L)) (F0 m 319 ls [.int y_514]) := by
                                      intro y_514 by_514 hjhcut_515_0 ls hl
                                      refine lv_istore (lv' := [(17, .int y_514), (16, .int y_512), (15, .int y_510), (14, .int y_482), (13, .int y_480), (12, .int x_471), (11, .int y_468), (10, .int y_351), (9, .int 8), (8, .int y_352), (7, .int x_23), (6, .int y_20), (0, .ref o0), (1, .int 0), (2, .int p2), (3, .int p3), (4, .int p4), (5, .int p5)]) hx hb dX3_descend_319 hl (by decide) rfl (fun ls hl => ?_)
                                      refine lv_iload hx hb dX3_descend_321 (lv_at hl 9 rfl) ?_
                                      refine lv_aload_n hx hb dX3_descend_323 rfl (lv_at hl 12 rfl) ?_
                                      refine lv_iload_n hx hb dX3_descend_324 rfl (lv_at hl 13 rfl) ?_
                                      refine lv_iconst (v := 1) hx hb dX3_descend_325 (by decide) ?_
                                      refine lv_iadd hx hb dX3_descend_326 ?_
                                      refine tk_topi (y := 1) (by decide) ?_
                                      refine lv_iload hx hb dX3_descend_327 (lv_at hl 2 rfl) ?_
                                      refine lv_iload_n hx hb dX3_descend_329 rfl (lv_at hl 15 rfl) ?_
                                      refine lv_iload hx hb dX3_descend_330 (lv_at hl 3 rfl) ?_
                                      refine lv_isub hx hb dX3_descend_332 ?_
                                      refine lv_topi (fun x_516 ex_516 => ?_)
                                      have hx_516 : x_516.toInt = p3.toInt - y_482.toInt := by rw [ex_516, sb_I (by omega) (by omega)]
                                      have bx_516 : ((-1) ≤ x_516.toInt ∧ x_516.toInt ≤ 2147483647) := by constructor <;> omega
                                      refine lv_iload hx hb dX3_descend_333 (lv_at hl 1 rfl) ?_
                                      refine lv_iload hx hb dX3_descend_335 (lv_at hl 0 rfl) ?_
                                      have hccc_517 : (0 ≤ y_512.toInt ∧ y_512.toInt ≤ 387420488) := by have hq9 := hjhcut_513_0; unfold capR at hq9; constructor <;> omega
                                      refine tk_ViP (As := [.int 1, .int y_510, .int x_516, .int y_512, .int y_514]) (rest := [.int y_352]) (n := 5) hx hb hml hown hU hN hZ (s_X3_descend_k3_c1 l (dC, dI) cI cL cZ cR cG cH Z kd L f_505 hG o0 mo0 ko0 y_510 (by constructor <;> omega) x_516 y_512 (by constructor <;> omega) y_514 (by constructor <;> omega) (fun d9 h9 => by rw [hfo_506] at h9; obtain rfl := Option.some.inj h9; exact hT0) (by rcases hjhcut_513_0 with ⟨q1, q2⟩ | ⟨q1, q2⟩ <;> rcases hjhcut_515_0 with ⟨q3, q4⟩ | ⟨q3, q4⟩ <;> first | (exfalso; omega) | (rw [q2, q4]; exact hxpre0) | (rw [q4]; exact q2))) wd_762 wd_763 wd_764 wd_16 wd_765 (by decide +kernel) ⟨Nat.le_of_ble_eq_true rfl, Nat.le_of_ble_eq_true rfl⟩ hK hP hD hS mo0 hfo_506 3 rfl rfl rfl hl.1 rfl (Nat.le_of_ble_eq_true rfl) dX3_descend_337 ⟨Nat.le_of_ble_eq_true rfl, Nat.le_of_ble_eq_true rfl⟩ (fun x_518 f_519 H locs hw hP hD hS => ?_)
                                      obtain ⟨hG, bx_518, hkc_520, hrc_521, hrc_522, hrc_523, hrc_524, hTc_525⟩ := hw
                                      have hfo_527 : f_519 a_447 = .inr (8, [.ref a_486, .ref a_487, .ref a_488, .ref a_489, .ref a_490]) := by rw [hkc_520 a_447 (by rw [ka_447]; decide) (by rw [ka_447]; decide) (by rw [ka_447]; decide) (by rw [ka_447]; decide) (by rw [ka_447]; decide) (by rw [ka_447]; decide) (by rw [ka_447]; decide) (by rw [ka_447]; decide) (by rw [ka_447]; decide) (by rw [ka_447]; decide) (by rw [ka_447]; decide) (by rw [ka_447]; decide) (by rw [ka_447]; decide) (by rw [ka_447]; decide)]; exact hfo_508
                                      have hfr0 : ∀ b, kd b ≠ 1 → kd b ≠ 3 → kd b ≠ 10 → kd b ≠ 517 → kd b ≠ 518 → kd b ≠ 519 → kd b ≠ 520 → kd b ≠ 521 → kd b ≠ 522 → kd b ≠ 523 → kd b ≠ 524 → kd b ≠ 525 → kd b ≠ 526 → kd b ≠ 527 → f_519 b = f b := fun b q1 q3 q10 q517 q518 q519 q520 q521 q522 q523 q524 q525 q526 q527 => (hkc_520 b q1 q3 q10 q517 q518 q519 q520 q521 q522 q523 q524 q525 q526 q527).trans (hfr0 b q1 q3 q10 q517 q518 q519 q520 q521 q522 q523 q524 q525 q526 q527)
                                      have hrr1_0 : ∀ b, kd b = 1 → fldR (f_519 b) 0 = fldR (f b) 0 := fun b kb => (hrc_521 b kb).trans (hrr1_0 b kb)
                                      have hrr1_1 : ∀ b, kd b = 1 → fldR (f_519 b) 1 = fldR (f b) 1 := fun b kb => (hrc_522 b kb).trans (hrr1_1 b kb)
                                      have hrr3_0 : ∀ b, kd b = 3 → fldR (f_519 b) 0 = fldR (f b) 0 := fun b kb => (hrc_523 b kb).trans (hrr3_0 b kb)
                                      have hrr3_3 : ∀ b, kd b = 3 → fldR (f_519 b) 3 = fldR (f b) 3 := fun b kb => (hrc_524 b kb).trans (hrr3_3 b kb)
                                      obtain ⟨a_529, a_530, a_531, a_532, a_533, v_534, v_535, v_536, v_537, v_538, v_539, v_540, a_541, a_542, a_543, v_544, a_545, a_546, hfo_528, ⟨ma_529, ka_529⟩, ⟨ma_530, ka_530⟩, ⟨ma_531, ka_531⟩, ⟨ma_532, ka_532⟩, ⟨ma_533, ka_533⟩, bv_534, bv_535, bv_536, ⟨ma_541, ka_541⟩, ⟨ma_542, ka_542⟩, ⟨ma_543, ka_543⟩, bv_544, ⟨ma_545, ka_545⟩, ⟨ma_546, ka_546⟩⟩ := un_3 (hG _ mo0) ko0
                                      have bv_537 : ((-2147483648) ≤ v_537.toInt ∧ v_537.toInt ≤ 2147483647) := ⟨i32_lo _, i32_hi _⟩
                                      have bv_538 : ((-2147483648) ≤ v_538.toInt ∧ v_538.toInt ≤ 2147483647) := ⟨i32_lo _, i32_hi _⟩
                                      have bv_539 : ((-2147483648) ≤ v_539.toInt ∧ v_539.toInt ≤ 2147483647) := ⟨i32_lo _, i32_hi _⟩
                                      have bv_540 : ((-2147483648) ≤ v_540.toInt ∧ v_540.toInt ≤ 2147483647) := ⟨i32_lo _, i32_hi _⟩
                                      obtain rfl : a_2 = a_529 := by have hk9 := hrr3_0 o0 ko0; rw [hfo_528, hfo_1] at hk9; exact (Option.some.inj hk9).symm
                                      obtain rfl : a_5 = a_532 := by have hk9 := hrr3_3 o0 ko0; rw [hfo_528, hfo_1] at hk9; exact (Option.some.inj hk9).symm
                                      have hT_547 := hTc_525 a_5 (by rw [hfo_528]; rfl)
                                      refine lv_ior hx hb dX3_descend_340 ?_
                                      refine lv_topi (fun x_548 ex_548 => ?_)
                                      have bx_548 : (0 ≤ x_548.toInt ∧ x_548.toInt ≤ 1) := by rw [ex_548]; exact or_K 1 (by decide) (by constructor <;> omega) (by constructor <;> omega)
                                      refine lv_istore (lv' := [(8, .int x_548), (17, .int y_514), (16, .int y_512), (15, .int y_510), (14, .int y_482), (13, .int y_480), (12, .int x_471), (11, .int y_468), (10, .int y_351), (9, .int 8), (7, .int x_23), (6, .int y_20), (0, .ref o0), (1, .int 0), (2, .int p2), (3, .int p3), (4, .int p4), (5, .int p5)]) hx hb dX3_descend_341 hl (by decide) rfl (fun ls hl => ?_)
                                      exact hcut_477 x_548 (by constructor <;> omega) f_519 hG _ _ hP hS hD hfr0 hrr1_0 hrr1_1 hrr3_0 hrr3_3 hT_547 ls (lv_sub hl [6, 7, 8, 9, 0, 10, 11, 12, 13, 14, 15, 16, 17] rfl)
                                    refine lv_if_ne (tgt := 315) hx hb dX3_descend_307 (by decide) (fun c_549 => ?_) (fun c_549 => ?_)
                                    · skip
                                      rw [← Int32.toInt_inj, ti_0] at c_549
                                      refine lv_iload hx hb dX3_descend_315 (lv_at hl 16 rfl) ?_
                                      refine lv_iconst (v := 1) hx hb dX3_descend_317 (by decide) ?_
                                      refine lv_iadd hx hb dX3_descend_318 ?_
                                      refine lv_topi (fun x_550 ex_550 => ?_)
                                      have hx_550 : x_550.toInt = p5.toInt + 1 := by rw [ex_550, ad_I (by rw [ti_1]; omega) (by rw [ti_1]; omega), ti_1]
                                      have bx_550 : (1 ≤ x_550.toInt ∧ x_550.toInt ≤ 1) := by constructor <;> omega
                                      exact hcut_515 x_550 (by constructor <;> omega) (by (try rw [ti_8]) <;> (try rw [ti_0]) <;> omega) ls (lv_sub hl [0, 1, 2, 3, 4, 5, 6, 7, 8, 9, 10, 11, 12, 13, 14, 15, 16] rfl)
                                    · skip
                                      rw [← Int32.toInt_inj, ti_0] at c_549
                                      refine lv_iload hx hb dX3_descend_310 (lv_at hl 16 rfl) ?_
                                      refine lv_goto (tgt := 319) hx hb dX3_descend_312 (by decide) ?_
                                      exact hcut_515 p5 (by constructor <;> omega) (by (try rw [ti_8]) <;> (try rw [ti_0]) <;> omega) ls (lv_sub hl [0, 1, 2, 3, 4, 5, 6, 7, 8, 9, 10, 11, 12, 13, 14, 15, 16] rfl)
                                  refine lv_if_ne (tgt := 291) hx hb dX3_descend_283 (by decide) (fun c_551 => ?_) (fun c_551 => ?_)
                                  · skip
                                    rw [← Int32.toInt_inj, ti_0] at c_551
                                    refine lv_iload hx hb dX3_descend_291 (lv_at hl 14 rfl) ?_
                                    refine lv_iload hx hb dX3_descend_293 (lv_at hl 2 rfl) ?_
                                    refine va_gets hx hb hZ.2.2.1 hS hown (hU _ wd_769) (fun _ h9 => h9) dX3_descend_295 ?_
                                    refine lv_iload hx hb dX3_descend_298 (lv_at hl 15 rfl) ?_
                                    refine va_ti (v := zWt (Int32.toNatClampNeg p5)) hx hb hZ.2.2.2.1 hS (vp_in_iff.mpr (by constructor <;> omega)) rfl dX3_descend_300 ?_
                                    rw [zWt]
                                    refine lv_topi (fun x_552 ex_552 => ?_)
                                    have bx_552 : (1 ≤ x_552.toInt ∧ x_552.toInt ≤ 43046721) := by rw [ex_552]; exact zw_b (vp_in_iff.mpr (by constructor <;> omega))
                                    have htx_552 := zw_t ex_552 (vp_in_iff.mpr (by constructor <;> omega))
                                    refine lv_imul hx hb dX3_descend_301 ?_
                                    refine lv_topi (fun x_553 ex_553 => ?_)
                                    have bx_553 : (0 ≤ x_553.toInt ∧ x_553.toInt ≤ 344373768) := by rw [ex_553]; exact ml_B (a := 8) (b := 43046721) (by constructor <;> omega) (by constructor <;> omega) (by decide)
                                    have hm8 : 0 ≤ x_553.toInt ∧ x_553.toInt ≤ 8 * x_552.toInt := by rw [ex_553]; exact ml_8 (by constructor <;> omega) (by constructor <;> omega)
                                    have hcw : ∀ z : Int, z ≤ p4.toInt + x_553.toInt → capR z (p5.toInt + 1) := fun z hz => hxpre0.step htx_552 (by omega)
                                    clear htx_552
                                    refine lv_iadd hx hb dX3_descend_302 ?_
                                    refine lv_topi (fun x_554 ex_554 => ?_)
                                    have hx_554 : x_554.toInt = p4.toInt + x_553.toInt := by rw [ex_554, ad_I (by omega) (by omega)]
                                    have bx_554 : (0 ≤ x_554.toInt ∧ x_554.toInt ≤ 731794256) := by constructor <;> omega
                                    exact hcut_513 x_554 (by constructor <;> omega) (Or.inr ⟨by omega, hcw _ (by omega)⟩) ls (lv_sub hl [0, 1, 2, 3, 4, 5, 6, 7, 8, 9, 10, 11, 12, 13, 14, 15] rfl)
                                  · skip
                                    rw [← Int32.toInt_inj, ti_0] at c_551
                                    refine lv_iload hx hb dX3_descend_286 (lv_at hl 14 rfl) ?_
                                    refine lv_goto (tgt := 303) hx hb dX3_descend_288 (by decide) ?_
                                    exact hcut_513 p4 (by constructor <;> omega) (Or.inl ⟨by omega, rfl⟩) ls (lv_sub hl [0, 1, 2, 3, 4, 5, 6, 7, 8, 9, 10, 11, 12, 13, 14, 15] rfl)
                                refine lv_if_ne (tgt := 276) hx hb dX3_descend_269 (by decide) (fun c_555 => ?_) (fun c_555 => ?_)
                                · skip
                                  rw [← Int32.toInt_inj, ti_0] at c_555
                                  refine lv_iload_n hx hb dX3_descend_276 rfl (lv_at hl 11 rfl) ?_
                                  refine lv_iconst (v := 1) hx hb dX3_descend_277 (by decide) ?_
                                  refine lv_iadd hx hb dX3_descend_278 ?_
                                  refine lv_topi (fun x_556 ex_556 => ?_)
                                  have hx_556 : x_556.toInt = p2.toInt + 1 := by rw [ex_556, ad_I (by rw [ti_1]; omega) (by rw [ti_1]; omega), ti_1]
                                  have bx_556 : (1 ≤ x_556.toInt ∧ x_556.toInt ≤ 9) := by constructor <;> omega
                                  exact hcut_511 x_556 (by constructor <;> omega) ls (lv_sub hl [0, 1, 2, 3, 4, 5, 6, 7, 8, 9, 10, 11, 12, 13, 14] rfl)
                                · skip
                                  rw [← Int32.toInt_inj, ti_0] at c_555
                                  refine lv_iload_n hx hb dX3_descend_272 rfl (lv_at hl 11 rfl) ?_
                                  refine lv_goto (tgt := 279) hx hb dX3_descend_273 (by decide) ?_
                                  exact hcut_511 p2 (by constructor <;> omega) ls (lv_sub hl [0, 1, 2, 3, 4, 5, 6, 7, 8, 9, 10, 11, 12, 13, 14] rfl)
                              · skip
                                rw [← Int32.toInt_inj, ti_0] at c_501
                                refine lv_goto (tgt := 343) hx hb dX3_descend_256 (by decide) ?_
                                exact hcut_477 y_352 (by constructor <;> omega) f_492 hG _ _ hP hS hD hfr0 hrr1_0 hrr1_1 hrr3_0 hrr3_3 hT0 ls (lv_sub hl [2, 3, 4, 5, 6, 7, 8, 9, 10, 11, 12, 13, 14] rfl)
                          refine lv_if_eq (tgt := 218) hx hb dX3_descend_210 (by decide) (fun c_557 => ?_) (fun c_557 => ?_)
                          · skip
                            rw [← Int32.toInt_inj, ti_0] at c_557
                            refine lv_iconst (v := 1) hx hb dX3_descend_218 (by decide) ?_
                            refine lv_goto (tgt := 223) hx hb dX3_descend_219 (by decide) ?_
                            exact hcut_483 1 (by decide) ls (lv_sub hl [0, 1, 2, 3, 4, 5, 6, 7, 8, 9, 10, 11, 12, 13] rfl)
                          · skip
                            rw [← Int32.toInt_inj, ti_0] at c_557
                            refine lv_iload hx hb dX3_descend_213 (lv_at hl 0 rfl) ?_
                            refine lv_if_ne (tgt := 222) hx hb dX3_descend_215 (by decide) (fun c_558 => ?_) (fun c_558 => ?_)
                            · skip
                              rw [← Int32.toInt_inj, ti_0] at c_558
                              refine lv_iconst (v := 0) hx hb dX3_descend_222 (by decide) ?_
                              exact hcut_483 0 (by decide) ls (lv_sub hl [0, 1, 2, 3, 4, 5, 6, 7, 8, 9, 10, 11, 12, 13] rfl)
                            · skip
                              rw [← Int32.toInt_inj, ti_0] at c_558
                              refine lv_iconst (v := 1) hx hb dX3_descend_218 (by decide) ?_
                              refine lv_goto (tgt := 223) hx hb dX3_descend_219 (by decide) ?_
                              exact hcut_483 1 (by decide) ls (lv_sub hl [0, 1, 2, 3, 4, 5, 6, 7, 8, 9, 10, 11, 12, 13] rfl)
                        refine lv_if_eq (tgt := 196) hx hb dX3_descend_180 (by decide) (fun c_559 => ?_) (fun c_559 => ?_)
                        · skip
                          rw [← Int32.toInt_inj, ti_0] at c_559
                          refine lv_aload_n hx hb dX3_descend_196 rfl (lv_at hl 7 rfl) ?_
                          refine tk_getP (D := (dC, dI)) (ci := 3) (v := .ref a_2) (C := RX3) (T := TX3) (N := 18) hx hb hU inlX3 hown hK hP mo0 hfo_444 rfl 0 (by decide) (hU _ wd_48) (fun _ h9 => h9) rfl dX3_descend_197 ?_
                          obtain ⟨a_561, v_562, a_563, a_564, a_565, a_566, v_567, a_568, a_569, a_570, a_571, a_572, v_573, a_574, a_575, a_576, hfo_560, ⟨ma_561, ka_561⟩, bv_562, ⟨ma_563, ka_563⟩, ⟨ma_564, ka_564⟩, ⟨ma_565, ka_565⟩, ⟨ma_566, ka_566⟩, bv_567, ⟨ma_568, ka_568⟩, ⟨ma_569, ka_569⟩, ⟨ma_570, ka_570⟩, ⟨ma_571, ka_571⟩, ⟨ma_572, ka_572⟩, bv_573, ⟨ma_574, ka_574⟩, ⟨ma_575, ka_575⟩, ⟨ma_576, ka_576⟩⟩ := un_7 (hG _ ma_2) ka_2
                          refine tk_getP (D := (dC, dI)) (ci := 7) (v := .ref a_565) (C := RX7) (T := TX7) (N := 16) hx hb hU inlX7 hown hK hP ma_2 hfo_560 rfl 4 (by decide) (hU _ wd_768) (fun _ h9 => h9) rfl dX3_descend_200 ?_
                          refine lv_iload hx hb dX3_descend_203 (lv_at hl 0 rfl) ?_
                          obtain ⟨g_578, hfo_577, hbg_578⟩ := un_511 (hG _ ma_565) ka_565
                          refine tk_ildP hx hb hK hP 0 ma_565 hfo_577 rfl (vp_in_iff.mpr (by constructor <;> omega)) dX3_descend_205 ?_
                          refine lv_topi (fun x_579 ex_579 => ?_)
                          have bx_579 : (0 ≤ x_579.toInt ∧ x_579.toInt ≤ 8) := by rw [ex_579]; exact hbg_578 _
                          exact hcut_481 x_579 (by constructor <;> omega) ls (lv_sub hl [0, 1, 2, 3, 4, 5, 6, 7, 8, 9, 10, 11, 12] rfl)
                        · skip
                          rw [← Int32.toInt_inj, ti_0] at c_559
                          refine lv_aload_n hx hb dX3_descend_183 rfl (lv_at hl 7 rfl) ?_
                          refine tk_getP (D := (dC, dI)) (ci := 3) (v := .ref a_2) (C := RX3) (T := TX3) (N := 18) hx hb hU inlX3 hown hK hP mo0 hfo_444 rfl 0 (by decide) (hU _ wd_48) (fun _ h9 => h9) rfl dX3_descend_184 ?_
                          obtain ⟨a_581, v_582, a_583, a_584, a_585, a_586, v_587, a_588, a_589, a_590, a_591, a_592, v_593, a_594, a_595, a_596, hfo_580, ⟨ma_581, ka_581⟩, bv_582, ⟨ma_583, ka_583⟩, ⟨ma_584, ka_584⟩, ⟨ma_585, ka_585⟩, ⟨ma_586, ka_586⟩, bv_587, ⟨ma_588, ka_588⟩, ⟨ma_589, ka_589⟩, ⟨ma_590, ka_590⟩, ⟨ma_591, ka_591⟩, ⟨ma_592, ka_592⟩, bv_593, ⟨ma_594, ka_594⟩, ⟨ma_595, ka_595⟩, ⟨ma_596, ka_596⟩⟩ := un_7 (hG _ ma_2) ka_2
                          refine tk_getP (D := (dC, dI)) (ci := 7) (v := .ref a_586) (C := RX7) (T := TX7) (N := 16) hx hb hU inlX7 hown hK hP ma_2 hfo_580 rfl 5 (by decide) (hU _ wd_767) (fun _ h9 => h9) rfl dX3_descend_187 ?_
                          refine lv_iload hx hb dX3_descend_190 (lv_at hl 0 rfl) ?_
                          obtain ⟨g_598, hfo_597, hbg_598⟩ := un_511 (hG _ ma_586) ka_586
                          refine tk_ildP hx hb hK hP 0 ma_586 hfo_597 rfl (vp_in_iff.mpr (by constructor <;> omega)) dX3_descend_192 ?_
                          refine lv_topi (fun x_599 ex_599 => ?_)
                          have bx_599 : (0 ≤ x_599.toInt ∧ x_599.toInt ≤ 8) := by rw [ex_599]; exact hbg_598 _
                          refine lv_goto (tgt := 206) hx hb dX3_descend_193 (by decide) ?_
                          exact hcut_481 x_599 (by constructor <;> omega) ls (lv_sub hl [0, 1, 2, 3, 4, 5, 6, 7, 8, 9, 10, 11, 12] rfl)
                      · skip
                        rw [← Int32.toInt_inj, ti_m1] at c_479
                        refine lv_goto (tgt := 343) hx hb dX3_descend_173 (by decide) ?_
                        exact hcut_477 y_352 (by constructor <;> omega) f_354 hG _ _ hP hS hD hfr0 hrr1_0 hrr1_1 hrr3_0 hrr3_3 hT0 ls (lv_sub hl [0, 1, 2, 3, 4, 5, 6, 7, 8, 9, 10, 11, 12] rfl)
                    refine lv_icmp_ge (tgt := 152) hx hb dX3_descend_140 (by decide) (fun c_600 => ?_) (fun c_600 => ?_)
                    · skip
                      rw [Int32.le_iff_toInt_le, ti_4] at c_600
                      refine lv_iconst (v := 0) hx hb dX3_descend_152 (by decide) ?_
                      exact hcut_469 0 (by decide) (by (try rw [ti_0]) <;> (try rw [ti_8]) <;> omega) ls (lv_sub hl [0, 1, 2, 3, 4, 5, 6, 7, 8, 9, 10] rfl)
                    · skip
                      rw [Int32.le_iff_toInt_le, ti_4] at c_600
                      refine lv_aload_n hx hb dX3_descend_143 rfl (lv_at hl 5 rfl) ?_
                      refine tk_getP (D := (dC, dI)) (ci := 3) (v := .ref a_449) (C := RX3) (T := TX3) (N := 18) hx hb hU inlX3 hown hK hP mo0 hfo_444 rfl 4 (by decide) (hU _ wd_61) (fun _ h9 => h9) rfl dX3_descend_144 ?_
                      refine lv_iload_n hx hb dX3_descend_147 rfl (lv_at hl 7 rfl) ?_
                      obtain ⟨g_602, hfo_601, hbg_602⟩ := un_507 (hG _ ma_449) ka_449
                      refine tk_ildP hx hb hK hP 0 ma_449 hfo_601 rfl (vp_in_iff.mpr (by constructor <;> omega)) dX3_descend_148 ?_
                      refine lv_topi (fun x_603 ex_603 => ?_)
                      have bx_603 : (0 ≤ x_603.toInt ∧ x_603.toInt ≤ 8) := by rw [ex_603]; exact hbg_602 _
                      refine lv_goto (tgt := 153) hx hb dX3_descend_149 (by decide) ?_
                      exact hcut_469 x_603 (by constructor <;> omega) (by (try rw [ti_8]) <;> (try rw [ti_0]) <;> omega) ls (lv_sub hl [0, 1, 2, 3, 4, 5, 6, 7, 8, 9, 10] rfl)
            exact hloop_350 9 y_333 (by constructor <;> omega) y_309 (by constructor <;> omega) f_311 hG _ _ hP hS hD hfr0 hrr1_0 hrr1_1 hrr3_0 hrr3_3 hT0 (by (try rw [ti_8]) <;> (try rw [ti_0]) <;> omega) (by (try rw [ti_8]) <;> (try rw [ti_0]) <;> omega) ls hl
          refine lv_icmp_ge (tgt := 117) hx hb dX3_descend_110 (by decide) (fun c_604 => ?_) (fun c_604 => ?_)
          · skip
            rw [Int32.le_iff_toInt_le] at c_604
            refine lv_iconst (v := 4) hx hb dX3_descend_117 (by decide) ?_
            exact hcut_334 4 (by decide) (by (try rw [ti_4]) <;> (try rw [ti_8]) <;> (try rw [ti_0]) <;> omega) ls (lv_sub hl [0, 1, 2, 3, 4, 5, 6, 7, 8, 9] rfl)
          · skip
            rw [Int32.le_iff_toInt_le] at c_604
            refine lv_iconst (v := 0) hx hb dX3_descend_113 (by decide) ?_
            refine lv_goto (tgt := 118) hx hb dX3_descend_114 (by decide) ?_
            exact hcut_334 0 (by decide) (by (try rw [ti_0]) <;> (try rw [ti_8]) <;> omega) ls (lv_sub hl [0, 1, 2, 3, 4, 5, 6, 7, 8, 9] rfl)
        refine lv_icmp_ne (tgt := 88) hx hb dX3_descend_71 (by decide) (fun c_605 => ?_) (fun c_605 => ?_)
        · skip
          rw [← Int32.toInt_inj] at c_605
          refine lv_iconst (v := 0) hx hb dX3_descend_88 (by decide) ?_
          exact hcut_313 0 (by decide) f_291 hG _ _ hP hS hD hfr0 hrr1_0 hrr1_1 hrr3_0 hrr3_3 hfo_298 hT0 ls (lv_sub hl [0, 1, 2, 3, 4, 5, 6, 7] rfl)
        · skip
          rw [← Int32.toInt_inj] at c_605
          refine lv_aload_n hx hb dX3_descend_74 rfl (lv_at hl 2 rfl) ?_
          refine lv_iload_n hx hb dX3_descend_75 rfl (lv_at hl 3 rfl) ?_
          refine lv_iload hx hb dX3_descend_76 (lv_at hl 6 rfl) ?_
          refine tk_ViP (As := [.int 0, .int p4]) (rest := []) (n := 2) hx hb hml hown hU hN hZ (s_X3_complete_k3 l (dC, dI) cI cL cZ cR cG cH Z kd L f_291 hG o0 mo0 ko0 0 (by decide) p4 (by constructor <;> omega) (fun d9 h9 => by rw [hfo_297] at h9; obtain rfl := Option.some.inj h9; exact hT0)) wd_792 wd_793 wd_794 wd_16 wd_795 (by decide +kernel) ⟨Nat.le_of_ble_eq_true rfl, Nat.le_of_ble_eq_true rfl⟩ hK hP hD hS mo0 hfo_297 3 rfl rfl rfl hl.1 rfl (Nat.le_of_ble_eq_true rfl) dX3_descend_78 ⟨Nat.le_of_ble_eq_true rfl, Nat.le_of_ble_eq_true rfl⟩ (fun x_606 f_607 H locs hw hP hD hS => ?_)
          obtain ⟨hG, bx_606, hkc_608, hrc_609, hrc_610, hTc_611⟩ := hw
          have hfo_613 : f_607 a_5 = .inr (1, [.ref a_284, .ref a_285, .ref a_301, .int v_302, .int v_303, .int v_289]) := by rw [hkc_608 a_5 (by rw [ka_5]; decide) (by rw [ka_5]; decide) (by rw [ka_5]; decide) (by rw [ka_5]; decide) (by rw [ka_5]; decide)]; exact hfo_298
          have hfr0 : ∀ b, kd b ≠ 1 → kd b ≠ 3 → kd b ≠ 10 → kd b ≠ 517 → kd b ≠ 518 → kd b ≠ 519 → kd b ≠ 520 → kd b ≠ 521 → kd b ≠ 522 → kd b ≠ 523 → kd b ≠ 524 → kd b ≠ 525 → kd b ≠ 526 → kd b ≠ 527 → f_607 b = f b := fun b q1 q3 q10 q517 q518 q519 q520 q521 q522 q523 q524 q525 q526 q527 => (hkc_608 b q3 q10 q524 q526 q527).trans (hfr0 b q1 q3 q10 q517 q518 q519 q520 q521 q522 q523 q524 q525 q526 q527)
          have hrr1_0 : ∀ b, kd b = 1 → fldR (f_607 b) 0 = fldR (f b) 0 := fun b kb => (congrArg (fun x => fldR x 0) (hkc_608 b (by rw [kb]; decide) (by rw [kb]; decide) (by rw [kb]; decide) (by rw [kb]; decide) (by rw [kb]; decide))).trans (hrr1_0 b kb)
          have hrr1_1 : ∀ b, kd b = 1 → fldR (f_607 b) 1 = fldR (f b) 1 := fun b kb => (congrArg (fun x => fldR x 1) (hkc_608 b (by rw [kb]; decide) (by rw [kb]; decide) (by rw [kb]; decide) (by rw [kb]; decide) (by rw [kb]; decide))).trans (hrr1_1 b kb)
          have hrr3_0 : ∀ b, kd b = 3 → fldR (f_607 b) 0 = fldR (f b) 0 := fun b kb => (hrc_609 b kb).trans (hrr3_0 b kb)
          have hrr3_3 : ∀ b, kd b = 3 → fldR (f_607 b) 3 = fldR (f b) 3 := fun b kb => (hrc_610 b kb).trans (hrr3_3 b kb)
          have hT0 : drel kd 1 521 522 f_607 a_5 := hT0.keep (fun b q => congrArg (fun x => fldI x 5) (hkc_608 b (by rw [q]; decide) (by rw [q]; decide) (by rw [q]; decide) (by rw [q]; decide) (by rw [q]; decide))) (fun b q => congrArg (fun x => fldR x 0) (hkc_608 b (by rw [q]; decide) (by rw [q]; decide) (by rw [q]; decide) (by rw [q]; decide) (by rw [q]; decide))) (fun b q => congrArg (fun x => fldR x 1) (hkc_608 b (by rw [q]; decide) (by rw [q]; decide) (by rw [q]; decide) (by rw [q]; decide) (by rw [q]; decide))) (fun b q => hkc_608 b (by rw [q]; decide) (by rw [q]; decide) (by rw [q]; decide) (by rw [q]; decide) (by rw [q]; decide)) (fun b q => hkc_608 b (by rw [q]; decide) (by rw [q]; decide) (by rw [q]; decide) (by rw [q]; decide) (by rw [q]; decide))
          obtain ⟨a_615, a_616, a_617, a_618, a_619, v_620, v_621, v_622, v_623, v_624, v_625, v_626, a_627, a_628, a_629, v_630, a_631, a_632, hfo_614, ⟨ma_615, ka_615⟩, ⟨ma_616, ka_616⟩, ⟨ma_617, ka_617⟩, ⟨ma_618, ka_618⟩, ⟨ma_619, ka_619⟩, bv_620, bv_621, bv_622, ⟨ma_627, ka_627⟩, ⟨ma_628, ka_628⟩, ⟨ma_629, ka_629⟩, bv_630, ⟨ma_631, ka_631⟩, ⟨ma_632, ka_632⟩⟩ := un_3 (hG _ mo0) ko0
          have bv_623 : ((-2147483648) ≤ v_623.toInt ∧ v_623.toInt ≤ 2147483647) := ⟨i32_lo _, i32_hi _⟩
          have bv_624 : ((-2147483648) ≤ v_624.toInt ∧ v_624.toInt ≤ 2147483647) := ⟨i32_lo _, i32_hi _⟩
          have bv_625 : ((-2147483648) ≤ v_625.toInt ∧ v_625.toInt ≤ 2147483647) := ⟨i32_lo _, i32_hi _⟩
          have bv_626 : ((-2147483648) ≤ v_626.toInt ∧ v_626.toInt ≤ 2147483647) := ⟨i32_lo _, i32_hi _⟩
          obtain rfl : a_2 = a_615 := by have hk9 := hrr3_0 o0 ko0; rw [hfo_614, hfo_1] at hk9; exact (Option.some.inj hk9).symm
          obtain rfl : a_5 = a_618 := by have hk9 := hrr3_3 o0 ko0; rw [hfo_614, hfo_1] at hk9; exact (Option.some.inj hk9).symm
          have hT_633 := hTc_611 a_5 (by rw [hfo_614]; rfl)
          refine lv_if_eq (tgt := 88) hx hb dX3_descend_81 (by decide) (fun c_634 => ?_) (fun c_634 => ?_)
          · skip
            rw [← Int32.toInt_inj, ti_0] at c_634
            refine lv_iconst (v := 0) hx hb dX3_descend_88 (by decide) ?_
            exact hcut_313 0 (by decide) f_607 hG _ _ hP hS hD hfr0 hrr1_0 hrr1_1 hrr3_0 hrr3_3 hfo_613 hT_633 ls (lv_sub hl [0, 1, 2, 3, 4, 5, 6, 7] rfl)
          · skip
            rw [← Int32.toInt_inj, ti_0] at c_634
            refine lv_iconst (v := 1) hx hb dX3_descend_84 (by decide) ?_
            refine lv_goto (tgt := 89) hx hb dX3_descend_85 (by decide) ?_
            exact hcut_313 1 (by decide) f_607 hG _ _ hP hS hD hfr0 hrr1_0 hrr1_1 hrr3_0 hrr3_3 hfo_613 hT_633 ls (lv_sub hl [0, 1, 2, 3, 4, 5, 6, 7] rfl)
      · skip
        rw [← Int32.toInt_inj, ti_0] at c_308
        refine lv_iconst (v := 0) hx hb dX3_descend_64 (by decide) ?_
        exact W.zret (v := 0) (ty := .boolean) hx hb hr rfl (fun t ht hW => ⟨⟨0, f_291, rfl, ⟨hG, (by decide), hfr0, hrr1_0, hrr1_1, hrr3_0, hrr3_3, (fun d9 h9 => by rw [hfo_297] at h9; obtain rfl := Option.some.inj h9; exact hT0)⟩, by rw [ht]; exact hP, va_K.moved hW.alike hK, pl_in hD⟩, hS.F ht⟩) hS.2.2 dX3_descend_65
  refine lv_if_eq (tgt := 21) hx hb dX3_descend_4 (by decide) (fun c_635 => ?_) (fun c_635 => ?_)
  · skip
    rw [← Int32.toInt_inj, ti_0] at c_635
    refine lv_iconst (v := 0) hx hb dX3_descend_21 (by decide) ?_
    exact hcut_21 0 (by decide) ls (lv_sub hl [0, 1, 2, 3, 4, 5] rfl)
  · skip
    rw [← Int32.toInt_inj, ti_0] at c_635
    refine lv_aload_n hx hb dX3_descend_7 rfl (lv_at hl 0 rfl) ?_
    refine tk_getP (D := (dC, dI)) (ci := 3) (v := .int v_7) (C := RX3) (T := TX3) (N := 18) hx hb hU inlX3 hown hK hP mo0 hfo_1 rfl 5 (by decide) (hU _ wd_726) (fun _ h9 => h9) rfl dX3_descend_8 ?_
    refine lv_iload_n hx hb dX3_descend_11 rfl (lv_at hl 2 rfl) ?_
    refine lv_isub hx hb dX3_descend_12 ?_
    refine lv_topi (fun x_636 ex_636 => ?_)
    have hx_636 : x_636.toInt = v_7.toInt - p2.toInt := by rw [ex_636, sb_I (by omega) (by omega)]
    have bx_636 : ((-8) ≤ x_636.toInt ∧ x_636.toInt ≤ 8) := by constructor <;> omega
    refine lv_iconst (v := 2) hx hb dX3_descend_13 (by decide) ?_
    refine lv_icmp_lt (tgt := 21) hx hb dX3_descend_14 (by decide) (fun c_637 => ?_) (fun c_637 => ?_)
    · skip
      rw [Int32.lt_iff_toInt_lt, ti_2] at c_637
      refine lv_iconst (v := 0) hx hb dX3_descend_21 (by decide) ?_
      exact hcut_21 0 (by decide) ls (lv_sub hl [0, 1, 2, 3, 4, 5] rfl)
    · skip
      rw [Int32.lt_iff_toInt_lt, ti_2] at c_637
      refine lv_iconst (v := 1) hx hb dX3_descend_17 (by decide) ?_
      refine lv_goto (tgt := 22) hx hb dX3_descend_18 (by decide) ?_
      exact hcut_21 1 (by decide) ls (lv_sub hl [0, 1, 2, 3, 4, 5] rfl)
