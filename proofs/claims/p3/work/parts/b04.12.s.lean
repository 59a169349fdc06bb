set_option maxHeartbeats 8000000 in
set_option maxRecDepth 100000 in
theorem s_X3_descend_k3 (l : Launch) (D : va_G) (cI cL cZ cR cG cH : ClassId) (Z : zT) (kd : Nat → Nat) (L : List Nat) (n_ : Nat) (f : Nat → va_E) (hG : GI (okc cI cL cZ cR cG cH L kd) kd L f) (o0 : Nat) (mo0 : o0 ∈ L) (ko0 : kd o0 = 3) (p1 : Int32) (bp1 : (0 ≤ p1.toInt ∧ p1.toInt ≤ 9)) (p2 : Int32) (bp2 : (0 ≤ p2.toInt ∧ p2.toInt ≤ 8)) (p3 : Int32) (p4 : Int32) (bp4 : (0 ≤ p4.toInt ∧ p4.toInt ≤ 387420488)) (p5 : Int32) (bp5 : (0 ≤ p5.toInt ∧ p5.toInt ≤ 9)) (hxrel : p5.toInt ≤ p1.toInt) (hxtr0 : ∀ d9, fldR (f o0) 3 = some d9 → drel kd 1 521 522 f d9) (hxpre0 : capR p4.toInt p5.toInt) (hrk : 9 - p1.toInt < (n_ : Int)) : mPI l D cI cL cZ cR cG cH Z yX3_descend cX3_descend 18 (some .boolean) (3 + n_) (87 + n_ * 37) [.ref o0, .int p1, .int p2, .int p3, .int p4, .int p5] L f (fun (r : Int32) (f9 : Nat → va_E) => GI (okc cI cL cZ cR cG cH L kd) kd L f9 ∧ (0 ≤ r.toInt ∧ r.toInt ≤ 1) ∧ (∀ b, kd b ≠ 1 → kd b ≠ 3 → kd b ≠ 10 → kd b ≠ 517 → kd b ≠ 518 → kd b ≠ 519 → kd b ≠ 520 → kd b ≠ 521 → kd b ≠ 522 → kd b ≠ 523 → kd b ≠ 524 → kd b ≠ 525 → kd b ≠ 526 → kd b ≠ 527 → f9 b = f b) ∧ (∀ b, kd b = 1 → fldR (f9 b) 0 = fldR (f b) 0) ∧ (∀ b, kd b = 1 → fldR (f9 b) 1 = fldR (f b) 1) ∧ (∀ b, kd b = 3 → fldR (f9 b) 0 = fldR (f b) 0) ∧ (∀ b, kd b = 3 → fldR (f9 b) 3 = fldR (f b) 3) ∧ (∀ d9, fldR (f9 o0) 3 = some d9 → drel kd 1 521 522 f9 d9)) := by
  obtain ⟨dC, dI⟩ := D
  induction n_ generalizing f o0 mo0 ko0 p1 bp1 p2 bp2 p3 p4 bp4 p5 bp5 hxrel hxtr0 hxpre0 with
  | zero => exfalso; omega
  | succ n_ ih_ =>
    have ih_rec := ih_
    clear ih_
    refine Met.ofW (cc := cX3_descend) (maxL := 18) (ret := (some .boolean)) (by decide) rfl ?_
    intro p e s m args below meth c s₁ B hml hv
    obtain ⟨rfl, hP, hK, hD0, hN, hZ⟩ := hv
    have hx := B.exec
    have hb := B.bytes
    have hr := B.returns
    have hU : ∀ w ∈ wsU, w.before _ s = true := fun w h => atoms_spec (ws := wU yX3_descend cX3_descend 18 (some .boolean)) B.pre w (List.mem_cons_of_mem _ h)
    have hown : s.vm.findClass RX3 = some m.cls := findClass_of_methodNamed B.named
    have hlocks := B.notSynchronized
    have hD := pl_in hD0
    have hS : va_S (fun q => q ∈ L) s.heap s.heap [] := va_S.rf
    have hl := lv_entry ([.ref o0, .int p1, .int p2, .int p3, .int p4, .int p5]) (n := 18) (Nat.le_of_ble_eq_true rfl)
    rw [lg_entry_eq]
    generalize (lg_sl ([.ref o0, .int p1, .int p2, .int p3, .int p4, .int p5]) ++ List.replicate (18 - (lg_sl ([.ref o0, .int p1, .int p2, .int p3, .int p4, .int p5])).length) Slot.unset).toArray = ls at hl ⊢
    have hl : lv_has ls 18 [(0, .ref o0), (1, .int p1), (2, .int p2), (3, .int p3), (4, .int p4), (5, .int p5)] := hl
    have bp3 : ((-2147483648) ≤ p3.toInt ∧ p3.toInt ≤ 2147483647) := ⟨i32_lo _, i32_hi _⟩
    have hfr0 : ∀ b, kd b ≠ 1 → kd b ≠ 3 → kd b ≠ 10 → kd b ≠ 517 → kd b ≠ 518 → kd b ≠ 519 → kd b ≠ 520 → kd b ≠ 521 → kd b ≠ 522 → kd b ≠ 523 → kd b ≠ 524 → kd b ≠ 525 → kd b ≠ 526 → kd b ≠ 527 → f b = f b := fun _ _ _ _ _ _ _ _ _ _ _ _ _ _ _ => rfl
    have hrr1_0 : ∀ b, kd b = 1 → fldR (f b) 0 = fldR (f b) 0 := fun _ _ => rfl
    have hrr1_1 : ∀ b, kd b = 1 → fldR (f b) 1 = fldR (f b) 1 := fun _ _ => rfl
    have hrr3_0 : ∀ b, kd b = 3 → fldR (f b) 0 = fldR (f b) 0 := fun _ _ => rfl
    have hrr3_3 : ∀ b, kd b = 3 → fldR (f b) 3 = fldR (f b) 3 := fun _ _ => rfl
    obtain ⟨a_2, a_3, a_4, a_5, a_6, v_7, v_8, v_9, v_10, v_11, v_12, v_13, a_14, a_15, a_16, v_17, a_18, a_19, hfo_1, ⟨ma_2, ka_2⟩, ⟨ma_3, ka_3⟩, ⟨ma_4, ka_4⟩, ⟨ma_5, ka_5⟩, ⟨ma_6, ka_6⟩, bv_7, bv_8, bv_9, ⟨ma_14, ka_14⟩, ⟨ma_15, ka_15⟩, ⟨ma_16, ka_16⟩, bv_17, ⟨ma_18, ka_18⟩, ⟨ma_19, ka_19⟩⟩ := un_3 (hG _ mo0) ko0
    have bv_10 : ((-2147483648) ≤ v_10.toInt ∧ v_10.toInt ≤ 2147483647) := ⟨i32_lo _, i32_hi _⟩
    have bv_11 : ((-2147483648) ≤ v_11.toInt ∧ v_11.toInt ≤ 2147483647) := ⟨i32_lo _, i32_hi _⟩
    have bv_12 : ((-2147483648) ≤ v_12.toInt ∧ v_12.toInt ≤ 2147483647) := ⟨i32_lo _, i32_hi _⟩
    have bv_13 : ((-2147483648) ≤ v_13.toInt ∧ v_13.toInt ≤ 2147483647) := ⟨i32_lo _, i32_hi _⟩
    have hT0 := hxtr0 a_5 (by rw [hfo_1]; rfl)
    refine lv_aload_n hx hb dX3_descend_0 rfl (lv_at hl 0 rfl) ?_
    refine tk_getP (D := (dC, dI)) (ci := 3) (v := .int v_9) (C := RX3) (T := TX3) (N := 18) hx hb hU inlX3 hown hK hP mo0 hfo_1 rfl 7 (by decide) (hU _ wd_733) (fun _ h9 => h9) rfl dX3_descend_1 ?_
    have hcut_21 : ∀ (y_20 : Int32), (0 ≤ y_20.toInt ∧ y_20.toInt ≤ 1) → ∀ (ls : Array Slot), lv_has ls 18 [(0, .ref o0), (1, .int p1), (2, .int p2), (3, .int p3), (4, .int p4), (5, .int p5)] → W p l e (headSpec (wU yX3_descend cX3_descend 18 (some .boolean)) { frames := 3 + (n_ + 1), cells := 0, slots := 0, locals := 87 + (n_ + 1) * 37 }).room s m [.ref o0, .int p1, .int p2, .int p3, .int p4, .int p5].toArray below meth c s.heap [] 0 0 (MQ below (va_Qi (fun (r : Int32) (f9 : Nat → va_E) => GI (okc cI cL cZ cR cG cH L kd) kd L f9 ∧ (0 ≤ r.toInt ∧ r.toInt ≤ 1) ∧ (∀ b, kd b ≠ 1 → kd b ≠ 3 → kd b ≠ 10 → kd b ≠ 517 → kd b ≠ 518 → kd b ≠ 519 → kd b ≠ 520 → kd b ≠ 521 → kd b ≠ 522 → kd b ≠ 523 → kd b ≠ 524 → kd b ≠ 525 → kd b ≠ 526 → kd b ≠ 527 → f9 b = f b) ∧ (∀ b, kd b = 1 → fldR (f9 b) 0 = fldR (f b) 0) ∧ (∀ b, kd b = 1 → fldR (f9 b) 1 = fldR (f b) 1) ∧ (∀ b, kd b = 3 → fldR (f9 b) 0 = fldR (f b) 0) ∧ (∀ b, kd b = 3 → fldR (f9 b) 3 = fldR (f b) 3) ∧ (∀ d9, fldR (f9 o0) 3 = some d9 → drel kd 1 521 522 f9 d9)) (qP (dC, dI) cI cL cZ cR cG cH L) (fun q => q ∈ L)) [.ref o0, .int p1, .int p2, .int p3, .int p4, .int p5].toArray s 0 0 (fun q => q ∈ L)) (F0 m 22 ls [.int y_20]) := by
      intro y_20 by_20 ls hl
      refine lv_istore (lv' := [(6, .int y_20), (0, .ref o0), (1, .int p1), (2, .int p2), (3, .int p3), (4, .int p4), (5, .int p5)]) hx hb dX3_descend_22 hl (by decide) rfl (fun ls hl => ?_)
      refine lv_iload_n hx hb dX3_descend_24 rfl (lv_at hl 3 rfl) ?_
      refine lv_iconst (v := 2) hx hb dX3_descend_25 (by decide) ?_
      refine lv_imul hx hb dX3_descend_26 ?_
      refine lv_topi (fun x_22 ex_22 => ?_)
      have hx_22 : x_22.toInt = p2.toInt * 2 := by rw [ex_22, ml_I (by rw [ti_2]; omega) (by rw [ti_2]; omega), ti_2]
      have bx_22 : (0 ≤ x_22.toInt ∧ x_22.toInt ≤ 16) := by constructor <;> omega
      refine lv_iload_n hx hb dX3_descend_27 rfl (lv_at hl 4 rfl) ?_
      refine lv_iadd hx hb dX3_descend_28 ?_
      refine lv_topi (fun x_23 ex_23 => ?_)
      have bx_23 : ((-2147483648) ≤ x_23.toInt ∧ x_23.toInt ≤ 2147483647) := ⟨i32_lo _, i32_hi _⟩
      refine lv_istore (lv' := [(7, .int x_23), (6, .int y_20), (0, .ref o0), (1, .int p1), (2, .int p2), (3, .int p3), (4, .int p4), (5, .int p5)]) hx hb dX3_descend_29 hl (by decide) rfl (fun ls hl => ?_)
      refine lv_iload hx hb dX3_descend_31 (lv_at hl 1 rfl) ?_
      refine lv_if_eq (tgt := 66) hx hb dX3_descend_33 (by decide) (fun c_24 => ?_) (fun c_24 => ?_)
      · skip
        rw [← Int32.toInt_inj, ti_0] at c_24
        refine lv_iload_n hx hb dX3_descend_66 rfl (lv_at hl 4 rfl) ?_
        refine lv_aload_n hx hb dX3_descend_67 rfl (lv_at hl 2 rfl) ?_
        refine tk_getP (D := (dC, dI)) (ci := 3) (v := .int v_7) (C := RX3) (T := TX3) (N := 18) hx hb hU inlX3 hown hK hP mo0 hfo_1 rfl 5 (by decide) (hU _ wd_726) (fun _ h9 => h9) rfl dX3_descend_68 ?_
        have hcut_28 : ∀ (y_25 : Int32), (0 ≤ y_25.toInt ∧ y_25.toInt ≤ 1) → ∀ (f_27 : Nat → va_E), GI (okc cI cL cZ cR cG cH L kd) kd L f_27 → ∀ (H : Heap) (locs : List Loc), va_P (dC, dI) vwCl (va_pl L f_27) H → va_S (fun q => q ∈ L) s.heap H locs → va_D (fun q => q ∈ L) (va_pl L f_27) → (∀ b, kd b ≠ 1 → kd b ≠ 3 → kd b ≠ 10 → kd b ≠ 517 → kd b ≠ 518 → kd b ≠ 519 → kd b ≠ 520 → kd b ≠ 521 → kd b ≠ 522 → kd b ≠ 523 → kd b ≠ 524 → kd b ≠ 525 → kd b ≠ 526 → kd b ≠ 527 → f_27 b = f b) → (∀ b, kd b = 1 → fldR (f_27 b) 0 = fldR (f b) 0) → (∀ b, kd b = 1 → fldR (f_27 b) 1 = fldR (f b) 1) → (∀ b, kd b = 3 → fldR (f_27 b) 0 = fldR (f b) 0) → (∀ b, kd b = 3 → fldR (f_27 b) 3 = fldR (f b) 3) → drel kd 1 521 522 f_27 a_5 → ∀ (ls : Array Slot), lv_has ls 18 [(7, .int x_23), (6, .int y_20), (0, .ref o0), (1, .int p1), (2, .int p2), (3, .int p3), (4, .int p4), (5, .int p5)] → W p l e (headSpec (wU yX3_descend cX3_descend 18 (some .boolean)) { frames := 3 + (n_ + 1), cells := 0, slots := 0, locals := 87 + (n_ + 1) * 37 }).room s m [.ref o0, .int p1, .int p2, .int p3, .int p4, .int p5].toArray below meth c H locs 0 0 (MQ below (va_Qi (fun (r : Int32) (f9 : Nat → va_E) => GI (okc cI cL cZ cR cG cH L kd) kd L f9 ∧ (0 ≤ r.toInt ∧ r.toInt ≤ 1) ∧ (∀ b, kd b ≠ 1 → kd b ≠ 3 → kd b ≠ 10 → kd b ≠ 517 → kd b ≠ 518 → kd b ≠ 519 → kd b ≠ 520 → kd b ≠ 521 → kd b ≠ 522 → kd b ≠ 523 → kd b ≠ 524 → kd b ≠ 525 → kd b ≠ 526 → kd b ≠ 527 → f9 b = f b) ∧ (∀ b, kd b = 1 → fldR (f9 b) 0 = fldR (f b) 0) ∧ (∀ b, kd b = 1 → fldR (f9 b) 1 = fldR (f b) 1) ∧ (∀ b, kd b = 3 → fldR (f9 b) 0 = fldR (f b) 0) ∧ (∀ b, kd b = 3 → fldR (f9 b) 3 = fldR (f b) 3) ∧ (∀ d9, fldR (f9 o0) 3 = some d9 → drel kd 1 521 522 f9 d9)) (qP (dC, dI) cI cL cZ cR cG cH L) (fun q => q ∈ L)) [.ref o0, .int p1, .int p2, .int p3, .int p4, .int p5].toArray s 0 0 (fun q => q ∈ L)) (F0 m 89 ls [.int y_25]) := by
          intro y_25 by_25 f_27 hG H locs hP hS hD hfr0 hrr1_0 hrr1_1 hrr3_0 hrr3_3 hT0 ls hl
          refine lv_istore (lv' := [(8, .int y_25), (7, .int x_23), (6, .int y_20), (0, .ref o0), (1, .int p1), (2, .int p2), (3, .int p3), (4, .int p4), (5, .int p5)]) hx hb dX3_descend_89 hl (by decide) rfl (fun ls hl => ?_)
          refine lv_iload_n hx hb dX3_descend_91 rfl (lv_at hl 4 rfl) ?_
          refine lv_bipush (v := 9) hx hb dX3_descend_92 (by decide) ?_
          have hcut_30 : ∀ (y_29 : Int32), (0 ≤ y_29.toInt ∧ y_29.toInt ≤ 8) → (y_29.toInt = 0 ∨ p1.toInt ≤ 8) → ∀ (ls : Array Slot), lv_has ls 18 [(8, .int y_25), (7, .int x_23), (6, .int y_20), (0, .ref o0), (1, .int p1), (2, .int p2), (3, .int p3), (4, .int p4), (5, .int p5)] → W p l e (headSpec (wU yX3_descend cX3_descend 18 (some .boolean)) { frames := 3 + (n_ + 1), cells := 0, slots := 0, locals := 87 + (n_ + 1) * 37 }).room s m [.ref o0, .int p1, .int p2, .int p3, .int p4, .int p5].toArray below meth c H locs 0 0 (MQ below (va_Qi (fun (r : Int32) (f9 : Nat → va_E) => GI (okc cI cL cZ cR cG cH L kd) kd L f9 ∧ (0 ≤ r.toInt ∧ r.toInt ≤ 1) ∧ (∀ b, kd b ≠ 1 → kd b ≠ 3 → kd b ≠ 10 → kd b ≠ 517 → kd b ≠ 518 → kd b ≠ 519 → kd b ≠ 520 → kd b ≠ 521 → kd b ≠ 522 → kd b ≠ 523 → kd b ≠ 524 → kd b ≠ 525 → kd b ≠ 526 → kd b ≠ 527 → f9 b = f b) ∧ (∀ b, kd b = 1 → fldR (f9 b) 0 = fldR (f b) 0) ∧ (∀ b, kd b = 1 → fldR (f9 b) 1 = fldR (f b) 1) ∧ (∀ b, kd b = 3 → fldR (f9 b) 0 = fldR (f b) 0) ∧ (∀ b, kd b = 3 → fldR (f9 b) 3 = fldR (f b) 3) ∧ (∀ d9, fldR (f9 o0) 3 = some d9 → drel kd 1 521 522 f9 d9)) (qP (dC, dI) cI cL cZ cR cG cH L) (fun q => q ∈ L)) [.ref o0, .int p1, .int p2, .int p3, .int p4, .int p5].toArray s 0 0 (fun q => q ∈ L)) (F0 m 103 ls [.int y_29]) := by
            intro y_29 by_29 hjhcut_30_0 ls hl
            refine lv_istore (lv' := [(9, .int y_29), (8, .int y_25), (7, .int x_23), (6, .int y_20), (0, .ref o0), (1, .int p1), (2, .int p2), (3, .int p3), (4, .int p4), (5, .int p5)]) hx hb dX3_descend_103 hl (by decide) rfl (fun ls hl => ?_)
            refine lv_iload_n hx hb dX3_descend_105 rfl (lv_at hl 6 rfl) ?_
            refine lv_aload_n hx hb dX3_descend_106 rfl (lv_at hl 4 rfl) ?_
            obtain ⟨a_32, a_33, a_34, a_35, a_36, v_37, v_38, v_39, v_40, v_41, v_42, v_43, a_44, a_45, a_46, v_47, a_48, a_49, hfo_31, ⟨ma_32, ka_32⟩, ⟨ma_33, ka_33⟩, ⟨ma_34, ka_34⟩, ⟨ma_35, ka_35⟩, ⟨ma_36, ka_36⟩, bv_37, bv_38, bv_39, ⟨ma_44, ka_44⟩, ⟨ma_45, ka_45⟩, ⟨ma_46, ka_46⟩, bv_47, ⟨ma_48, ka_48⟩, ⟨ma_49, ka_49⟩⟩ := un_3 (hG _ mo0) ko0
            have bv_40 : ((-2147483648) ≤ v_40.toInt ∧ v_40.toInt ≤ 2147483647) := ⟨i32_lo _, i32_hi _⟩
            have bv_41 : ((-2147483648) ≤ v_41.toInt ∧ v_41.toInt ≤ 2147483647) := ⟨i32_lo _, i32_hi _⟩
            have bv_42 : ((-2147483648) ≤ v_42.toInt ∧ v_42.toInt ≤ 2147483647) := ⟨i32_lo _, i32_hi _⟩
            have bv_43 : ((-2147483648) ≤ v_43.toInt ∧ v_43.toInt ≤ 2147483647) := ⟨i32_lo _, i32_hi _⟩
            obtain rfl : a_2 = a_32 := by have hk9 := hrr3_0 o0 ko0; rw [hfo_31, hfo_1] at hk9; exact (Option.some.inj hk9).symm
            obtain rfl : a_5 = a_35 := by have hk9 := hrr3_3 o0 ko0; rw [hfo_31, hfo_1] at hk9; exact (Option.some.inj hk9).symm
            refine tk_getP (D := (dC, dI)) (ci := 3) (v := .int v_37) (C := RX3) (T := TX3) (N := 18) hx hb hU inlX3 hown hK hP mo0 hfo_31 rfl 5 (by decide) (hU _ wd_726) (fun _ h9 => h9) rfl dX3_descend_107 ?_
            have hcut_51 : ∀ (y_50 : Int32), (0 ≤ y_50.toInt ∧ y_50.toInt ≤ 4) → (4 ≤ y_50.toInt ∨ p2.toInt ≤ 7) → ∀ (ls : Array Slot), lv_has ls 18 [(9, .int y_29), (8, .int y_25), (7, .int x_23), (6, .int y_20), (0, .ref o0), (1, .int p1), (2, .int p2), (3, .int p3), (4, .int p4), (5, .int p5)] → W p l e (headSpec (wU yX3_descend cX3_descend 18 (some .boolean)) { frames := 3 + (n_ + 1), cells := 0, slots := 0, locals := 87 + (n_ + 1) * 37 }).room s m [.ref o0, .int p1, .int p2, .int p3, .int p4, .int p5].toArray below meth c H locs 0 0 (MQ below (va_Qi (fun (r : Int32) (f9 : Nat → va_E) => GI (okc cI cL cZ cR cG cH L kd) kd L f9 ∧ (0 ≤ r.toInt ∧ r.toInt ≤ 1) ∧ (∀ b, kd b ≠ 1 → kd b ≠ 3 → kd b ≠ 10 → kd b ≠ 517 → kd b ≠ 518 → kd b ≠ 519 → kd b ≠ 520 → kd b ≠ 521 → kd b ≠ 522 → kd b ≠ 523 → kd b ≠ 524 → kd b ≠ 525 → kd b ≠ 526 → kd b ≠ 527 → f9 b = f b) ∧ (∀ b, kd b = 1 → fldR (f9 b) 0 = fldR (f b) 0) ∧ (∀ b, kd b = 1 → fldR (f9 b) 1 = fldR (f b) 1) ∧ (∀ b, kd b = 3 → fldR (f9 b) 0 = fldR (f b) 0) ∧ (∀ b, kd b = 3 → fldR (f9 b) 3 = fldR (f b) 3) ∧ (∀ d9, fldR (f9 o0) 3 = some d9 → drel kd 1 521 522 f9 d9)) (qP (dC, dI) cI cL cZ cR cG cH L) (fun q => q ∈ L)) [.ref o0, .int p1, .int p2, .int p3, .int p4, .int p5].toArray s 0 0 (fun q => q ∈ L)) (F0 m 118 ls [.int y_50]) := by
              intro y_50 by_50 hjhcut_51_0 ls hl
              refine lv_istore (lv' := [(10, .int y_50), (9, .int y_29), (8, .int y_25), (7, .int x_23), (6, .int y_20), (0, .ref o0), (1, .int p1), (2, .int p2), (3, .int p3), (4, .int p4), (5, .int p5)]) hx hb dX3_descend_118 hl (by decide) rfl (fun ls hl => ?_)
              have hloop_68 : ∀ (n : Nat), ∀ (y_69 : Int32), (0 ≤ y_69.toInt ∧ y_69.toInt ≤ 8) → ∀ (y_70 : Int32), (0 ≤ y_70.toInt ∧ y_70.toInt ≤ 1) → ∀ (f_72 : Nat → va_E), GI (okc cI cL cZ cR cG cH L kd) kd L f_72 → ∀ (H : Heap) (locs : List Loc), va_P (dC, dI) vwCl (va_pl L f_72) H → va_S (fun q => q ∈ L) s.heap H locs → va_D (fun q => q ∈ L) (va_pl L f_72) → (∀ b, kd b ≠ 1 → kd b ≠ 3 → kd b ≠ 10 → kd b ≠ 517 → kd b ≠ 518 → kd b ≠ 519 → kd b ≠ 520 → kd b ≠ 521 → kd b ≠ 522 → kd b ≠ 523 → kd b ≠ 524 → kd b ≠ 525 → kd b ≠ 526 → kd b ≠ 527 → f_72 b = f b) → (∀ b, kd b = 1 → fldR (f_72 b) 0 = fldR (f b) 0) → (∀ b, kd b = 1 → fldR (f_72 b) 1 = fldR (f b) 1) → (∀ b, kd b = 3 → fldR (f_72 b) 0 = fldR (f b) 0) → (∀ b, kd b = 3 → fldR (f_72 b) 3 = fldR (f b) 3) → drel kd 1 521 522 f_72 a_5 → (4 ≤ y_69.toInt ∨ p2.toInt ≤ 7) → 8 - y_69.toInt < (n : Int) → ∀ (ls : Array Slot), lv_has ls 18 [(10, .int y_69), (9, .int y_29), (8, .int y_70), (7, .int x_23), (6, .int y_20), (0, .ref o0), (1, .int p1), (2, .int p2), (3, .int p3), (4, .int p4), (5, .int p5)] → W p l e (headSpec (wU yX3_descend cX3_descend 18 (some .boolean)) { frames := 3 + (n_ + 1), cells := 0, slots := 0, locals := 87 + (n_ + 1) * 37 }).room s m [.ref o0, .int p1, .int p2, .int p3, .int p4, .int p5].toArray below meth c H locs 0 0 (MQ below (va_Qi (fun (r : Int32) (f9 : Nat → va_E) => GI (okc cI cL cZ cR cG cH L kd) kd L f9 ∧ (0 ≤ r.toInt ∧ r.toInt ≤ 1) ∧ (∀ b, kd b ≠ 1 → kd b ≠ 3 → kd b ≠ 10 → kd b ≠ 517 → kd b ≠ 518 → kd b ≠ 519 → kd b ≠ 520 → kd b ≠ 521 → kd b ≠ 522 → kd b ≠ 523 → kd b ≠ 524 → kd b ≠ 525 → kd b ≠ 526 → kd b ≠ 527 → f9 b = f b) ∧ (∀ b, kd b = 1 → fldR (f9 b) 0 = fldR (f b) 0) ∧ (∀ b, kd b = 1 → fldR (f9 b) 1 = fldR (f b) 1) ∧ (∀ b, kd b = 3 → fldR (f9 b) 0 = fldR (f b) 0) ∧ (∀ b, kd b = 3 → fldR (f9 b) 3 = fldR (f b) 3) ∧ (∀ d9, fldR (f9 o0) 3 = some d9 → drel kd 1 521 522 f9 d9)) (qP (dC, dI) cI cL cZ cR cG cH L) (fun q => q ∈ L)) [.ref o0, .int p1, .int p2, .int p3, .int p4, .int p5].toArray s 0 0 (fun q => q ∈ L)) (F0 m 120 ls []) := by
                intro n
                induction n with
                | zero => intro y_69 by_69 y_70 by_70 f_72 hG H locs hP hS hD hfr0 hrr1_0 hrr1_1 hrr3_0 hrr3_3 hT0 hrelhloop_68_0 hmuhloop_68 ls hl; exfalso; omega
                | succ n ih_hloop_68 =>
                  intro y_69 by_69 y_70 by_70 f_72 hG H locs hP hS hD hfr0 hrr1_0 hrr1_1 hrr3_0 hrr3_3 hT0 hrelhloop_68_0 hmuhloop_68 ls hl
                  refine lv_iload hx hb dX3_descend_120 (lv_at hl 0 rfl) ?_
                  refine lv_iload hx hb dX3_descend_122 (lv_at hl 1 rfl) ?_
                  have hcut_73 : ∀ (ls : Array Slot), lv_has ls 18 [(10, .int y_69), (9, .int y_29), (8, .int y_70), (7, .int x_23), (6, .int y_20), (0, .ref o0), (1, .int p1), (2, .int p2), (3, .int p3), (4, .int p4), (5, .int p5)] → W p l e (headSpec (wU yX3_descend cX3_descend 18 (some .boolean)) { frames := 3 + (n_ + 1), cells := 0, slots := 0, locals := 87 + (n_ + 1) * 37 }).room s m [.ref o0, .int p1, .int p2, .int p3, .int p4, .int p5].toArray below meth c H locs 0 0 (MQ below (va_Qi (fun (r : Int32) (f9 : Nat → va_E) => GI (okc cI cL cZ cR cG cH L kd) kd L f9 ∧ (0 ≤ r.toInt ∧ r.toInt ≤ 1) ∧ (∀ b, kd b ≠ 1 → kd b ≠ 3 → kd b ≠ 10 → kd b ≠ 517 → kd b ≠ 518 → kd b ≠ 519 → kd b ≠ 520 → kd b ≠ 521 → kd b ≠ 522 → kd b ≠ 523 → kd b ≠ 524 → kd b ≠ 525 → kd b ≠ 526 → kd b ≠ 527 → f9 b = f b) ∧ (∀ b, kd b = 1 → fldR (f9 b) 0 = fldR (f b) 0) ∧ (∀ b, kd b = 1 → fldR (f9 b) 1 = fldR (f b) 1) ∧ (∀ b, kd b = 3 → fldR (f9 b) 0 = fldR (f b) 0) ∧ (∀ b, kd b = 3 → fldR (f9 b) 3 = fldR (f b) 3) ∧ (∀ d9, fldR (f9 o0) 3 = some d9 → drel kd 1 521 522 f9 d9)) (qP (dC, dI) cI cL cZ cR cG cH L) (fun q => q ∈ L)) [.ref o0, .int p1, .int p2, .int p3, .int p4, .int p5].toArray s 0 0 (fun q => q ∈ L)) (F0 m 349 ls []) := by
                    intro ls hl
                    refine lv_iload hx hb dX3_descend_349 (lv_at hl 4 rfl) ?_
                    refine lv_if_eq (tgt := 394) hx hb dX3_descend_351 (by decide) (fun c_74 => ?_) (fun c_74 => ?_)
                    · skip
                      rw [← Int32.toInt_inj, ti_0] at c_74
                      refine lv_iload hx hb dX3_descend_394 (lv_at hl 2 rfl) ?_
                      obtain ⟨a_76, a_77, a_78, a_79, a_80, v_81, v_82, v_83, v_84, v_85, v_86, v_87, a_88, a_89, a_90, v_91, a_92, a_93, hfo_75, ⟨ma_76, ka_76⟩, ⟨ma_77, ka_77⟩, ⟨ma_78, ka_78⟩, ⟨ma_79, ka_79⟩, ⟨ma_80, ka_80⟩, bv_81, bv_82, bv_83, ⟨ma_88, ka_88⟩, ⟨ma_89, ka_89⟩, ⟨ma_90, ka_90⟩, bv_91, ⟨ma_92, ka_92⟩, ⟨ma_93, ka_93⟩⟩ := un_3 (hG _ mo0) ko0
                      have bv_84 : ((-2147483648) ≤ v_84.toInt ∧ v_84.toInt ≤ 2147483647) := ⟨i32_lo _, i32_hi _⟩
                      have bv_85 : ((-2147483648) ≤ v_85.toInt ∧ v_85.toInt ≤ 2147483647) := ⟨i32_lo _, i32_hi _⟩
                      have bv_86 : ((-2147483648) ≤ v_86.toInt ∧ v_86.toInt ≤ 2147483647) := ⟨i32_lo _, i32_hi _⟩
                      have bv_87 : ((-2147483648) ≤ v_87.toInt ∧ v_87.toInt ≤ 2147483647) := ⟨i32_lo _, i32_hi _⟩
                      obtain rfl : a_2 = a_76 := by have hk9 := hrr3_0 o0 ko0; rw [hfo_75, hfo_1] at hk9; exact (Option.some.inj hk9).symm
                      obtain rfl : a_5 = a_79 := by have hk9 := hrr3_3 o0 ko0; rw [hfo_75, hfo_1] at hk9; exact (Option.some.inj hk9).symm
                      exact W.zret (v := y_70) (ty := .boolean) hx hb hr (zb_n (by constructor <;> omega)) (fun t ht hW => ⟨⟨y_70, f_72, rfl, ⟨hG, (by constructor <;> omega), hfr0, hrr1_0, hrr1_1, hrr3_0, hrr3_3, (fun d9 h9 => by rw [hfo_75] at h9; obtain rfl := Option.some.inj h9; exact hT0)⟩, by rw [ht]; exact hP, va_K.moved hW.alike hK, pl_in hD⟩, hS.F ht⟩) hS.2.2 dX3_descend_396
                    · skip
                      rw [← Int32.toInt_inj, ti_0] at c_74
                      exfalso
                      omega
                  refine lv_icmp_ge (tgt := 349) hx hb dX3_descend_124 (by decide) (fun c_94 => ?_) (fun c_94 => ?_)
                  · skip
                    rw [Int32.le_iff_toInt_le] at c_94
                    exact hcut_73 ls (lv_sub hl [0, 1, 2, 3, 4, 5, 6, 7, 8, 9, 10] rfl)
                  · skip
                    rw [Int32.le_iff_toInt_le] at c_94
                    have hclc_95 : (0 ≤ p1.toInt ∧ p1.toInt ≤ 8) := by constructor <;> omega
                    refine lv_aload_n hx hb dX3_descend_127 rfl (lv_at hl 5 rfl) ?_
                    obtain ⟨a_97, a_98, a_99, a_100, a_101, v_102, v_103, v_104, v_105, v_106, v_107, v_108, a_109, a_110, a_111, v_112, a_113, a_114, hfo_96, ⟨ma_97, ka_97⟩, ⟨ma_98, ka_98⟩, ⟨ma_99, ka_99⟩, ⟨ma_100, ka_100⟩, ⟨ma_101, ka_101⟩, bv_102, bv_103, bv_104, ⟨ma_109, ka_109⟩, ⟨ma_110, ka_110⟩, ⟨ma_111, ka_111⟩, bv_112, ⟨ma_113, ka_113⟩, ⟨ma_114, ka_114⟩⟩ := un_3 (hG _ mo0) ko0
                    have bv_105 : ((-2147483648) ≤ v_105.toInt ∧ v_105.toInt ≤ 2147483647) := ⟨i32_lo _, i32_hi _⟩
                    have bv_106 : ((-2147483648) ≤ v_106.toInt ∧ v_106.toInt ≤ 2147483647) := ⟨i32_lo _, i32_hi _⟩
                    have bv_107 : ((-2147483648) ≤ v_107.toInt ∧ v_107.toInt ≤ 2147483647) := ⟨i32_lo _, i32_hi _⟩
                    have bv_108 : ((-2147483648) ≤ v_108.toInt ∧ v_108.toInt ≤ 2147483647) := ⟨i32_lo _, i32_hi _⟩
                    obtain rfl : a_2 = a_97 := by have hk9 := hrr3_0 o0 ko0; rw [hfo_96, hfo_1] at hk9; exact (Option.some.inj hk9).symm
                    obtain rfl : a_5 = a_100 := by have hk9 := hrr3_3 o0 ko0; rw [hfo_96, hfo_1] at hk9; exact (Option.some.inj hk9).symm
                    refine tk_getP (D := (dC, dI)) (ci := 3) (v := .ref a_98) (C := RX3) (T := TX3) (N := 18) hx hb hU inlX3 hown hK hP mo0 hfo_96 rfl 1 (by decide) (hU _ wd_52) (fun _ h9 => h9) rfl dX3_descend_128 ?_
                    obtain ⟨a_116, v_117, v_118, hfo_115, ⟨ma_116, ka_116⟩, bv_117, bv_118⟩ := un_10 (hG _ ma_98) ka_98
                    refine tk_getP (D := (dC, dI)) (ci := 10) (v := .int v_118) (C := RX10) (T := TX10) (N := 3) hx hb hU inlX10 hown hK hP ma_98 hfo_115 rfl 2 (by decide) (hU _ wd_766) (fun _ h9 => h9) rfl dX3_descend_131 ?_
                    refine lv_if_ne (tgt := 349) hx hb dX3_descend_134 (by decide) (fun c_119 => ?_) (fun c_119 => ?_)
                    · skip
                      rw [← Int32.toInt_inj, ti_0] at c_119
                      exact hcut_73 ls (lv_sub hl [0, 1, 2, 3, 4, 5, 6, 7, 8, 9, 10] rfl)
                    · skip
                      rw [← Int32.toInt_inj, ti_0] at c_119
                      refine lv_iload hx hb dX3_descend_137 (lv_at hl 0 rfl) ?_
                      refine lv_iconst (v := 4) hx hb dX3_descend_139 (by decide) ?_
                      have hcut_121 : ∀ (y_120 : Int32), (0 ≤ y_120.toInt ∧ y_120.toInt ≤ 8) → (y_120.toInt = 0 ∨ p2.toInt ≤ 7) → ∀ (ls : Array Slot), lv_has ls 18 [(10, .int y_69), (9, .int y_29), (8, .int y_70), (7, .int x_23), (6, .int y_20), (0, .ref o0), (1, .int p1), (2, .int p2), (3, .int p3), (4, .int p4), (5, .int p5)] → W p l e (headSpec (wU yX3_descend cX3_descend 18 (some .boolean)) { frames := 3 + (n_ + 1), cells := 0, slots := 0, locals := 87 + (n_ + 1) * 37 }).room s m [.ref o0, .int p1, .int p2, .int p3, .int p4, .int p5].toArray below meth c H locs 0 0 (MQ below (va_Qi (fun (r : Int32) (f9 : Nat → va_E) => GI (okc cI cL cZ cR cG cH L kd) kd L f9 ∧ (0 ≤ r.toInt ∧ r.toInt ≤ 1) ∧ (∀ b, kd b ≠ 1 → kd b ≠ 3 → kd b ≠ 10 → kd b ≠ 517 → kd b ≠ 518 → kd b ≠ 519 → kd b ≠ 520 → kd b ≠ 521 → kd b ≠ 522 → kd b ≠ 523 → kd b ≠ 524 → kd b ≠ 525 → kd b ≠ 526 → kd b ≠ 527 → f9 b = f b) ∧ (∀ b, kd b = 1 → fldR (f9 b) 0 = fldR (f b) 0) ∧ (∀ b, kd b = 1 → fldR (f9 b) 1 = fldR (f b) 1) ∧ (∀ b, kd b = 3 → fldR (f9 b) 0 = fldR (f b) 0) ∧ (∀ b, kd b = 3 → fldR (f9 b) 3 = fldR (f b) 3) ∧ (∀ d9, fldR (f9 o0) 3 = some d9 → drel kd 1 521 522 f9 d9)) (qP (dC, dI) cI cL cZ cR cG cH L) (fun q => q ∈ L)) [.ref o0, .int p1, .int p2, .int p3, .int p4, .int p5].toArray s 0 0 (fun q => q ∈ L)) (F0 m 153 ls [.int y_120]) := by
                        intro y_120 by_120 hjhcut_121_0 ls hl
                        refine lv_istore (lv' := [(11, .int y_120), (10, .int y_69), (9, .int y_29), (8, .int y_70), (7, .int x_23), (6, .int y_20), (0, .ref o0), (1, .int p1), (2, .int p2), (3, .int p3), (4, .int p4), (5, .int p5)]) hx hb dX3_descend_153 hl (by decide) rfl (fun ls hl => ?_)
                        refine lv_aload_n hx hb dX3_descend_155 rfl (lv_at hl 6 rfl) ?_
                        refine lv_iload hx hb dX3_descend_156 (lv_at hl 0 rfl) ?_
                        refine lv_iload hx hb dX3_descend_158 (lv_at hl 1 rfl) ?_
                        refine lv_iconst (v := 4) hx hb dX3_descend_160 (by decide) ?_
                        refine lv_irem hx hb dX3_descend_161 (by decide) ?_
                        refine lv_topi (fun x_122 ex_122 => ?_)
                        have hx_122 : x_122.toInt = y_69.toInt % 4 := by rw [ex_122, rm_I (by omega) (by rw [ti_4]; omega), ti_4]
                        have bx_122 : (0 ≤ x_122.toInt ∧ x_122.toInt ≤ 3) := by constructor <;> omega
                        refine tk_ViP (As := [.int y_120, .int x_122]) (rest := []) (n := 2) hx hb hml hown hU hN hZ (s_X3_choiceOf_k3 l (dC, dI) cI cL cZ cR cG cH Z kd L f_72 hG o0 mo0 ko0 y_120 (by constructor <;> omega) x_122 (by constructor <;> omega)) wd_819 wd_820 wd_821 wd_16 wd_822 (by decide +kernel) ⟨(show 0 + 1 ≤ 3 + (n_ + 1) by omega), (show 8 + (4 + 11) + 0 ≤ 87 + (n_ + 1) * 37 by omega)⟩ hK hP hD hS mo0 hfo_96 3 rfl rfl rfl hl.1 rfl (Nat.le_of_ble_eq_true rfl) dX3_descend_162 ⟨Nat.le_of_ble_eq_true rfl, Nat.le_of_ble_eq_true rfl⟩ (fun x_123 f_124 H locs hw hP hD hS => ?_)
                        obtain ⟨rfl, bx_123⟩ := hw
                        refine lv_istore (lv' := [(12, .int x_123), (11, .int y_120), (10, .int y_69), (9, .int y_29), (8, .int y_70), (7, .int x_23), (6, .int y_20), (0, .ref o0), (1, .int p1), (2, .int p2), (3, .int p3), (4, .int p4), (5, .int p5)]) hx hb dX3_descend_165 hl (by decide) rfl (fun ls hl => ?_)
                        refine lv_iload hx hb dX3_descend_167 (lv_at hl 0 rfl) ?_
                        refine lv_iconst (v := (-1)) hx hb dX3_descend_169 (by decide) ?_
                        have hcut_129 : ∀ (y_126 : Int32), (0 ≤ y_126.toInt ∧ y_126.toInt ≤ 1) → ∀ (f_128 : Nat → va_E), GI (okc cI cL cZ cR cG cH L kd) kd L f_128 → ∀ (H : Heap) (locs : List Loc), va_P (dC, dI) vwCl (va_pl L f_128) H → va_S (fun q => q ∈ L) s.heap H locs → va_D (fun q => q ∈ L) (va_pl L f_128) → (∀ b, kd b ≠ 1 → kd b ≠ 3 → kd b ≠ 10 → kd b ≠ 517 → kd b ≠ 518 → kd b ≠ 519 → kd b ≠ 520 → kd b ≠ 521 → kd b ≠ 522 → kd b ≠ 523 → kd b ≠ 524 → kd b ≠ 525 → kd b ≠ 526 → kd b ≠ 527 → f_128 b = f b) → (∀ b, kd b = 1 → fldR (f_128 b) 0 = fldR (f b) 0) → (∀ b, kd b = 1 → fldR (f_128 b) 1 = fldR (f b) 1) → (∀ b, kd b = 3 → fldR (f_128 b) 0 = fldR (f b) 0) → (∀ b, kd b = 3 → fldR (f_128 b) 3 = fldR (f b) 3) → drel kd 1 521 522 f_128 a_5 → ∀ (ls : Array Slot), lv_has ls 18 [(12, .int x_123), (11, .int y_120), (10, .int y_69), (9, .int y_29), (8, .int y_126), (7, .int x_23), (6, .int y_20), (0, .ref o0), (1, .int p1), (2, .int p2), (3, .int p3), (4, .int p4), (5, .int p5)] → W p l e (headSpec (wU yX3_descend cX3_descend 18 (some .boolean)) { frames := 3 + (n_ + 1), cells := 0, slots := 0, locals := 87 + (n_ + 1) * 37 }).room s m [.ref o0, .int p1, .int p2, .int p3, .int p4, .int p5].toArray below meth c H locs 0 0 (MQ below (va_Qi (fun (r : Int32) (f9 : Nat → va_E) => GI (okc cI cL cZ cR cG cH L kd) kd L f9 ∧ (0 ≤ r.toInt ∧ r.toInt ≤ 1) ∧ (∀ b, kd b ≠ 1 → kd b ≠ 3 → kd b ≠ 10 → kd b ≠ 517 → kd b ≠ 518 → kd b ≠ 519 → kd b ≠ 520 → kd b ≠ 521 → kd b ≠ 522 → kd b ≠ 523 → kd b ≠ 524 → kd b ≠ 525 → kd b ≠ 526 → kd b ≠ 527 → f9 b = f b) ∧ (∀ b, kd b = 1 → fldR (f9 b) 0 = fldR (f b) 0) ∧ (∀ b, kd b = 1 → fldR (f9 b) 1 = fldR (f b) 1) ∧ (∀ b, kd b = 3 → fldR (f9 b) 0 = fldR (f b) 0) ∧ (∀ b, kd b = 3 → fldR (f9 b) 3 = fldR (f b) 3) ∧ (∀ d9, fldR (f9 o0) 3 = some d9 → drel kd 1 521 522 f9 d9)) (qP (dC, dI) cI cL cZ cR cG cH L) (fun q => q ∈ L)) [.ref o0, .int p1, .int p2, .int p3, .int p4, .int p5].toArray s 0 0 (fun q => q ∈ L)) (F0 m 343 ls []) := by
                          intro y_126 by_126 f_128 hG H locs hP hS hD hfr0 hrr1_0 hrr1_1 hrr3_0 hrr3_3 hT0 ls hl
                          obtain ⟨x_130, ex_130⟩ : ∃ y : Int32, y_69 + 1 = y := ⟨_, rfl⟩
                          have hx_130 : x_130.toInt = y_69.toInt + 1 := by rw [← ex_130, ad_I (by rw [ti_1]; omega) (by rw [ti_1]; omega), ti_1]
                          have bx_130 : (1 ≤ x_130.toInt ∧ x_130.toInt ≤ 8) := by constructor <;> omega
                          refine lv_iinc (v := x_130) (lv' := [(10, .int x_130), (12, .int x_123), (11, .int y_120), (9, .int y_29), (8, .int y_126), (7, .int x_23), (6, .int y_20), (0, .ref o0), (1, .int p1), (2, .int p2), (3, .int p3), (4, .int p4), (5, .int p5)]) hx hb dX3_descend_343 hl (k := 2) rfl ex_130 (by decide) rfl (fun ls hl => ?_)
                          refine lv_goto (tgt := 120) hx hb dX3_descend_346 (by decide) ?_
                          exact ih_hloop_68 x_130 (by constructor <;> omega) y_126 (by constructor <;> omega) f_128 hG _ _ hP hS hD hfr0 hrr1_0 hrr1_1 hrr3_0 hrr3_3 hT0 (by omega) (by omega) ls (lv_sub hl [0, 3, 4, 5, 6, 7, 8, 9, 10, 11, 12] rfl)
                        refine lv_icmp_ne (tgt := 176) hx hb dX3_descend_170 (by decide) (fun c_131 => ?_) (fun c_131 => ?_)
                        · skip
                          rw [← Int32.toInt_inj, ti_m1] at c_131
                          refine lv_aload_n hx hb dX3_descend_176 rfl (lv_at hl 7 rfl) ?_
                          refine tk_getP (D := (dC, dI)) (ci := 3) (v := .int v_103) (C := RX3) (T := TX3) (N := 18) hx hb hU inlX3 hown hK hP mo0 hfo_96 rfl 6 (by decide) (hU _ wd_732) (fun _ h9 => h9) rfl dX3_descend_177 ?_
                          have hcut_133 : ∀ (y_132 : Int32), (0 ≤ y_132.toInt ∧ y_132.toInt ≤ 8) → ∀ (ls : Array Slot), lv_has ls 18 [(12, .int x_123), (11, .int y_120), (10, .int y_69), (9, .int y_29), (8, .int y_70), (7, .int x_23), (6, .int y_20), (0, .ref o0), (1, .int p1), (2, .int p2), (3, .int p3), (4, .int p4), (5, .int p5)] → W p l e (headSpec (wU yX3_descend cX3_descend 18 (some .boolean)) { frames := 3 + (n_ + 1), cells := 0, slots := 0, locals := 87 + (n_ + 1) * 37 }).room s m [.ref o0, .int p1, .int p2, .int p3, .int p4, .int p5].toArray below meth c H locs 0 0 (MQ below (va_Qi (fun (r : Int32) (f9 : Nat → va_E) => GI (okc cI cL cZ cR cG cH L kd) kd L f9 ∧ (0 ≤ r.toInt ∧ r.toInt ≤ 1) ∧ (∀ b, kd b ≠ 1 → kd b ≠ 3 → kd b ≠ 10 → kd b ≠ 517 → kd b ≠ 518 → kd b ≠ 519 → kd b ≠ 520 → kd b ≠ 521 → kd b ≠ 522 → kd b ≠ 523 → kd b ≠ 524 → kd b ≠ 525 → kd b ≠ 526 → kd b ≠ 527 → f9 b = f b) ∧ (∀ b, kd b = 1 → fldR (f9 b) 0 = fldR (f b) 0) ∧ (∀ b, kd b = 1 → fldR (f9 b) 1 = fldR (f b) 1) ∧ (∀ b, kd b = 3 → fldR (f9 b) 0 = fldR (f b) 0) ∧ (∀ b, kd b = 3 → fldR (f9 b) 3 = fldR (f b) 3) ∧ (∀ d9, fldR (f9 o0) 3 = some d9 → drel kd 1 521 522 f9 d9)) (qP (dC, dI) cI cL cZ cR cG cH L) (fun q => q ∈ L)) [.ref o0, .int p1, .int p2, .int p3, .int p4, .int p5].toArray s 0 0 (fun q => q ∈ L)) (F0 m 206 ls [.int y_132]) := by
                            intro y_132 by_132 ls hl
                            refine lv_istore (lv' := [(13, .int y_132), (12, .int x_123), (11, .int y_120), (10, .int y_69), (9, .int y_29), (8, .int y_70), (7, .int x_23), (6, .int y_20), (0, .ref o0), (1, .int p1), (2, .int p2), (3, .int p3), (4, .int p4), (5, .int p5)]) hx hb dX3_descend_206 hl (by decide) rfl (fun ls hl => ?_)
                            refine lv_iload hx hb dX3_descend_208 (lv_at hl 2 rfl) ?_
                            have hcut_135 : ∀ (y_134 : Int32), (0 ≤ y_134.toInt ∧ y_134.toInt ≤ 1) → ∀ (ls : Array Slot), lv_has ls 18 [(13, .int y_132), (12, .int x_123), (11, .int y_120), (10, .int y_69), (9, .int y_29), (8, .int y_70), (7, .int x_23), (6, .int y_20), (0, .ref o0), (1, .int p1), (2, .int p2), (3, .int p3), (4, .int p4), (5, .int p5)] → W p l e (headSpec (wU yX3_descend cX3_descend 18 (some .boolean)) { frames := 3 + (n_ + 1), cells := 0, slots := 0, locals := 87 + (n_ + 1) * 37 }).room s m [.ref o0, .int p1, .int p2, .int p3, .int p4, .int p5].toArray below meth c H locs 0 0 (MQ below (va_Qi (fun (r : Int32) (f9 : Nat → va_E) => GI (okc cI cL cZ cR cG cH L kd) kd L f9 ∧ (0 ≤ r.toInt ∧ r.toInt ≤ 1) ∧ (∀ b, kd b ≠ 1 → kd b ≠ 3 → kd b ≠ 10 → kd b ≠ 517 → kd b ≠ 518 → kd b ≠ 519 → kd b ≠ 520 → kd b ≠ 521 → kd b ≠ 522 → kd b ≠ 523 → kd b ≠ 524 → kd b ≠ 525 → kd b ≠ 526 → kd b ≠ 527 → f9 b = f b) ∧ (∀ b, kd b = 1 → fldR (f9 b) 0 = fldR (f b) 0) ∧ (∀ b, kd b = 1 → fldR (f9 b) 1 = fldR (f b) 1) ∧ (∀ b, kd b = 3 → fldR (f9 b) 0 = fldR (f b) 0) ∧ (∀ b, kd b = 3 → fldR (f9 b) 3 = fldR (f b) 3) ∧ (∀ d9, fldR (f9 o0) 3 = some d9 → drel kd 1 521 522 f9 d9)) (qP (dC, dI) cI cL cZ cR cG cH L) (fun q => q ∈ L)) [.ref o0, .int p1, .int p2, .int p3, .int p4, .int p5].toArray s 0 0 (fun q => q ∈ L)) (F0 m 223 ls [.int y_134]) := by
                              intro y_134 by_134 ls hl
                              refine lv_istore (lv' := [(14, .int y_134), (13, .int y_132), (12, .int x_123), (11, .int y_120), (10, .int y_69), (9, .int y_29), (8, .int y_70), (7, .int x_23), (6, .int y_20), (0, .ref o0), (1, .int p1), (2, .int p2), (3, .int p3), (4, .int p4), (5, .int p5)]) hx hb dX3_descend_223 hl (by decide) rfl (fun ls hl => ?_)
                              refine lv_iload hx hb dX3_descend_225 (lv_at hl 0 rfl) ?_
                              refine lv_iload_n hx hb dX3_descend_227 rfl (lv_at hl 12 rfl) ?_
                              refine lv_icmp_gt (tgt := 343) hx hb dX3_descend_228 (by decide) (fun c_136 => ?_) (fun c_136 => ?_)
                              · skip
                                rw [Int32.lt_iff_toInt_lt] at c_136
                                exact hcut_129 y_70 (by constructor <;> omega) f_72 hG _ _ hP hS hD hfr0 hrr1_0 hrr1_1 hrr3_0 hrr3_3 hT0 ls (lv_sub hl [2, 3, 4, 5, 6, 7, 8, 9, 10, 11, 12, 13, 14] rfl)
                              · skip
                                rw [Int32.lt_iff_toInt_lt] at c_136
                                refine lv_aload_n hx hb dX3_descend_231 rfl (lv_at hl 9 rfl) ?_
                                refine lv_aload_n hx hb dX3_descend_232 rfl (lv_at hl 9 rfl) ?_
                                refine tk_getP (D := (dC, dI)) (ci := 3) (v := .ref a_99) (C := RX3) (T := TX3) (N := 18) hx hb hU inlX3 hown hK hP mo0 hfo_96 rfl 2 (by decide) (hU _ wd_56) (fun _ h9 => h9) rfl dX3_descend_233 ?_
                                refine lv_aload_n hx hb dX3_descend_236 rfl (lv_at hl 9 rfl) ?_
                                refine tk_getP (D := (dC, dI)) (ci := 3) (v := .ref a_2) (C := RX3) (T := TX3) (N := 18) hx hb hU inlX3 hown hK hP mo0 hfo_96 rfl 0 (by decide) (hU _ wd_48) (fun _ h9 => h9) rfl dX3_descend_237 ?_
                                refine lv_aload_n hx hb dX3_descend_240 rfl (lv_at hl 9 rfl) ?_
                                refine tk_getP (D := (dC, dI)) (ci := 3) (v := .int v_105) (C := RX3) (T := TX3) (N := 18) hx hb hU inlX3 hown hK hP mo0 hfo_96 rfl 8 (by decide) (hU _ wd_734) (fun _ h9 => h9) rfl dX3_descend_241 ?_
                                refine lv_iload_n hx hb dX3_descend_244 rfl (lv_at hl 10 rfl) ?_
                                refine lv_iload hx hb dX3_descend_245 (lv_at hl 2 rfl) ?_
                                obtain ⟨a_138, a_139, a_140, a_141, a_142, hfo_137, ⟨ma_138, ka_138⟩, ⟨ma_139, ka_139⟩, ⟨ma_140, ka_140⟩, ⟨ma_141, ka_141⟩, ⟨ma_142, ka_142⟩⟩ := un_8 (hG _ ma_99) ka_99
                                refine tk_ViP (As := [.ref a_2, .int v_105, .int p1, .int x_123]) (rest := [.ref o0]) (n := 4) hx hb hml hown hU hN hZ (s_X8_step_k8_k7 l (dC, dI) cI cL cZ cR cG cH Z kd L f_72 hG a_99 ma_99 ka_99 a_2 ma_2 ka_2 v_105 p1 (by constructor <;> omega) x_123 (by constructor <;> omega)) wd_825 wd_826 wd_827 wd_55 wd_828 (by decide +kernel) ⟨(show 2 + 1 ≤ 3 + (n_ + 1) by omega), (show 8 + (12 + 11) + 56 ≤ 87 + (n_ + 1) * 37 by omega)⟩ hK hP hD hS ma_99 hfo_137 8 rfl rfl rfl hl.1 rfl (Nat.le_of_ble_eq_true rfl) dX3_descend_247 ⟨Nat.le_of_ble_eq_true rfl, Nat.le_of_ble_eq_true rfl⟩ (fun x_143 f_144 H locs hw hP hD hS => ?_)
                                obtain ⟨hG, bx_143, hkc_145⟩ := hw
                                have hfo_147 : f_144 o0 = .inr (3, [.ref a_2, .ref a_98, .ref a_99, .ref a_5, .ref a_101, .int v_102, .int v_103, .int v_104, .int v_105, .int v_106, .int v_107, .int v_108, .ref a_109, .ref a_110, .ref a_111, .int v_112, .ref a_113, .ref a_114]) := by rw [hkc_145 o0 (by rw [ko0]; decide) (by rw [ko0]; decide) (by rw [ko0]; decide) (by rw [ko0]; decide)]; exact hfo_96
                                have hfo_148 : f_144 a_98 = .inr (10, [.ref a_116, .int v_117, .int v_118]) := by rw [hkc_145 a_98 (by rw [ka_98]; decide) (by rw [ka_98]; decide) (by rw [ka_98]; decide) (by rw [ka_98]; decide)]; exact hfo_115
                                have hfo_149 : f_144 a_99 = .inr (8, [.ref a_138, .ref a_139, .ref a_140, .ref a_141, .ref a_142]) := by rw [hkc_145 a_99 (by rw [ka_99]; decide) (by rw [ka_99]; decide) (by rw [ka_99]; decide) (by rw [ka_99]; decide)]; exact hfo_137
                                have hfr0 : ∀ b, kd b ≠ 1 → kd b ≠ 3 → kd b ≠ 10 → kd b ≠ 517 → kd b ≠ 518 → kd b ≠ 519 → kd b ≠ 520 → kd b ≠ 521 → kd b ≠ 522 → kd b ≠ 523 → kd b ≠ 524 → kd b ≠ 525 → kd b ≠ 526 → kd b ≠ 527 → f_144 b = f b := fun b q1 q3 q10 q517 q518 q519 q520 q521 q522 q523 q524 q525 q526 q527 => (hkc_145 b q517 q518 q519 q520).trans (hfr0 b q1 q3 q10 q517 q518 q519 q520 q521 q522 q523 q524 q525 q526 q527)
                                have hrr1_0 : ∀ b, kd b = 1 → fldR (f_144 b) 0 = fldR (f b) 0 := fun b kb => (congrArg (fun x => fldR x 0) (hkc_145 b (by rw [kb]; decide) (by rw [kb]; decide) (by rw [kb]; decide) (by rw [kb]; decide))).trans (hrr1_0 b kb)
                                have hrr1_1 : ∀ b, kd b = 1 → fldR (f_144 b) 1 = fldR (f b) 1 := fun b kb => (congrArg (fun x => fldR x 1) (hkc_145 b (by rw [kb]; decide) (by rw [kb]; decide) (by rw [kb]; decide) (by rw [kb]; decide))).trans (hrr1_1 b kb)
                                have hrr3_0 : ∀ b, kd b = 3 → fldR (f_144 b) 0 = fldR (f b) 0 := fun b kb => (congrArg (fun x => fldR x 0) (hkc_145 b (by rw [kb]; decide) (by rw [kb]; decide) (by rw [kb]; decide) (by rw [kb]; decide))).trans (hrr3_0 b kb)
                                have hrr3_3 : ∀ b, kd b = 3 → fldR (f_144 b) 3 = fldR (f b) 3 := fun b kb => (congrArg (fun x => fldR x 3) (hkc_145 b (by rw [kb]; decide) (by rw [kb]; decide) (by rw [kb]; decide) (by rw [kb]; decide))).trans (hrr3_3 b kb)
                                have hT0 : drel kd 1 521 522 f_144 a_5 := hT0.keep (fun b q => congrArg (fun x => fldI x 5) (hkc_145 b (by rw [q]; decide) (by rw [q]; decide) (by rw [q]; decide) (by rw [q]; decide))) (fun b q => congrArg (fun x => fldR x 0) (hkc_145 b (by rw [q]; decide) (by rw [q]; decide) (by rw [q]; decide) (by rw [q]; decide))) (fun b q => congrArg (fun x => fldR x 1) (hkc_145 b (by rw [q]; decide) (by rw [q]; decide) (by rw [q]; decide) (by rw [q]; decide))) (fun b q => hkc_145 b (by rw [q]; decide) (by rw [q]; decide) (by rw [q]; decide) (by rw [q]; decide)) (fun b q => hkc_145 b (by rw [q]; decide) (by rw [q]; decide) (by rw [q]; decide) (by rw [q]; decide))
                                refine tk_ViP (As := [.int x_143]) (rest := []) (n := 1) hx hb hml hown hU hN hZ (s_X3_isLeft_k3 l (dC, dI) cI cL cZ cR cG cH Z kd L f_144 hG o0 mo0 ko0 x_143) wd_806 wd_807 wd_808 wd_16 wd_809 (by decide +kernel) ⟨(show 0 + 1 ≤ 3 + (n_ + 1) by omega), (show 8 + (2 + 11) + 0 ≤ 87 + (n_ + 1) * 37 by omega)⟩ hK hP hD hS mo0 hfo_147 3 rfl rfl rfl hl.1 rfl (Nat.le_of_ble_eq_true rfl) dX3_descend_250 ⟨Nat.le_of_ble_eq_true rfl, Nat.le_of_ble_eq_true rfl⟩ (fun x_150 f_151 H locs hw hP hD hS => ?_)
                                obtain ⟨rfl, bx_150⟩ := hw
                                refine lv_if_eq (tgt := 259) hx hb dX3_descend_253 (by decide) (fun c_153 => ?_) (fun c_153 => ?_)
                                · skip
                                  rw [← Int32.toInt_inj, ti_0] at c_153
                                  refine lv_aload_n hx hb dX3_descend_259 rfl (lv_at hl 9 rfl) ?_
                                  refine tk_getP (D := (dC, dI)) (ci := 3) (v := .ref a_109) (C := RX3) (T := TX3) (N := 18) hx hb hU inlX3 hown hK hP mo0 hfo_147 rfl 12 (by decide) (hU _ wd_63) (fun _ h9 => h9) rfl dX3_descend_260 ?_
                                  refine lv_iload_n hx hb dX3_descend_263 rfl (lv_at hl 10 rfl) ?_
                                  refine lv_iload hx hb dX3_descend_264 (lv_at hl 2 rfl) ?_
                                  obtain ⟨g_155, hfo_154, hbg_155⟩ := un_525 (hG _ ma_109) ka_109
                                  refine tk_istP hx hb hK hP hD hS 0 ma_109 hfo_154 rfl (vp_in_iff.mpr (by constructor <;> omega)) dX3_descend_266 (fun H locs hP hD hS => ?_)
                                  obtain ⟨f_157, ef_157⟩ : ∃ y : Nat → va_E, y = va_up f_144 a_109 (.inl (cI, 9, .inl (upd g_155 (Int32.toNatClampNeg p1) x_123))) := ⟨_, rfl⟩
                                  have hP : va_P (dC, dI) vwCl (va_pl L f_157) H := by rw [ef_157]; exact hP
                                  have hD : va_D (fun q => q ∈ L) (va_pl L f_157) := by rw [ef_157]; exact hD
                                  have hG : GI (okc cI cL cZ cR cG cH L kd) kd L f_157 := by rw [ef_157]; exact hG.set a_109 (mk_525 ka_109 ⟨_, rfl, okI_up hbg_155 (by constructor <;> omega) _⟩)
                                  have hfo_158 : f_157 o0 = .inr (3, [.ref a_2, .ref a_98, .ref a_99, .ref a_5, .ref a_101, .int v_102, .int v_103, .int v_104, .int v_105, .int v_106, .int v_107, .int v_108, .ref a_109, .ref a_110, .ref a_111, .int v_112, .ref a_113, .ref a_114]) := by rw [ef_157, up_ne (kd_ne ka_109 ko0 (by decide))]; exact hfo_147
                                  have hfo_159 : f_157 a_98 = .inr (10, [.ref a_116, .int v_117, .int v_118]) := by rw [ef_157, up_ne (kd_ne ka_109 ka_98 (by decide))]; exact hfo_148
                                  have hfo_160 : f_157 a_99 = .inr (8, [.ref a_138, .ref a_139, .ref a_140, .ref a_141, .ref a_142]) := by rw [ef_157, up_ne (kd_ne ka_109 ka_99 (by decide))]; exact hfo_149
                                  have hfr0 : ∀ b, kd b ≠ 1 → kd b ≠ 3 → kd b ≠ 10 → kd b ≠ 517 → kd b ≠ 518 → kd b ≠ 519 → kd b ≠ 520 → kd b ≠ 521 → kd b ≠ 522 → kd b ≠ 523 → kd b ≠ 524 → kd b ≠ 525 → kd b ≠ 526 → kd b ≠ 527 → f_157 b = f b := fun b q1 q3 q10 q517 q518 q519 q520 q521 q522 q523 q524 q525 q526 q527 => (congrFun ef_157 b).trans ((up_ne (fun e9 => q525 (by rw [e9]; exact ka_109))).trans (hfr0 b q1 q3 q10 q517 q518 q519 q520 q521 q522 q523 q524 q525 q526 q527))
                                  have hrr1_0 : ∀ b, kd b = 1 → fldR (f_157 b) 0 = fldR (f b) 0 := fun b kb => (congrArg (fun x => fldR x 0) ((congrFun ef_157 b).trans (up_ne (kd_ne ka_109 kb (by decide))))).trans (hrr1_0 b kb)
                                  have hrr1_1 : ∀ b, kd b = 1 → fldR (f_157 b) 1 = fldR (f b) 1 := fun b kb => (congrArg (fun x => fldR x 1) ((congrFun ef_157 b).trans (up_ne (kd_ne ka_109 kb (by decide))))).trans (hrr1_1 b kb)
                                  have hrr3_0 : ∀ b, kd b = 3 → fldR (f_157 b) 0 = fldR (f b) 0 := fun b kb => (congrArg (fun x => fldR x 0) ((congrFun ef_157 b).trans (up_ne (kd_ne ka_109 kb (by decide))))).trans (hrr3_0 b kb)
                                  have hrr3_3 : ∀ b, kd b = 3 → fldR (f_157 b) 3 = fldR (f b) 3 := fun b kb => (congrArg (fun x => fldR x 3) ((congrFun ef_157 b).trans (up_ne (kd_ne ka_109 kb (by decide))))).trans (hrr3_3 b kb)
                                  have hT0 : drel kd 1 521 522 f_157 a_5 := by rw [ef_157]; exact hT0.up ka_109 (by decide) (by decide) (by decide)
                                  have hfo_161 : f_157 a_109 = .inl (cI, 9, .inl (upd g_155 (Int32.toNatClampNeg p1) x_123)) := by rw [ef_157]; exact up_self
                                  refine lv_iload hx hb dX3_descend_267 (lv_at hl 3 rfl) ?_
                                  have hcut_163 : ∀ (y_162 : Int32), (0 ≤ y_162.toInt ∧ y_162.toInt ≤ 8) → ∀ (ls : Array Slot), lv_has ls 18 [(14, .int y_134), (13, .int y_132), (12, .int x_123), (11, .int y_120), (10, .int y_69), (9, .int y_29), (8, .int y_70), (7, .int x_23), (6, .int y_20), (0, .ref o0), (1, .int p1), (2, .int p2), (3, .int p3), (4, .int p4), (5, .int p5)] → W p l e (headSpec (wU yX3_descend cX3_descend 18 (some .boolean)) { frames := 3 + (n_ + 1), cells := 0, slots := 0, locals := 87 + (n_ + 1) * 37 }).room s m [.ref o0, .int p1, .int p2, .int p3, .int p4, .int p5].toArray below meth c H locs 0 0 (MQ below (va_Qi (fun (r : Int32) (f9 : Nat → va_E) => GI (okc cI cL cZ cR cG cH L kd) kd L f9 ∧ (0 ≤ r.toInt ∧ r.toInt ≤ 1) ∧ (∀ b, kd b ≠ 1 → kd b ≠ 3 → kd b ≠ 10 → kd b ≠ 517 → kd b ≠ 518 → kd b ≠ 519 → kd b ≠ 520 → kd b ≠ 521 → kd b ≠ 522 → kd b ≠ 523 → kd b ≠ 524 → kd b ≠ 525 → kd b ≠ 526 → kd b ≠ 527 → f9 b = f b) ∧ (∀ b, kd b = 1 → fldR (f9 b) 0 = fldR (f b) 0) ∧ (∀ b, kd b = 1 → fldR (f9 b) 1 = fldR (f b) 1) ∧ (∀ b, kd b = 3 → fldR (f9 b) 0 = fldR (f b) 0) ∧ (∀ b, kd b = 3 → fldR (f9 b) 3 = fldR (f b) 3) ∧ (∀ d9, fldR (f9 o0) 3 = some d9 → drel kd 1 521 522 f9 d9)) (qP (dC, dI) cI cL cZ cR cG cH L) (fun q => q ∈ L)) [.ref o0, .int p1, .int p2, .int p3, .int p4, .int p5].toArray s 0 0 (fun q => q ∈ L)) (F0 m 279 ls [.int y_162]) := by
                                    intro y_162 by_162 ls hl
                                    refine lv_istore (lv' := [(15, .int y_162), (14, .int y_134), (13, .int y_132), (12, .int x_123), (11, .int y_120), (10, .int y_69), (9, .int y_29), (8, .int y_70), (7, .int x_23), (6, .int y_20), (0, .ref o0), (1, .int p1), (2, .int p2), (3, .int p3), (4, .int p4), (5, .int p5)]) hx hb dX3_descend_279 hl (by decide) rfl (fun ls hl => ?_)
                                    refine lv_iload hx hb dX3_descend_281 (lv_at hl 2 rfl) ?_
                                    have hcut_165 : ∀ (y_164 : Int32), (0 ≤ y_164.toInt ∧ y_164.toInt ≤ 731794256) → ((y_132.toInt = 0 ∧ y_164.toInt = p4.toInt) ∨ (1 ≤ y_132.toInt ∧ capR y_164.toInt (p5.toInt + 1))) → ∀ (ls : Array Slot), lv_has ls 18 [(15, .int y_162), (14, .int y_134), (13, .int y_132), (12, .int x_123), (11, .int y_120), (10, .int y_69), (9, .int y_29), (8, .int y_70), (7, .int x_23), (6, .int y_20), (0, .ref o0), (1, .int p1), (2, .int p2), (3, .int p3), (4, .int p4), (5, .int p5)] → W p l e (headSpec (wU yX3_descend cX3_descend 18 (some .boolean)) { frames := 3 + (n_ + 1), cells := 0, slots := 0, locals := 87 + (n_ + 1) * 37 }).room s m [.ref o0, .int p1, .int p2, .int p3, .int p4, .int p5].toArray below meth c H locs 0 0 (MQ below (va_Qi (fun (r : Int32) (f9 : Nat → va_E) => GI (okc cI cL cZ cR cG cH L kd) kd L f9 ∧ (0 ≤ r.toInt ∧ r.toInt ≤ 1) ∧ (∀ b, kd b ≠ 1 → kd b ≠ 3 → kd b ≠ 10 → kd b ≠ 517 → kd b ≠ 518 → kd b ≠ 519 → kd b ≠ 520 → kd b ≠ 521 → kd b ≠ 522 → kd b ≠ 523 → kd b ≠ 524 → kd b ≠ 525 → kd b ≠ 526 → kd b ≠ 527 → f9 b = f b) ∧ (∀ b, kd b = 1 → fldR (f9 b) 0 = fldR (f b) 0) ∧ (∀ b, kd b = 1 → fldR (f9 b) 1 = fldR (f b) 1) ∧ (∀ b, kd b = 3 → fldR (f9 b) 0 = fldR (f b) 0) ∧ (∀ b, kd b = 3 → fldR (f9 b) 3 = fldR (f b) 3) ∧ (∀ d9, fldR (f9 o0) 3 = some d9 → drel kd 1 521 522 f9 d9)) (qP (dC, dI) cI cL cZ cR cG cH L) (fun q => q ∈ L)) [.ref o0, .int p1, .int p2, .int p3, .int p4, .int p5].toArray s 0 0 (fun q => q ∈ L)) (F0 m 303 ls [.int y_164]) := by
                                      intro y_164 by_164 hjhcut_165_0 ls hl
                                      refine lv_istore (lv' := [(16, .int y_164), (15, .int y_162), (14, .int y_134), (13, .int y_132), (12, .int x_123), (11, .int y_120), (10, .int y_69), (9, .int y_29), (8, .int y_70), (7, .int x_23), (6, .int y_20), (0, .ref o0), (1, .int p1), (2, .int p2), (3, .int p3), (4, .int p4), (5, .int p5)]) hx hb dX3_descend_303 hl (by decide) rfl (fun ls hl => ?_)
                                      refine lv_iload hx hb dX3_descend_305 (lv_at hl 3 rfl) ?_
                                      have hcut_167 : ∀ (y_166 : Int32), (0 ≤ y_166.toInt ∧ y_166.toInt ≤ 9) → ((y_132.toInt = 0 ∧ y_166.toInt = p5.toInt) ∨ (1 ≤ y_132.toInt ∧ y_166.toInt = p5.toInt + 1)) → ∀ (ls : Array Slot), lv_has ls 18 [(16, .int y_164), (15, .int y_162), (14, .int y_134), (13, .int y_132), (12, .int x_123), (11, .int y_120), (10, .int y_69), (9, .int y_29), (8, .int y_70), (7, .int x_23), (6, .int y_20), (0, .ref o0), (1, .int p1), (2, .int p2), (3, .int p3), (4, .int p4), (5, .int p5)] → W p l e (headSpec (wU yX3_descend cX3_descend 18 (some .boolean)) { frames := 3 + (n_ + 1), cells := 0, slots := 0, locals := 87 + (n_ + 1) * 37 }).room s m [.ref o0, .int p1, .int p2, .int p3, .int p4, .int p5].toArray below meth c H locs 0 0 (MQ below (va_Qi (fun (r : Int32) (f9 : Nat → va_E) => GI (okc cI cL cZ cR cG cH L kd) kd L f9 ∧ (0 ≤ r.toInt ∧ r.toInt ≤ 1) ∧ (∀ b, kd b ≠ 1 → kd b ≠ 3 → kd b ≠ 10 → kd b ≠ 517 → kd b ≠ 518 → kd b ≠ 519 → kd b ≠ 520 → kd b ≠ 521 → kd b ≠ 522 → kd b ≠ 523 → kd b ≠ 524 → kd b ≠ 525 → kd b ≠ 526 → kd b ≠ 527 → f9 b = f b) ∧ (∀ b, kd b = 1 → fldR (f9 b) 0 = fldR (f b) 0) ∧ (∀ b, kd b = 1 → fldR (f9 b) 1 = fldR (f b) 1) ∧ (∀ b, kd b = 3 → fldR (f9 b) 0 = fldR (f b) 0) ∧ (∀ b, kd b = 3 → fldR (f9 b) 3 = fldR (f b) 3) ∧ (∀ d9, fldR (f9 o0) 3 = some d9 → drel kd 1 521 522 f9 d9)) (qP (dC, dI) cI cL cZ cR cG cH L) (fun q => q ∈ L)) [.ref o0, .int p1, .int p2, .int p3, .int p4, .int p5].toArray s 0 0 (fun q => q ∈ L)) (F0 m 319 ls [.int y_166]) := by
                                        intro y_166 by_166 hjhcut_167_0 ls hl
                                        refine lv_istore (lv' := [(17, .int y_166), (16, .int y_164), (15, .int y_162), (14, .int y_134), (13, .int y_132), (12, .int x_123), (11, .int y_120), (10, .int y_69), (9, .int y_29), (8, .int y_70), (7, .int x_23), (6, .int y_20), (0, .ref o0), (1, .int p1), (2, .int p2), (3, .int p3), (4, .int p4), (5, .int p5)]) hx hb dX3_descend_319 hl (by decide) rfl (fun ls hl => ?_)
                                        refine lv_iload hx hb dX3_descend_321 (lv_at hl 9 rfl) ?_
                                        refine lv_aload_n hx hb dX3_descend_323 rfl (lv_at hl 12 rfl) ?_
                                        refine lv_iload_n hx hb dX3_descend_324 rfl (lv_at hl 13 rfl) ?_
                                        refine lv_iconst (v := 1) hx hb dX3_descend_325 (by decide) ?_
                                        refine lv_iadd hx hb dX3_descend_326 ?_
                                        refine lv_topi (fun x_168 ex_168 => ?_)
                                        have hx_168 : x_168.toInt = p1.toInt + 1 := by rw [ex_168, ad_I (by rw [ti_1]; omega) (by rw [ti_1]; omega), ti_1]
                                        have bx_168 : (1 ≤ x_168.toInt ∧ x_168.toInt ≤ 9) := by constructor <;> omega
                                        refine lv_iload hx hb dX3_descend_327 (lv_at hl 2 rfl) ?_
                                        refine lv_iload_n hx hb dX3_descend_329 rfl (lv_at hl 15 rfl) ?_
                                        refine lv_iload hx hb dX3_descend_330 (lv_at hl 3 rfl) ?_
                                        refine lv_isub hx hb dX3_descend_332 ?_
                                        refine lv_topi (fun x_169 ex_169 => ?_)
                                        have hx_169 : x_169.toInt = p3.toInt - y_134.toInt := by rw [ex_169, sb_I (by omega) (by omega)]
                                        have bx_169 : ((-1) ≤ x_169.toInt ∧ x_169.toInt ≤ 2147483647) := by constructor <;> omega
                                        refine lv_iload hx hb dX3_descend_333 (lv_at hl 1 rfl) ?_
                                        refine lv_iload hx hb dX3_descend_335 (lv_at hl 0 rfl) ?_
                                        have hccc_170 : (0 ≤ y_164.toInt ∧ y_164.toInt ≤ 387420488) := by have hq9 := hjhcut_165_0; unfold capR at hq9; constructor <;> omega
                                        refine tk_ViP (As := [.int x_168, .int y_162, .int x_169, .int y_164, .int y_166]) (rest := [.int y_70]) (n := 5) hx hb hml hown hU hN hZ (ih_rec f_157 hG o0 mo0 ko0 x_168 (by constructor <;> omega) y_162 (by constructor <;> omega) x_169 y_164 (by constructor <;> omega) y_166 (by constructor <;> omega) (by omega) (fun d9 h9 => by rw [hfo_158] at h9; obtain rfl := Option.some.inj h9; exact hT0) (by rcases hjhcut_165_0 with ⟨q1, q2⟩ | ⟨q1, q2⟩ <;> rcases hjhcut_167_0 with ⟨q3, q4⟩ | ⟨q3, q4⟩ <;> first | (exfalso; omega) | (rw [q2, q4]; exact hxpre0) | (rw [q4]; exact q2)) (by omega)) wd_762 wd_763 wd_764 wd_16 wd_765 (by decide +kernel) ⟨(show (3 + n_) + 1 ≤ 3 + (n_ + 1) by omega), (show 8 + (18 + 11) + (87 + n_ * 37) ≤ 87 + (n_ + 1) * 37 by omega)⟩ hK hP hD hS mo0 hfo_158 3 rfl rfl rfl hl.1 rfl (Nat.le_of_ble_eq_true rfl) dX3_descend_337 ⟨Nat.le_of_ble_eq_true rfl, Nat.le_of_ble_eq_true rfl⟩ (fun x_171 f_172 H locs hw hP hD hS => ?_)
                                        obtain ⟨hG, bx_171, hkc_173, hrc_174, hrc_175, hrc_176, hrc_177, hTc_178⟩ := hw
                                        have hfo_180 : f_172 a_99 = .inr (8, [.ref a_138, .ref a_139, .ref a_140, .ref a_141, .ref a_142]) := by rw [hkc_173 a_99 (by rw [ka_99]; decide) (by rw [ka_99]; decide) (by rw [ka_99]; decide) (by rw [ka_99]; decide) (by rw [ka_99]; decide) (by rw [ka_99]; decide) (by rw [ka_99]; decide) (by rw [ka_99]; decide) (by rw [ka_99]; decide) (by rw [ka_99]; decide) (by rw [ka_99]; decide) (by rw [ka_99]; decide) (by rw [ka_99]; decide) (by rw [ka_99]; decide)]; exact hfo_160
                                        have hfr0 : ∀ b, kd b ≠ 1 → kd b ≠ 3 → kd b ≠ 10 → kd b ≠ 517 → kd b ≠ 518 → kd b ≠ 519 → kd b ≠ 520 → kd b ≠ 521 → kd b ≠ 522 → kd b ≠ 523 → kd b ≠ 524 → kd b ≠ 525 → kd b ≠ 526 → kd b ≠ 527 → f_172 b = f b := fun b q1 q3 q10 q517 q518 q519 q520 q521 q522 q523 q524 q525 q526 q527 => (hkc_173 b q1 q3 q10 q517 q518 q519 q520 q521 q522 q523 q524 q525 q526 q527).trans (hfr0 b q1 q3 q10 q517 q518 q519 q520 q521 q522 q523 q524 q525 q526 q527)
                                        have hrr1_0 : ∀ b, kd b = 1 → fldR (f_172 b) 0 = fldR (f b) 0 := fun b kb => (hrc_174 b kb).trans (hrr1_0 b kb)
                                        have hrr1_1 : ∀ b, kd b = 1 → fldR (f_172 b) 1 = fldR (f b) 1 := fun b kb => (hrc_175 b kb).trans (hrr1_1 b kb)
                                        have hrr3_0 : ∀ b, kd b = 3 → fldR (f_172 b) 0 = fldR (f b) 0 := fun b kb => (hrc_176 b kb).trans (hrr3_0 b kb)
                                        have hrr3_3 : ∀ b, kd b = 3 → fldR (f_172 b) 3 = fldR (f b) 3 := fun b kb => (hrc_177 b kb).trans (hrr3_3 b kb)
                                        obtain ⟨a_182, a_183, a_184, a_185, a_186, v_187, v_188, v_189, v_190, v_191, v_192, v_193, a_194, a_195, a_196, v_197, a_198, a_199, hfo_181, ⟨ma_182, ka_182⟩, ⟨ma_183, ka_183⟩, ⟨ma_184, ka_184⟩, ⟨ma_185, ka_185⟩, ⟨ma_186, ka_186⟩, bv_187, bv_188, bv_189, ⟨ma_194, ka_194⟩, ⟨ma_195, ka_195⟩, ⟨ma_196, ka_196⟩, bv_197, ⟨ma_198, ka_198⟩, ⟨ma_199, ka_199⟩⟩ := un_3 (hG _ mo0) ko0
                                        have bv_190 : ((-2147483648) ≤ v_190.toInt ∧ v_190.toInt ≤ 2147483647) := ⟨i32_lo _, i32_hi _⟩
                                        have bv_191 : ((-2147483648) ≤ v_191.toInt ∧ v_191.toInt ≤ 2147483647) := ⟨i32_lo _, i32_hi _⟩
                                        have bv_192 : ((-2147483648) ≤ v_192.toInt ∧ v_192.toInt ≤ 2147483647) := ⟨i32_lo _, i32_hi _⟩
                                        have bv_193 : ((-2147483648) ≤ v_193.toInt ∧ v_193.toInt ≤ 2147483647) := ⟨i32_lo _, i32_hi _⟩
                                        obtain rfl : a_2 = a_182 := by have hk9 := hrr3_0 o0 ko0; rw [hfo_181, hfo_1] at hk9; exact (Option.some.inj hk9).symm
                                        obtain rfl : a_5 = a_185 := by have hk9 := hrr3_3 o0 ko0; rw [hfo_181, hfo_1] at hk9; exact (Option.some.inj hk9).symm
                                        have hT_200 := hTc_178 a_5 (by rw [hfo_181]; rfl)
                                        refine lv_ior hx hb dX3_descend_340 ?_
                                        refine lv_topi (fun x_201 ex_201 => ?_)
                                        have bx_201 : (0 ≤ x_201.toInt ∧ x_201.toInt ≤ 1) := by rw [ex_201]; exact or_K 1 (by decide) (by constructor <;> omega) (by constructor <;> omega)
                                        refine lv_istore (lv' := [(8, .int x_201), (17, .int y_166), (16, .int y_164), (15, .int y_162), (14, .int y_134), (13, .int y_132), (12, .int x_123), (11, .int y_120), (10, .int y_69), (9, .int y_29), (7, .int x_23), (6, .int y_20), (0, .ref o0), (1, .int p1), (2, .int p2), (3, .int p3), (4, .int p4), (5, .int p5)]) hx hb dX3_descend_341 hl (by decide) rfl (fun ls hl => ?_)
                                        exact hcut_129 x_201 (by constructor <;> omega) f_172 hG _ _ hP hS hD hfr0 hrr1_0 hrr1_1 hrr3_0 hrr3_3 hT_200 ls (lv_sub hl [6, 7, 8, 9, 0, 10, 11, 12, 13, 14, 15, 16, 17] rfl)
                                      refine lv_if_ne (tgt := 315) hx hb dX3_descend_307 (by decide) (fun c_202 => ?_) (fun c_202 => ?_)
                                      · skip
                                        rw [← Int32.toInt_inj, ti_0] at c_202
                                        refine lv_iload hx hb dX3_descend_315 (lv_at hl 16 rfl) ?_
                                        refine lv_iconst (v := 1) hx hb dX3_descend_317 (by decide) ?_
                                        refine lv_iadd hx hb dX3_descend_318 ?_
                                        refine lv_topi (fun x_203 ex_203 => ?_)
                                        have hx_203 : x_203.toInt = p5.toInt + 1 := by rw [ex_203, ad_I (by rw [ti_1]; omega) (by rw [ti_1]; omega), ti_1]
                                        have bx_203 : (1 ≤ x_203.toInt ∧ x_203.toInt ≤ 10) := by constructor <;> omega
                                        exact hcut_167 x_203 (by constructor <;> omega) (by omega) ls (lv_sub hl [0, 1, 2, 3, 4, 5, 6, 7, 8, 9, 10, 11, 12, 13, 14, 15, 16] rfl)
                                      · skip
                                        rw [← Int32.toInt_inj, ti_0] at c_202
                                        refine lv_iload hx hb dX3_descend_310 (lv_at hl 16 rfl) ?_
                                        refine lv_goto (tgt := 319) hx hb dX3_descend_312 (by decide) ?_
                                        exact hcut_167 p5 (by constructor <;> omega) (by omega) ls (lv_sub hl [0, 1, 2, 3, 4, 5, 6, 7, 8, 9, 10, 11, 12, 13, 14, 15, 16] rfl)
                                    refine lv_if_ne (tgt := 291) hx hb dX3_descend_283 (by decide) (fun c_204 => ?_) (fun c_204 => ?_)
                                    · skip
                                      rw [← Int32.toInt_inj, ti_0] at c_204
                                      refine lv_iload hx hb dX3_descend_291 (lv_at hl 14 rfl) ?_
                                      refine lv_iload hx hb dX3_descend_293 (lv_at hl 2 rfl) ?_
                                      have hclc_205 : (0 ≤ p5.toInt ∧ p5.toInt ≤ 8) := by constructor <;> omega
                                      refine va_gets hx hb hZ.2.2.1 hS hown (hU _ wd_769) (fun _ h9 => h9) dX3_descend_295 ?_
                                      refine lv_iload hx hb dX3_descend_298 (lv_at hl 15 rfl) ?_
                                      refine va_ti (v := zWt (Int32.toNatClampNeg p5)) hx hb hZ.2.2.2.1 hS (vp_in_iff.mpr (by constructor <;> omega)) rfl dX3_descend_300 ?_
                                      rw [zWt]
                                      refine lv_topi (fun x_206 ex_206 => ?_)
                                      have bx_206 : (1 ≤ x_206.toInt ∧ x_206.toInt ≤ 43046721) := by rw [ex_206]; exact zw_b (vp_in_iff.mpr (by constructor <;> omega))
                                      have htx_206 := zw_t ex_206 (vp_in_iff.mpr (by constructor <;> omega))
                                      refine lv_imul hx hb dX3_descend_301 ?_
                                      refine lv_topi (fun x_207 ex_207 => ?_)
                                      have bx_207 : (0 ≤ x_207.toInt ∧ x_207.toInt ≤ 344373768) := by rw [ex_207]; exact ml_B (a := 8) (b := 43046721) (by constructor <;> omega) (by constructor <;> omega) (by decide)
                                      have hm8 : 0 ≤ x_207.toInt ∧ x_207.toInt ≤ 8 * x_206.toInt := by rw [ex_207]; exact ml_8 (by constructor <;> omega) (by constructor <;> omega)
                                      have hcw : ∀ z : Int, z ≤ p4.toInt + x_207.toInt → capR z (p5.toInt + 1) := fun z hz => hxpre0.step htx_206 (by omega)
                                      clear htx_206
                                      refine lv_iadd hx hb dX3_descend_302 ?_
                                      refine lv_topi (fun x_208 ex_208 => ?_)
                                      have hx_208 : x_208.toInt = p4.toInt + x_207.toInt := by rw [ex_208, ad_I (by omega) (by omega)]
                                      have bx_208 : (0 ≤ x_208.toInt ∧ x_208.toInt ≤ 731794256) := by constructor <;> omega
                                      exact hcut_165 x_208 (by constructor <;> omega) (Or.inr ⟨by omega, hcw _ (by omega)⟩) ls (lv_sub hl [0, 1, 2, 3, 4, 5, 6, 7, 8, 9, 10, 11, 12, 13, 14, 15] rfl)
                                    · skip
                                      rw [← Int32.toInt_inj, ti_0] at c_204
                                      refine lv_iload hx hb dX3_descend_286 (lv_at hl 14 rfl) ?_
                                      refine lv_goto (tgt := 303) hx hb dX3_descend_288 (by decide) ?_
                                      exact hcut_165 p4 (by constructor <;> omega) (Or.inl ⟨by omega, rfl⟩) ls (lv_sub hl [0, 1, 2, 3, 4, 5, 6, 7, 8, 9, 10, 11, 12, 13, 14, 15] rfl)
                                  refine lv_if_ne (tgt := 276) hx hb dX3_descend_269 (by decide) (fun c_209 => ?_) (fun c_209 => ?_)
                                  · skip
                                    rw [← Int32.toInt_inj, ti_0] at c_209
                                    refine lv_iload_n hx hb dX3_descend_276 rfl (lv_at hl 11 rfl) ?_
                                    refine lv_iconst (v := 1) hx hb dX3_descend_277 (by decide) ?_
                                    refine lv_iadd hx hb dX3_descend_278 ?_
                                    refine lv_topi (fun x_210 ex_210 => ?_)
                                    have hx_210 : x_210.toInt = p2.toInt + 1 := by rw [ex_210, ad_I (by rw [ti_1]; omega) (by rw [ti_1]; omega), ti_1]
                                    have bx_210 : (1 ≤ x_210.toInt ∧ x_210.toInt ≤ 9) := by constructor <;> omega
                                    exact hcut_163 x_210 (by constructor <;> omega) ls (lv_sub hl [0, 1, 2, 3, 4, 5, 6, 7, 8, 9, 10, 11, 12, 13, 14] rfl)
                                  · skip
                                    rw [← Int32.toInt_inj, ti_0] at c_209
                                    refine lv_iload_n hx hb dX3_descend_272 rfl (lv_at hl 11 rfl) ?_
                                    refine lv_goto (tgt := 279) hx hb dX3_descend_273 (by decide) ?_
                                    exact hcut_163 p2 (by constructor <;> omega) ls (lv_sub hl [0, 1, 2, 3, 4, 5, 6, 7, 8, 9, 10, 11, 12, 13, 14] rfl)
                                · skip
                                  rw [← Int32.toInt_inj, ti_0] at c_153
                                  refine lv_goto (tgt := 343) hx hb dX3_descend_256 (by decide) ?_
                                  exact hcut_129 y_70 (by constructor <;> omega) f_144 hG _ _ hP hS hD hfr0 hrr1_0 hrr1_1 hrr3_0 hrr3_3 hT0 ls (lv_sub hl [2, 3, 4, 5, 6, 7, 8, 9, 10, 11, 12, 13, 14] rfl)
                            refine lv_if_eq (tgt := 218) hx hb dX3_descend_210 (by decide) (fun c_211 => ?_) (fun c_211 => ?_)
                            · skip
                              rw [← Int32.toInt_inj, ti_0] at c_211
                              refine lv_iconst (v := 1) hx hb dX3_descend_218 (by decide) ?_
                              refine lv_goto (tgt := 223) hx hb dX3_descend_219 (by decide) ?_
                              exact hcut_135 1 (by decide) ls (lv_sub hl [0, 1, 2, 3, 4, 5, 6, 7, 8, 9, 10, 11, 12, 13] rfl)
                            · skip
                              rw [← Int32.toInt_inj, ti_0] at c_211
                              refine lv_iload hx hb dX3_descend_213 (lv_at hl 0 rfl) ?_
                              refine lv_if_ne (tgt := 222) hx hb dX3_descend_215 (by decide) (fun c_212 => ?_) (fun c_212 => ?_)
                              · skip
                                rw [← Int32.toInt_inj, ti_0] at c_212
                                refine lv_iconst (v := 0) hx hb dX3_descend_222 (by decide) ?_
                                exact hcut_135 0 (by decide) ls (lv_sub hl [0, 1, 2, 3, 4, 5, 6, 7, 8, 9, 10, 11, 12, 13] rfl)
                              · skip
                                rw [← Int32.toInt_inj, ti_0] at c_212
                                refine lv_iconst (v := 1) hx hb dX3_descend_218 (by decide) ?_
                                refine lv_goto (tgt := 223) hx hb dX3_descend_219 (by decide) ?_
                                exact hcut_135 1 (by decide) ls (lv_sub hl [0, 1, 2, 3, 4, 5, 6, 7, 8, 9, 10, 11, 12, 13] rfl)
                          refine lv_if_eq (tgt := 196) hx hb dX3_descend_180 (by decide) (fun c_213 => ?_) (fun c_213 => ?_)
                          · skip
                            rw [← Int32.toInt_inj, ti_0] at c_213
                            refine lv_aload_n hx hb dX3_descend_196 rfl (lv_at hl 7 rfl) ?_
                            refine tk_getP (D := (dC, dI)) (ci := 3) (v := .ref a_2) (C := RX3) (T := TX3) (N := 18) hx hb hU inlX3 hown hK hP mo0 hfo_96 rfl 0 (by decide) (hU _ wd_48) (fun _ h9 => h9) rfl dX3_descend_197 ?_
                            obtain ⟨a_215, v_216, a_217, a_218, a_219, a_220, v_221, a_222, a_223, a_224, a_225, a_226, v_227, a_228, a_229, a_230, hfo_214, ⟨ma_215, ka_215⟩, bv_216, ⟨ma_217, ka_217⟩, ⟨ma_218, ka_218⟩, ⟨ma_219, ka_219⟩, ⟨ma_220, ka_220⟩, bv_221, ⟨ma_222, ka_222⟩, ⟨ma_223, ka_223⟩, ⟨ma_224, ka_224⟩, ⟨ma_225, ka_225⟩, ⟨ma_226, ka_226⟩, bv_227, ⟨ma_228, ka_228⟩, ⟨ma_229, ka_229⟩, ⟨ma_230, ka_230⟩⟩ := un_7 (hG _ ma_2) ka_2
                            refine tk_getP (D := (dC, dI)) (ci := 7) (v := .ref a_219) (C := RX7) (T := TX7) (N := 16) hx hb hU inlX7 hown hK hP ma_2 hfo_214 rfl 4 (by decide) (hU _ wd_768) (fun _ h9 => h9) rfl dX3_descend_200 ?_
                            refine lv_iload hx hb dX3_descend_203 (lv_at hl 0 rfl) ?_
                            obtain ⟨g_232, hfo_231, hbg_232⟩ := un_511 (hG _ ma_219) ka_219
                            refine tk_ildP hx hb hK hP 0 ma_219 hfo_231 rfl (vp_in_iff.mpr (by constructor <;> omega)) dX3_descend_205 ?_
                            refine lv_topi (fun x_233 ex_233 => ?_)
                            have bx_233 : (0 ≤ x_233.toInt ∧ x_233.toInt ≤ 8) := by rw [ex_233]; exact hbg_232 _
                            exact hcut_133 x_233 (by constructor <;> omega) ls (lv_sub hl [0, 1, 2, 3, 4, 5, 6, 7, 8, 9, 10, 11, 12] rfl)
                          · skip
                            rw [← Int32.toInt_inj, ti_0] at c_213
                            refine lv_aload_n hx hb dX3_descend_183 rfl (lv_at hl 7 rfl) ?_
                            refine tk_getP (D := (dC, dI)) (ci := 3) (v := .ref a_2) (C := RX3) (T := TX3) (N := 18) hx hb hU inlX3 hown hK hP mo0 hfo_96 rfl 0 (by decide) (hU _ wd_48) (fun _ h9 => h9) rfl dX3_descend_184 ?_
                            obtain ⟨a_235, v_236, a_237, a_238, a_239, a_240, v_241, a_242, a_243, a_244, a_245, a_246, v_247, a_248, a_249, a_250, hfo_234, ⟨ma_235, ka_235⟩, bv_236, ⟨ma_237, ka_237⟩, ⟨ma_238, ka_238⟩, ⟨ma_239, ka_239⟩, ⟨ma_240, ka_240⟩, bv_241, ⟨ma_242, ka_242⟩, ⟨ma_243, ka_243⟩, ⟨ma_244, ka_244⟩, ⟨ma_245, ka_245⟩, ⟨ma_246, ka_246⟩, bv_247, ⟨ma_248, ka_248⟩, ⟨ma_249, ka_249⟩, ⟨ma_250, ka_250⟩⟩ := un_7 (hG _ ma_2) ka_2
                            refine tk_getP (D := (dC, dI)) (ci := 7) (v := .ref a_240) (C := RX7) (T := TX7) (N := 16) hx hb hU inlX7 hown hK hP ma_2 hfo_234 rfl 5 (by decide) (hU _ wd_767) (fun _ h9 => h9) rfl dX3_descend_187 ?_
                            refine lv_iload hx hb dX3_descend_190 (lv_at hl 0 rfl) ?_
                            obtain ⟨g_252, hfo_251, hbg_252⟩ := un_511 (hG _ ma_240) ka_240
                            refine tk_ildP hx hb hK hP 0 ma_240 hfo_251 rfl (vp_in_iff.mpr (by constructor <;> omega)) dX3_descend_192 ?_
                            refine lv_topi (fun x_253 ex_253 => ?_)
                            have bx_253 : (0 ≤ x_253.toInt ∧ x_253.toInt ≤ 8) := by rw [ex_253]; exact hbg_252 _
                            refine lv_goto (tgt := 206) hx hb dX3_descend_193 (by decide) ?_
                            exact hcut_133 x_253 (by constructor <;> omega) ls (lv_sub hl [0, 1, 2, 3, 4, 5, 6, 7, 8, 9, 10, 11, 12] rfl)
                        · skip
                          rw [← Int32.toInt_inj, ti_m1] at c_131
                          refine lv_goto (tgt := 343) hx hb dX3_descend_173 (by decide) ?_
                          exact hcut_129 y_70 (by constructor <;> omega) f_72 hG _ _ hP hS hD hfr0 hrr1_0 hrr1_1 hrr3_0 hrr3_3 hT0 ls (lv_sub hl [0, 1, 2, 3, 4, 5, 6, 7, 8, 9, 10, 11, 12] rfl)
                      refine lv_icmp_ge (tgt := 152) hx hb dX3_descend_140 (by decide) (fun c_254 => ?_) (fun c_254 => ?_)
                      · skip
                        rw [Int32.le_iff_toInt_le, ti_4] at c_254
                        refine lv_iconst (v := 0) hx hb dX3_descend_152 (by decide) ?_
                        exact hcut_121 0 (by decide) (by (try rw [ti_0]) <;> omega) ls (lv_sub hl [0, 1, 2, 3, 4, 5, 6, 7, 8, 9, 10] rfl)
                      · skip
                        rw [Int32.le_iff_toInt_le, ti_4] at c_254
                        refine lv_aload_n hx hb dX3_descend_143 rfl (lv_at hl 5 rfl) ?_
                        refine tk_getP (D := (dC, dI)) (ci := 3) (v := .ref a_101) (C := RX3) (T := TX3) (N := 18) hx hb hU inlX3 hown hK hP mo0 hfo_96 rfl 4 (by decide) (hU _ wd_61) (fun _ h9 => h9) rfl dX3_descend_144 ?_
                        refine lv_iload_n hx hb dX3_descend_147 rfl (lv_at hl 7 rfl) ?_
                        obtain ⟨g_256, hfo_255, hbg_256⟩ := un_507 (hG _ ma_101) ka_101
                        refine tk_ildP hx hb hK hP 0 ma_101 hfo_255 rfl (vp_in_iff.mpr (by constructor <;> omega)) dX3_descend_148 ?_
                        refine lv_topi (fun x_257 ex_257 => ?_)
                        have bx_257 : (0 ≤ x_257.toInt ∧ x_257.toInt ≤ 8) := by rw [ex_257]; exact hbg_256 _
                        refine lv_goto (tgt := 153) hx hb dX3_descend_149 (by decide) ?_
                        exact hcut_121 x_257 (by constructor <;> omega) (by omega) ls (lv_sub hl [0, 1, 2, 3, 4, 5, 6, 7, 8, 9, 10] rfl)
              exact hloop_68 9 y_50 (by constructor <;> omega) y_25 (by constructor <;> omega) f_27 hG _ _ hP hS hD hfr0 hrr1_0 hrr1_1 hrr3_0 hrr3_3 hT0 (by omega) (by omega) ls hl
            refine lv_icmp_ge (tgt := 117) hx hb dX3_descend_110 (by decide) (fun c_258 => ?_) (fun c_258 => ?_)
            · skip
              rw [Int32.le_iff_toInt_le] at c_258
              refine lv_iconst (v := 4) hx hb dX3_descend_117 (by decide) ?_
              exact hcut_51 4 (by decide) (by (try rw [ti_4]) <;> omega) ls (lv_sub hl [0, 1, 2, 3, 4, 5, 6, 7, 8, 9] rfl)
            · skip
              rw [Int32.le_iff_toInt_le] at c_258
              refine lv_iconst (v := 0) hx hb dX3_descend_113 (by decide) ?_
              refine lv_goto (tgt := 118) hx hb dX3_descend_114 (by decide) ?_
              exact hcut_51 0 (by decide) (by (try rw [ti_0]) <;> omega) ls (lv_sub hl [0, 1, 2, 3, 4, 5, 6, 7, 8, 9] rfl)
          refine lv_icmp_ge (tgt := 102) hx hb dX3_descend_94 (by decide) (fun c_259 => ?_) (fun c_259 => ?_)
          · skip
            rw [Int32.le_iff_toInt_le, ti_9] at c_259
            refine lv_iconst (v := 0) hx hb dX3_descend_102 (by decide) ?_
            exact hcut_30 0 (by decide) (by (try rw [ti_0]) <;> omega) ls (lv_sub hl [0, 1, 2, 3, 4, 5, 6, 7, 8] rfl)
          · skip
            rw [Int32.le_iff_toInt_le, ti_9] at c_259
            refine lv_bipush (v := 8) hx hb dX3_descend_97 (by decide) ?_
            refine lv_goto (tgt := 103) hx hb dX3_descend_99 (by decide) ?_
            exact hcut_30 8 (by decide) (by (try rw [ti_8]) <;> omega) ls (lv_sub hl [0, 1, 2, 3, 4, 5, 6, 7, 8] rfl)
        refine lv_icmp_ne (tgt := 88) hx hb dX3_descend_71 (by decide) (fun c_260 => ?_) (fun c_260 => ?_)
        · skip
          rw [← Int32.toInt_inj] at c_260
          refine lv_iconst (v := 0) hx hb dX3_descend_88 (by decide) ?_
          exact hcut_28 0 (by decide) f hG _ _ hP hS hD hfr0 hrr1_0 hrr1_1 hrr3_0 hrr3_3 hT0 ls (lv_sub hl [0, 1, 2, 3, 4, 5, 6, 7] rfl)
        · skip
          rw [← Int32.toInt_inj] at c_260
          refine lv_aload_n hx hb dX3_descend_74 rfl (lv_at hl 2 rfl) ?_
          refine lv_iload_n hx hb dX3_descend_75 rfl (lv_at hl 3 rfl) ?_
          refine lv_iload hx hb dX3_descend_76 (lv_at hl 6 rfl) ?_
          refine tk_ViP (As := [.int p1, .int p4]) (rest := []) (n := 2) hx hb hml hown hU hN hZ (s_X3_complete_k3 l (dC, dI) cI cL cZ cR cG cH Z kd L f hG o0 mo0 ko0 p1 (by constructor <;> omega) p4 (by constructor <;> omega) (fun d9 h9 => by rw [hfo_1] at h9; obtain rfl := Option.some.inj h9; exact hT0)) wd_792 wd_793 wd_794 wd_16 wd_795 (by decide +kernel) ⟨(show 2 + 1 ≤ 3 + (n_ + 1) by omega), (show 8 + (4 + 11) + 64 ≤ 87 + (n_ + 1) * 37 by omega)⟩ hK hP hD hS mo0 hfo_1 3 rfl rfl rfl hl.1 rfl (Nat.le_of_ble_eq_true rfl) dX3_descend_78 ⟨Nat.le_of_ble_eq_true rfl, Nat.le_of_ble_eq_true rfl⟩ (fun x_261 f_262 H locs hw hP hD hS => ?_)
          obtain ⟨hG, bx_261, hkc_263, hrc_264, hrc_265, hTc_266⟩ := hw
          have hfr0 : ∀ b, kd b ≠ 1 → kd b ≠ 3 → kd b ≠ 10 → kd b ≠ 517 → kd b ≠ 518 → kd b ≠ 519 → kd b ≠ 520 → kd b ≠ 521 → kd b ≠ 522 → kd b ≠ 523 → kd b ≠ 524 → kd b ≠ 525 → kd b ≠ 526 → kd b ≠ 527 → f_262 b = f b := fun b q1 q3 q10 q517 q518 q519 q520 q521 q522 q523 q524 q525 q526 q527 => (hkc_263 b q3 q10 q524 q526 q527).trans (hfr0 b q1 q3 q10 q517 q518 q519 q520 q521 q522 q523 q524 q525 q526 q527)
          have hrr1_0 : ∀ b, kd b = 1 → fldR (f_262 b) 0 = fldR (f b) 0 := fun b kb => (congrArg (fun x => fldR x 0) (hkc_263 b (by rw [kb]; decide) (by rw [kb]; decide) (by rw [kb]; decide) (by rw [kb]; decide) (by rw [kb]; decide))).trans (hrr1_0 b kb)
          have hrr1_1 : ∀ b, kd b = 1 → fldR (f_262 b) 1 = fldR (f b) 1 := fun b kb => (congrArg (fun x => fldR x 1) (hkc_263 b (by rw [kb]; decide) (by rw [kb]; decide) (by rw [kb]; decide) (by rw [kb]; decide) (by rw [kb]; decide))).trans (hrr1_1 b kb)
          have hrr3_0 : ∀ b, kd b = 3 → fldR (f_262 b) 0 = fldR (f b) 0 := fun b kb => (hrc_264 b kb).trans (hrr3_0 b kb)
          have hrr3_3 : ∀ b, kd b = 3 → fldR (f_262 b) 3 = fldR (f b) 3 := fun b kb => (hrc_265 b kb).trans (hrr3_3 b kb)
          have hT0 : drel kd 1 521 522 f_262 a_5 := hT0.keep (fun b q => congrArg (fun x => fldI x 5) (hkc_263 b (by rw [q]; decide) (by rw [q]; decide) (by rw [q]; decide) (by rw [q]; decide) (by rw [q]; decide))) (fun b q => congrArg (fun x => fldR x 0) (hkc_263 b (by rw [q]; decide) (by rw [q]; decide) (by rw [q]; decide) (by rw [q]; decide) (by rw [q]; decide))) (fun b q => congrArg (fun x => fldR x 1) (hkc_263 b (by rw [q]; decide) (by rw [q]; decide) (by rw [q]; decide) (by rw [q]; decide) (by rw [q]; decide))) (fun b q => hkc_263 b (by rw [q]; decide) (by rw [q]; decide) (by rw [q]; decide) (by rw [q]; decide) (by rw [q]; decide)) (fun b q => hkc_263 b (by rw [q]; decide) (by rw [q]; decide) (by rw [q]; decide) (by rw [q]; decide) (by rw [q]; decide))
          obtain ⟨a_269, a_270, a_271, a_272, a_273, v_274, v_275, v_276, v_277, v_278, v_279, v_280, a_281, a_282, a_283, v_284, a_285, a_286, hfo_268, ⟨ma_269, ka_269⟩, ⟨ma_270, ka_270⟩, ⟨ma_271, ka_271⟩, ⟨ma_272, ka_272⟩, ⟨ma_273, ka_273⟩, bv_274, bv_275, bv_276, ⟨ma_281, ka_281⟩, ⟨ma_282, ka_282⟩, ⟨ma_283, ka_283⟩, bv_284, ⟨ma_285, ka_285⟩, ⟨ma_286, ka_286⟩⟩ := un_3 (hG _ mo0) ko0
          have bv_277 : ((-2147483648) ≤ v_277.toInt ∧ v_277.toInt ≤ 2147483647) := ⟨i32_lo _, i32_hi _⟩
          have bv_278 : ((-2147483648) ≤ v_278.toInt ∧ v_278.toInt ≤ 2147483647) := ⟨i32_lo _, i32_hi _⟩
          have bv_279 : ((-2147483648) ≤ v_279.toInt ∧ v_279.toInt ≤ 2147483647) := ⟨i32_lo _, i32_hi _⟩
          have bv_280 : ((-2147483648) ≤ v_280.toInt ∧ v_280.toInt ≤ 2147483647) := ⟨i32_lo _, i32_hi _⟩
          obtain rfl : a_2 = a_269 := by have hk9 := hrr3_0 o0 ko0; rw [hfo_268, hfo_1] at hk9; exact (Option.some.inj hk9).symm
          obtain rfl : a_5 = a_272 := by have hk9 := hrr3_3 o0 ko0; rw [hfo_268, hfo_1] at hk9; exact (Option.some.inj hk9).symm
          have hT_287 := hTc_266 a_5 (by rw [hfo_268]; rfl)
          refine lv_if_eq (tgt := 88) hx hb dX3_descend_81 (by decide) (fun c_288 => ?_) (fun c_288 => ?_)
          · skip
            rw [← Int32.toInt_inj, ti_0] at c_288
            refine lv_iconst (v := 0) hx hb dX3_descend_88 (by decide) ?_
            exact hcut_28 0 (by decide) f_262 hG _ _ hP hS hD hfr0 hrr1_0 hrr1_1 hrr3_0 hrr3_3 hT_287 ls (lv_sub hl [0, 1, 2, 3, 4, 5, 6, 7] rfl)
          · skip
            rw [← Int32.toInt_inj, ti_0] at c_288
            refine lv_iconst (v := 1) hx hb dX3_descend_84 (by decide) ?_
            refine lv_goto (tgt := 89) hx hb dX3_descend_85 (by decide) ?_
            exact hcut_28 1 (by decide) f_262 hG _ _ hP hS hD hfr0 hrr1_0 hrr1_1 hrr3_0 hrr3_3 hT_287 ls (lv_sub hl [0, 1, 2, 3, 4, 5, 6, 7] rfl)
      · skip
        rw [← Int32.toInt_inj, ti_0] at c_24
        refine lv_aload_n hx hb dX3_descend_36 rfl (lv_at hl 2 rfl) ?_
        refine tk_getP (D := (dC, dI)) (ci := 3) (v := .ref a_5) (C := RX3) (T := TX3) (N := 18) hx hb hU inlX3 hown hK hP mo0 hfo_1 rfl 3 (by decide) (hU _ wd_60) (fun _ h9 => h9) rfl dX3_descend_37 ?_
        refine lv_aload_n hx hb dX3_descend_40 rfl (lv_at hl 2 rfl) ?_
        refine tk_getP (D := (dC, dI)) (ci := 3) (v := .ref a_4) (C := RX3) (T := TX3) (N := 18) hx hb hU inlX3 hown hK hP mo0 hfo_1 rfl 2 (by decide) (hU _ wd_56) (fun _ h9 => h9) rfl dX3_descend_41 ?_
        refine lv_aload_n hx hb dX3_descend_44 rfl (lv_at hl 2 rfl) ?_
        refine tk_getP (D := (dC, dI)) (ci := 3) (v := .int v_10) (C := RX3) (T := TX3) (N := 18) hx hb hU inlX3 hown hK hP mo0 hfo_1 rfl 8 (by decide) (hU _ wd_734) (fun _ h9 => h9) rfl dX3_descend_45 ?_
        refine lv_iload_n hx hb dX3_descend_48 rfl (lv_at hl 3 rfl) ?_
        refine lv_iload hx hb dX3_descend_49 (lv_at hl 0 rfl) ?_
        obtain ⟨a_290, a_291, a_292, v_293, v_294, v_295, hfo_289, ⟨ma_290, ka_290⟩, ⟨ma_291, ka_291⟩, ⟨ma_292, ka_292⟩, bv_293, bv_294, bv_295⟩ := un_1 (hG _ ma_5) ka_5
        refine tk_VvP (As := [.ref a_4, .int v_10, .int p1, .int x_23]) (rest := []) (n := 4) hx hb hml hown hU hN hZ (s_X1_makeKey_k1_k8 l (dC, dI) cI cL cZ cR cG cH Z kd L f hG a_5 ma_5 ka_5 a_4 ma_4 ka_4 v_10 p1 (by constructor <;> omega) x_23) wd_770 wd_771 wd_772 wd_59 wd_773 (by decide +kernel) ⟨(show 1 + 1 ≤ 3 + (n_ + 1) by omega), (show 8 + (5 + 11) + 30 ≤ 87 + (n_ + 1) * 37 by omega)⟩ hK hP hD hS ma_5 hfo_289 1 rfl rfl rfl hl.1 rfl (Nat.le_of_ble_eq_true rfl) dX3_descend_51 ⟨Nat.le_of_ble_eq_true rfl, Nat.le_of_ble_eq_true rfl⟩ (fun f_297 H locs hw hP hD hS => ?_)
        obtain ⟨hG, hkc_298, hfc_299, hrc_300, hrc_301⟩ := hw
        have hfo_303 : f_297 o0 = .inr (3, [.ref a_2, .ref a_3, .ref a_4, .ref a_5, .ref a_6, .int v_7, .int v_8, .int v_9, .int v_10, .int v_11, .int v_12, .int v_13, .ref a_14, .ref a_15, .ref a_16, .int v_17, .ref a_18, .ref a_19]) := by rw [hkc_298 o0 (by rw [ko0]; decide) (by rw [ko0]; decide)]; exact hfo_1
        have hfr0 : ∀ b, kd b ≠ 1 → kd b ≠ 3 → kd b ≠ 10 → kd b ≠ 517 → kd b ≠ 518 → kd b ≠ 519 → kd b ≠ 520 → kd b ≠ 521 → kd b ≠ 522 → kd b ≠ 523 → kd b ≠ 524 → kd b ≠ 525 → kd b ≠ 526 → kd b ≠ 527 → f_297 b = f b := fun b q1 q3 q10 q517 q518 q519 q520 q521 q522 q523 q524 q525 q526 q527 => (hkc_298 b q1 q523).trans (hfr0 b q1 q3 q10 q517 q518 q519 q520 q521 q522 q523 q524 q525 q526 q527)
        have hrr1_0 : ∀ b, kd b = 1 → fldR (f_297 b) 0 = fldR (f b) 0 := fun b kb => (hrc_300 b kb).trans (hrr1_0 b kb)
        have hrr1_1 : ∀ b, kd b = 1 → fldR (f_297 b) 1 = fldR (f b) 1 := fun b kb => (hrc_301 b kb).trans (hrr1_1 b kb)
        have hrr3_0 : ∀ b, kd b = 3 → fldR (f_297 b) 0 = fldR (f b) 0 := fun b kb => (congrArg (fun x => fldR x 0) (hkc_298 b (by rw [kb]; decide) (by rw [kb]; decide))).trans (hrr3_0 b kb)
        have hrr3_3 : ∀ b, kd b = 3 → fldR (f_297 b) 3 = fldR (f b) 3 := fun b kb => (congrArg (fun x => fldR x 3) (hkc_298 b (by rw [kb]; decide) (by rw [kb]; decide))).trans (hrr3_3 b kb)
        have hT0 : drel kd 1 521 522 f_297 a_5 := hT0.keep (fun b q => hfc_299 b q) (fun b q => hrc_300 b q) (fun b q => hrc_301 b q) (fun b q => hkc_298 b (by rw [q]; decide) (by rw [q]; decide)) (fun b q => hkc_298 b (by rw [q]; decide) (by rw [q]; decide))
        obtain ⟨a_305, a_306, a_307, v_308, v_309, v_310, hfo_304, ⟨ma_305, ka_305⟩, ⟨ma_306, ka_306⟩, ⟨ma_307, ka_307⟩, bv_308, bv_309, bv_310⟩ := un_1 (hG _ ma_5) ka_5
        obtain rfl : a_290 = a_305 := by have hk9 := hrr1_0 a_5 ka_5; rw [hfo_304, hfo_289] at hk9; exact (Option.some.inj hk9).symm
        obtain rfl : a_291 = a_306 := by have hk9 := hrr1_1 a_5 ka_5; rw [hfo_304, hfo_289] at hk9; exact (Option.some.inj hk9).symm
        obtain rfl : v_295 = v_310 := by have hk9 := hfc_299 a_5 ka_5; rw [hfo_304, hfo_289] at hk9; exact (Option.some.inj hk9).symm
        refine lv_aload_n hx hb dX3_descend_54 rfl (lv_at hl 2 rfl) ?_
        refine tk_getP (D := (dC, dI)) (ci := 3) (v := .ref a_5) (C := RX3) (T := TX3) (N := 18) hx hb hU inlX3 hown hK hP mo0 hfo_303 rfl 3 (by decide) (hU _ wd_60) (fun _ h9 => h9) rfl dX3_descend_55 ?_
        refine tk_ViP (As := []) (rest := []) (n := 0) hx hb hml hown hU hN hZ (s_X1_hasKey_k1 l (dC, dI) cI cL cZ cR cG cH Z kd L f_297 hG a_5 ma_5 ka_5 hT0) wd_779 wd_780 wd_781 wd_59 wd_782 (by decide +kernel) ⟨(show 2 + 1 ≤ 3 + (n_ + 1) by omega), (show 8 + (2 + 11) + 46 ≤ 87 + (n_ + 1) * 37 by omega)⟩ hK hP hD hS ma_5 hfo_304 1 rfl rfl rfl hl.1 rfl (Nat.le_of_ble_eq_true rfl) dX3_descend_58 ⟨Nat.le_of_ble_eq_true rfl, Nat.le_of_ble_eq_true rfl⟩ (fun x_311 f_312 H locs hw hP hD hS => ?_)
        obtain ⟨rfl, bx_311⟩ := hw
        refine lv_if_eq (tgt := 66) hx hb dX3_descend_61 (by decide) (fun c_314 => ?_) (fun c_314 => ?_)
        · skip
          rw [← Int32.toInt_inj, ti_0] at c_314
          refine lv_iload_n hx hb dX3_descend_66 rfl (lv_at hl 4 rfl) ?_
          refine lv_aload_n hx hb dX3_descend_67 rfl (lv_at hl 2 rfl) ?_
          refine tk_getP (D := (dC, dI)) (ci := 3) (v := .int v_7) (C := RX3) (T := TX3) (N := 18) hx hb hU inlX3 hown hK hP mo0 hfo_303 rfl 5 (by decide) (hU _ wd_726) (fun _ h9 => h9) rfl dX3_descend_68 ?_
          have hcut_319 : ∀ (y_315 : Int32), (0 ≤ y_315.toInt ∧ y_315.toInt ≤ 1) → ∀ (f_317 : Nat → va_E), GI (okc cI cL cZ cR cG cH L kd) kd L f_317 → ∀ (H : Heap) (locs : List Loc), va_P (dC, dI) vwCl (va_pl L f_317) H → va_S (fun q => q ∈ L) s.heap H locs → va_D (fun q => q ∈ L) (va_pl L f_317) → (∀ b, kd b ≠ 1 → kd b ≠ 3 → kd b ≠ 10 → kd b ≠ 517 → kd b ≠ 518 → kd b ≠ 519 → kd b ≠ 520 → kd b ≠ 521 → kd b ≠ 522 → kd b ≠ 523 → kd b ≠ 524 → kd b ≠ 525 → kd b ≠ 526 → kd b ≠ 527 → f_317 b = f b) → (∀ b, kd b = 1 → fldR (f_317 b) 0 = fldR (f b) 0) → (∀ b, kd b = 1 → fldR (f_317 b) 1 = fldR (f b) 1) → (∀ b, kd b = 3 → fldR (f_317 b) 0 = fldR (f b) 0) → (∀ b, kd b = 3 → fldR (f_317 b) 3 = fldR (f b) 3) → (f_317 a_5 = .inr (1, [.ref a_290, .ref a_291, .ref a_307, .int v_308, .int v_309, .int v_295])) → drel kd 1 521 522 f_317 a_5 → ∀ (ls : Array Slot), lv_has ls 18 [(7, .int x_23), (6, .int y_20), (0, .ref o0), (1, .int p1), (2, .int p2), (3, .int p3), (4, .int p4), (5, .int p5)] → W p l e (headSpec (wU yX3_descend cX3_descend 18 (some .boolean)) { frames := 3 + (n_ + 1), cells := 0, slots := 0, locals := 87 + (n_ + 1) * 37 }).room s m [.ref o0, .int p1, .int p2, .int p3, .int p4, .int p5].toArray below meth c H locs 0 0 (MQ below (va_Qi (fun (r : Int32) (f9 : Nat → va_E) => GI (okc cI cL cZ cR cG cH L kd) kd L f9 ∧ (0 ≤ r.toInt ∧ r.toInt ≤ 1) ∧ (∀ b, kd b ≠ 1 → kd b ≠ 3 → kd b ≠ 10 → kd b ≠ 517 → kd b ≠ 518 → kd b ≠ 519 → kd b ≠ 520 → kd b ≠ 521 → kd b ≠ 522 → kd b ≠ 523 → kd b ≠ 524 → kd b ≠ 525 → kd b ≠ 526 → kd b ≠ 527 → f9 b = f b) ∧ (∀ b, kd b = 1 → fldR (f9 b) 0 = fldR (f b) 0) ∧ (∀ b, kd b = 1 → fldR (f9 b) 1 = fldR (f b) 1) ∧ (∀ b, kd b = 3 → fldR (f9 b) 0 = fldR (f b) 0) ∧ (∀ b, kd b = 3 → fldR (f9 b) 3 = fldR (f b) 3) ∧ (∀ d9, fldR (f9 o0) 3 = some d9 → drel kd 1 521 522 f9 d9)) (qP (dC, dI) cI cL cZ cR cG cH L) (fun q => q ∈ L)) [.ref o0, .int p1, .int p2, .int p3, .int p4, .int p5].toArray s 0 0 (fun q => q ∈ L)) (F0 m 89 ls [.int y_315]) := by
            intro y_315 by_315 f_317 hG H locs hP hS hD hfr0 hrr1_0 hrr1_1 hrr3_0 hrr3_3 hfo_318 hT0 ls hl
            refine lv_istore (lv' := [(8, .int y_315), (7, .int x_23), (6, .int y_20), (0, .ref o0), (1, .int p1), (2, .int p2), (3, .int p3), (4, .int p4), (5, .int p5)]) hx hb dX3_descend_89 hl (by decide) rfl (fun ls hl => ?_)
            refine lv_iload_n hx hb dX3_descend_91 rfl (lv_at hl 4 rfl) ?_
            refine lv_bipush (v := 9) hx hb dX3_descend_92 (by decide) ?_
            have hcut_321 : ∀ (y_320 : Int32), (0 ≤ y_320.toInt ∧ y_320.toInt ≤ 8) → (y_320.toInt = 0 ∨ p1.toInt ≤ 8) → ∀ (ls : Array Slot), lv_has ls 18 [(8, .int y_315), (7, .int x_23), (6, .int y_20), (0, .ref o0), (1, .int p1), (2, .int p2), (3, .int p3), (4, .int p4), (5, .int p5)] → W p l e (headSpec (wU yX3_descend cX3_descend 18 (some .boolean)) { frames := 3 + (n_ + 1), cells := 0, slots := 0, locals := 87 + (n_ + 1) * 37 }).room s m [.ref o0, .int p1, .int p2, .int p3, .int p4, .int p5].toArray below meth c H locs 0 0 (MQ below (va_Qi (fun (r : Int32) (f9 : Nat → va_E) => GI (okc cI cL cZ cR cG cH L kd) kd L f9 ∧ (0 ≤ r.toInt ∧ r.toInt ≤ 1) ∧ (∀ b, kd b ≠ 1 → kd b ≠ 3 → kd b ≠ 10 → kd b ≠ 517 → kd b ≠ 518 → kd b ≠ 519 → kd b ≠ 520 → kd b ≠ 521 → kd b ≠ 522 → kd b ≠ 523 → kd b ≠ 524 → kd b ≠ 525 → kd b ≠ 526 → kd b ≠ 527 → f9 b = f b) ∧ (∀ b, kd b = 1 → fldR (f9 b) 0 = fldR (f b) 0) ∧ (∀ b, kd b = 1 → fldR (f9 b) 1 = fldR (f b) 1) ∧ (∀ b, kd b = 3 → fldR (f9 b) 0 = fldR (f b) 0) ∧ (∀ b, kd b = 3 → fldR (f9 b) 3 = fldR (f b) 3) ∧ (∀ d9, fldR (f9 o0) 3 = some d9 → drel kd 1 521 522 f9 d9)) (qP (dC, dI) cI cL cZ cR cG cH L) (fun q => q ∈ L)) [.ref o0, .int p1, .int p2, .int p3, .int p4, .int p5].toArray s 0 0 (fun q => q ∈ L)) (F0 m 103 ls [.int y_320]) := by
              intro y_320 by_320 hjhcut_321_0 ls hl
              refine lv_istore (lv' := [(9, .int y_320), (8, .int y_315), (7, .int x_23), (6, .int y_20), (0, .ref o0), (1, .int p1), (2, .int p2), (3, .int p3), (4, .int p4), (5, .int p5)]) hx hb dX3_descend_103 hl (by decide) rfl (fun ls hl => ?_)
              refine lv_iload_n hx hb dX3_descend_105 rfl (lv_at hl 6 rfl) ?_
              refine lv_aload_n hx hb dX3_descend_106 rfl (lv_at hl 4 rfl) ?_
              obtain ⟨a_323, a_324, a_325, a_326, a_327, v_328, v_329, v_330, v_331, v_332, v_333, v_334, a_335, a_336, a_337, v_338, a_339, a_340, hfo_322, ⟨ma_323, ka_323⟩, ⟨ma_324, ka_324⟩, ⟨ma_325, ka_325⟩, ⟨ma_326, ka_326⟩, ⟨ma_327, ka_327⟩, bv_328, bv_329, bv_330, ⟨ma_335, ka_335⟩, ⟨ma_336, ka_336⟩, ⟨ma_337, ka_337⟩, bv_338, ⟨ma_339, ka_339⟩, ⟨ma_340, ka_340⟩⟩ := un_3 (hG _ mo0) ko0
              have bv_331 : ((-2147483648) ≤ v_331.toInt ∧ v_331.toInt ≤ 2147483647) := ⟨i32_lo _, i32_hi _⟩
              have bv_332 : ((-2147483648) ≤ v_332.toInt ∧ v_332.toInt ≤ 2147483647) := ⟨i32_lo _, i32_hi _⟩
              have bv_333 : ((-2147483648) ≤ v_333.toInt ∧ v_333.toInt ≤ 2147483647) := ⟨i32_lo _, i32_hi _⟩
              have bv_334 : ((-2147483648) ≤ v_334.toInt ∧ v_334.toInt ≤ 2147483647) := ⟨i32_lo _, i32_hi _⟩
              obtain rfl : a_2 = a_323 := by have hk9 := hrr3_0 o0 ko0; rw [hfo_322, hfo_1] at hk9; exact (Option.some.inj hk9).symm
              obtain rfl : a_5 = a_326 := by have hk9 := hrr3_3 o0 ko0; rw [hfo_322, hfo_1] at hk9; exact (Option.some.inj hk9).symm
              refine tk_getP (D := (dC, dI)) (ci := 3) (v := .int v_328) (C := RX3) (T := TX3) (N := 18) hx hb hU inlX3 hown hK hP mo0 hfo_322 rfl 5 (by decide) (hU _ wd_726) (fun _ h9 => h9) rfl dX3_descend_107 ?_
              have hcut_342 : ∀ (y_341 : Int32), (0 ≤ y_341.toInt ∧ y_341.toInt ≤ 4) → (4 ≤ y_341.toInt ∨ p2.toInt ≤ 7) → ∀ (ls : Array Slot), lv_has ls 18 [(9, .int y_320), (8, .int y_315), (7, .int x_23), (6, .int y_20), (0, .ref o0), (1, .int p1), (2, .int p2), (3, .int p3), (4, .int p4), (5, .int p5)] → W p l e (headSpec (wU yX3_descend cX3_descend 18 (some .boolean)) { frames := 3 + (n_ + 1), cells := 0, slots := 0, locals := 87 + (n_ + 1) * 37 }).room s m [.ref o0, .int p1, .int p2, .int p3, .int p4, .int p5].toArray below meth c H locs 0 0 (MQ below (va_Qi (fun (r : Int32) (f9 : Nat → va_E) => GI (okc cI cL cZ cR cG cH L kd) kd L f9 ∧ (0 ≤ r.toInt ∧ r.toInt ≤ 1) ∧ (∀ b, kd b ≠ 1 → kd b ≠ 3 → kd b ≠ 10 → kd b ≠ 517 → kd b ≠ 518 → kd b ≠ 519 → kd b ≠ 520 → kd b ≠ 521 → kd b ≠ 522 → kd b ≠ 523 → kd b ≠ 524 → kd b ≠ 525 → kd b ≠ 526 → kd b ≠ 527 → f9 b = f b) ∧ (∀ b, kd b = 1 → fldR (f9 b) 0 = fldR (f b) 0) ∧ (∀ b, kd b = 1 → fldR (f9 b) 1 = fldR (f b) 1) ∧ (∀ b, kd b = 3 → fldR (f9 b) 0 = fldR (f b) 0) ∧ (∀ b, kd b = 3 → fldR (f9 b) 3 = fldR (f b) 3) ∧ (∀ d9, fldR (f9 o0) 3 = some d9 → drel kd 1 521 522 f9 d9)) (qP (dC, dI) cI cL cZ cR cG cH L) (fun q => q ∈ L)) [.ref o0, .int p1, .int p2, .int p3, .int p4, .int p5].toArray s 0 0 (fun q => q ∈ L)) (F0 m 118 ls [.int y_341]) := by
                intro y_341 by_341 hjhcut_342_0 ls hl
                refine lv_istore (lv' := [(10, .int y_341), (9, .int y_320), (8, .int y_315), (7, .int x_23), (6, .int y_20), (0, .ref o0), (1, .int p1), (2, .int p2), (3, .int p3), (4, .int p4), (5, .int p5)]) hx hb dX3_descend_118 hl (by decide) rfl (fun ls hl => ?_)
                have hloop_358 : ∀ (n : Nat), ∀ (y_359 : Int32), (0 ≤ y_359.toInt ∧ y_359.toInt ≤ 8) → ∀ (y_360 : Int32), (0 ≤ y_360.toInt ∧ y_360.toInt ≤ 1) → ∀ (f_362 : Nat → va_E), GI (okc cI cL cZ cR cG cH L kd) kd L f_362 → ∀ (H : Heap) (locs : List Loc), va_P (dC, dI) vwCl (va_pl L f_362) H → va_S (fun q => q ∈ L) s.heap H locs → va_D (fun q => q ∈ L) (va_pl L f_362) → (∀ b, kd b ≠ 1 → kd b ≠ 3 → kd b ≠ 10 → kd b ≠ 517 → kd b ≠ 518 → kd b ≠ 519 → kd b ≠ 520 → kd b ≠ 521 → kd b ≠ 522 → kd b ≠ 523 → kd b ≠ 524 → kd b ≠ 525 → kd b ≠ 526 → kd b ≠ 527 → f_362 b = f b) → (∀ b, kd b = 1 → fldR (f_362 b) 0 = fldR (f b) 0) → (∀ b, kd b = 1 → fldR (f_362 b) 1 = fldR (f b) 1) → (∀ b, kd b = 3 → fldR (f_362 b) 0 = fldR (f b) 0) → (∀ b, kd b = 3 → fldR (f_362 b) 3 = fldR (f b) 3) → drel kd 1 521 522 f_362 a_5 → (4 ≤ y_359.toInt ∨ p2.toInt ≤ 7) → 8 - y_359.toInt < (n : Int) → ∀ (ls : Array Slot), lv_has ls 18 [(10, .int y_359), (9, .int y_320), (8, .int y_360), (7, .int x_23), (6, .int y_20), (0, .ref o0), (1, .int p1), (2, .int p2), (3, .int p3), (4, .int p4), (5, .int p5)] → W p l e (headSpec (wU yX3_descend cX3_descend 18 (some .boolean)) { frames := 3 + (n_ + 1), cells := 0, slots := 0, locals := 87 + (n_ + 1) * 37 }).room s m [.ref o0, .int p1, .int p2, .int p3, .int p4, .int p5].toArray below meth c H locs 0 0 (MQ below (va_Qi (fun (r : Int32) (f9 : Nat → va_E) => GI (okc cI cL cZ cR cG cH L kd) kd L f9 ∧ (0 ≤ r.toInt ∧ r.toInt ≤ 1) ∧ (∀ b, kd b ≠ 1 → kd b ≠ 3 → kd b ≠ 10 → kd b ≠ 517 → kd b ≠ 518 → kd b ≠ 519 → kd b ≠ 520 → kd b ≠ 521 → kd b ≠ 522 → kd b ≠ 523 → kd b ≠ 524 → kd b ≠ 525 → kd b ≠ 526 → kd b ≠ 527 → f9 b = f b) ∧ (∀ b, kd b = 1 → fldR (f9 b) 0 = fldR (f b) 0) ∧ (∀ b, kd b = 1 → fldR (f9 b) 1 = fldR (f b) 1) ∧ (∀ b, kd b = 3 → fldR (f9 b) 0 = fldR (f b) 0) ∧ (∀ b, kd b = 3 → fldR (f9 b) 3 = fldR (f b) 3) ∧ (∀ d9, fldR (f9 o0) 3 = some d9 → drel kd 1 521 522 f9 d9)) (qP (dC, dI) cI cL cZ cR cG cH L) (fun q => q ∈ L)) [.ref o0, .int p1, .int p2, .int p3, .int p4, .int p5].toArray s 0 0 (fun q => q ∈ L)) (F0 m 120 ls []) := by
                  intro n
                  induction n with
                  | zero => intro y_359 by_359 y_360 by_360 f_362 hG H locs hP hS hD hfr0 hrr1_0 hrr1_1 hrr3_0 hrr3_3 hT0 hrelhloop_358_0 hmuhloop_358 ls hl; exfalso; omega
                  | succ n ih_hloop_358 =>
                    intro y_359 by_359 y_360 by_360 f_362 hG H locs hP hS hD hfr0 hrr1_0 hrr1_1 hrr3_0 hrr3_3 hT0 hrelhloop_358_0 hmuhloop_358 ls hl
                    refine lv_iload hx hb dX3_descend_120 (lv_at hl 0 rfl) ?_
                    refine lv_iload hx hb dX3_descend_122 (lv_at hl 1 rfl) ?_
                    have hcut_363 : ∀ (ls : Array Slot), lv_has ls 18 [(10, .int y_359), (9, .int y_320), (8, .int y_360), (7, .int x_23), (6, .int y_20), (0, .ref o0), (1, .int p1), (2, .int p2), (3, .int p3), (4, .int p4), (5, .int p5)] → W p l e (headSpec (wU yX3_descend cX3_descend 18 (some .boolean)) { frames := 3 + (n_ + 1), cells := 0, slots := 0, locals := 87 + (n_ + 1) * 37 }).room s m [.ref o0, .int p1, .int p2, .int p3, .int p4, .int p5].toArray below meth c H locs 0 0 (MQ below (va_Qi (fun (r : Int32) (f9 : Nat → va_E) => GI (okc cI cL cZ cR cG cH L kd) kd L f9 ∧ (0 ≤ r.toInt ∧ r.toInt ≤ 1) ∧ (∀ b, kd b ≠ 1 → kd b ≠ 3 → kd b ≠ 10 → kd b ≠ 517 → kd b ≠ 518 → kd b ≠ 519 → kd b ≠ 520 → kd b ≠ 521 → kd b ≠ 522 → kd b ≠ 523 → kd b ≠ 524 → kd b ≠ 525 → kd b ≠ 526 → kd b ≠ 527 → f9 b = f b) ∧ (∀ b, kd b = 1 → fldR (f9 b) 0 = fldR (f b) 0) ∧ (∀ b, kd b = 1 → fldR (f9 b) 1 = fldR (f b) 1) ∧ (∀ b, kd b = 3 → fldR (f9 b) 0 = fldR (f b) 0) ∧ (∀ b, kd b = 3 → fldR (f9 b) 3 = fldR (f b) 3) ∧ (∀ d9, fldR (f9 o0) 3 = some d9 → drel kd 1 521 522 f9 d9)) (qP (dC, dI) cI cL cZ cR cG cH L) (fun q => q ∈ L)) [.ref o0, .int p1, .int p2, .int p3, .int p4, .int p5].toArray s 0 0 (fun q => q ∈ L)) (F0 m 349 ls []) := by
                      intro ls hl
                      refine lv_iload hx hb dX3_descend_349 (lv_at hl 4 rfl) ?_
                      have hcut_366 : ∀ (f_365 : Nat → va_E), GI (okc cI cL cZ cR cG cH L kd) kd L f_365 → ∀ (H : Heap) (locs : List Loc), va_P (dC, dI) vwCl (va_pl L f_365) H → va_S (fun q => q ∈ L) s.heap H locs → va_D (fun q => q ∈ L) (va_pl L f_365) → (∀ b, kd b ≠ 1 → kd b ≠ 3 → kd b ≠ 10 → kd b ≠ 517 → kd b ≠ 518 → kd b ≠ 519 → kd b ≠ 520 → kd b ≠ 521 → kd b ≠ 522 → kd b ≠ 523 → kd b ≠ 524 → kd b ≠ 525 → kd b ≠ 526 → kd b ≠ 527 → f_365 b = f b) → (∀ b, kd b = 1 → fldR (f_365 b) 0 = fldR (f b) 0) → (∀ b, kd b = 1 → fldR (f_365 b) 1 = fldR (f b) 1) → (∀ b, kd b = 3 → fldR (f_365 b) 0 = fldR (f b) 0) → (∀ b, kd b = 3 → fldR (f_365 b) 3 = fldR (f b) 3) → drel kd 1 521 522 f_365 a_5 → ∀ (ls : Array Slot), lv_has ls 18 [(10, .int y_359), (9, .int y_320), (8, .int y_360), (7, .int x_23), (6, .int y_20), (0, .ref o0), (1, .int p1), (2, .int p2), (3, .int p3), (4, .int p4), (5, .int p5)] → W p l e (headSpec (wU yX3_descend cX3_descend 18 (some .boolean)) { frames := 3 + (n_ + 1), cells := 0, slots := 0, locals := 87 + (n_ + 1) * 37 }).room s m [.ref o0, .int p1, .int p2, .int p3, .int p4, .int p5].toArray below meth c H locs 0 0 (MQ below (va_Qi (fun (r : Int32) (f9 : Nat → va_E) => GI (okc cI cL cZ cR cG cH L kd) kd L f9 ∧ (0 ≤ r.toInt ∧ r.toInt ≤ 1) ∧ (∀ b, kd b ≠ 1 → kd b ≠ 3 → kd b ≠ 10 → kd b ≠ 517 → kd b ≠ 518 → kd b ≠ 519 → kd b ≠ 520 → kd b ≠ 521 → kd b ≠ 522 → kd b ≠ 523 → kd b ≠ 524 → kd b ≠ 525 → kd b ≠ 526 → kd b ≠ 527 → f9 b = f b) ∧ (∀ b, kd b = 1 → fldR (f9 b) 0 = fldR (f b) 0) ∧ (∀ b, kd b = 1 → fldR (f9 b) 1 = fldR (f b) 1) ∧ (∀ b, kd b = 3 → fldR (f9 b) 0 = fldR (f b) 0) ∧ (∀ b, kd b = 3 → fldR (f9 b) 3 = fldR (f b) 3) ∧ (∀ d9, fldR (f9 o0) 3 = some d9 → drel kd 1 521 522 f9 d9)) (qP (dC, dI) cI cL cZ cR cG cH L) (fun q => q ∈ L)) [.ref o0, .int p1, .int p2, .int p3, .int p4, .int p5].toArray s 0 0 (fun q => q ∈ L)) (F0 m 394 ls []) := by
                        intro f_365 hG H locs hP hS hD hfr0 hrr1_0 hrr1_1 hrr3_0 hrr3_3 hT0 ls hl
                        refine lv_iload hx hb dX3_descend_394 (lv_at hl 2 rfl) ?_
                        obtain ⟨a_368, a_369, a_370, a_371, a_372, v_373, v_374, v_375, v_376, v_377, v_378, v_379, a_380, a_381, a_382, v_383, a_384, a_385, hfo_367, ⟨ma_368, ka_368⟩, ⟨ma_369, ka_369⟩, ⟨ma_370, ka_370⟩, ⟨ma_371, ka_371⟩, ⟨ma_372, ka_372⟩, bv_373, bv_374, bv_375, ⟨ma_380, ka_380⟩, ⟨ma_381, ka_381⟩, ⟨ma_382, ka_382⟩, bv_383, ⟨ma_384, ka_384⟩, ⟨ma_385, ka_385⟩⟩ := un_3 (hG _ mo0) ko0
                        have bv_376 : ((-2147483648) ≤ v_376.toInt ∧ v_376.toInt ≤ 2147483647) := ⟨i32_lo _, i32_hi _⟩
                        have bv_377 : ((-2147483648) ≤ v_377.toInt ∧ v_377.toInt ≤ 2147483647) := ⟨i32_lo _, i32_hi _⟩
                        have bv_378 : ((-2147483648) ≤ v_378.toInt ∧ v_378.toInt ≤ 2147483647) := ⟨i32_lo _, i32_hi _⟩
                        have bv_379 : ((-2147483648) ≤ v_379.toInt ∧ v_379.toInt ≤ 2147483647) := ⟨i32_lo _, i32_hi _⟩
                        obtain rfl : a_2 = a_368 := by have hk9 := hrr3_0 o0 ko0; rw [hfo_367, hfo_1] at hk9; exact (Option.some.inj hk9).symm
                        obtain rfl : a_5 = a_371 := by have hk9 := hrr3_3 o0 ko0; rw [hfo_367, hfo_1] at hk9; exact (Option.some.inj hk9).symm
                        exact W.zret (v := y_360) (ty := .boolean) hx hb hr (zb_n (by constructor <;> omega)) (fun t ht hW => ⟨⟨y_360, f_365, rfl, ⟨hG, (by constructor <;> omega), hfr0, hrr1_0, hrr1_1, hrr3_0, hrr3_3, (fun d9 h9 => by rw [hfo_367] at h9; obtain rfl := Option.some.inj h9; exact hT0)⟩, by rw [ht]; exact hP, va_K.moved hW.alike hK, pl_in hD⟩, hS.F ht⟩) hS.2.2 dX3_descend_396
                      refine lv_if_eq (tgt := 394) hx hb dX3_descend_351 (by decide) (fun c_386 => ?_) (fun c_386 => ?_)
                      · skip
                        rw [← Int32.toInt_inj, ti_0] at c_386
                        exfalso
                        omega
                      · skip
                        rw [← Int32.toInt_inj, ti_0] at c_386
                        refine lv_iload hx hb dX3_descend_354 (lv_at hl 2 rfl) ?_
                        refine lv_if_ne (tgt := 394) hx hb dX3_descend_356 (by decide) (fun c_387 => ?_) (fun c_387 => ?_)
                        · skip
                          rw [← Int32.toInt_inj, ti_0] at c_387
                          exact hcut_366 f_362 hG _ _ hP hS hD hfr0 hrr1_0 hrr1_1 hrr3_0 hrr3_3 hT0 ls (lv_sub hl [0, 1, 2, 3, 4, 5, 6, 7, 8, 9, 10] rfl)
                        · skip
                          rw [← Int32.toInt_inj, ti_0] at c_387
                          refine lv_aload_n hx hb dX3_descend_359 rfl (lv_at hl 5 rfl) ?_
                          obtain ⟨a_389, a_390, a_391, a_392, a_393, v_394, v_395, v_396, v_397, v_398, v_399, v_400, a_401, a_402, a_403, v_404, a_405, a_406, hfo_388, ⟨ma_389, ka_389⟩, ⟨ma_390, ka_390⟩, ⟨ma_391, ka_391⟩, ⟨ma_392, ka_392⟩, ⟨ma_393, ka_393⟩, bv_394, bv_395, bv_396, ⟨ma_401, ka_401⟩, ⟨ma_402, ka_402⟩, ⟨ma_403, ka_403⟩, bv_404, ⟨ma_405, ka_405⟩, ⟨ma_406, ka_406⟩⟩ := un_3 (hG _ mo0) ko0
                          have bv_397 : ((-2147483648) ≤ v_397.toInt ∧ v_397.toInt ≤ 2147483647) := ⟨i32_lo _, i32_hi _⟩
                          have bv_398 : ((-2147483648) ≤ v_398.toInt ∧ v_398.toInt ≤ 2147483647) := ⟨i32_lo _, i32_hi _⟩
                          have bv_399 : ((-2147483648) ≤ v_399.toInt ∧ v_399.toInt ≤ 2147483647) := ⟨i32_lo _, i32_hi _⟩
                          have bv_400 : ((-2147483648) ≤ v_400.toInt ∧ v_400.toInt ≤ 2147483647) := ⟨i32_lo _, i32_hi _⟩
                          obtain rfl : a_2 = a_389 := by have hk9 := hrr3_0 o0 ko0; rw [hfo_388, hfo_1] at hk9; exact (Option.some.inj hk9).symm
                          obtain rfl : a_5 = a_392 := by have hk9 := hrr3_3 o0 ko0; rw [hfo_388, hfo_1] at hk9; exact (Option.some.inj hk9).symm
                          refine tk_getP (D := (dC, dI)) (ci := 3) (v := .ref a_390) (C := RX3) (T := TX3) (N := 18) hx hb hU inlX3 hown hK hP mo0 hfo_388 rfl 1 (by decide) (hU _ wd_52) (fun _ h9 => h9) rfl dX3_descend_360 ?_
                          obtain ⟨a_408, v_409, v_410, hfo_407, ⟨ma_408, ka_408⟩, bv_409, bv_410⟩ := un_10 (hG _ ma_390) ka_390
                          refine tk_getP (D := (dC, dI)) (ci := 10) (v := .int v_410) (C := RX10) (T := TX10) (N := 3) hx hb hU inlX10 hown hK hP ma_390 hfo_407 rfl 2 (by decide) (hU _ wd_766) (fun _ h9 => h9) rfl dX3_descend_363 ?_
                          refine lv_if_ne (tgt := 394) hx hb dX3_descend_366 (by decide) (fun c_411 => ?_) (fun c_411 => ?_)
                          · skip
                            rw [← Int32.toInt_inj, ti_0] at c_411
                            exact hcut_366 f_362 hG _ _ hP hS hD hfr0 hrr1_0 hrr1_1 hrr3_0 hrr3_3 hT0 ls (lv_sub hl [0, 1, 2, 3, 4, 5, 6, 7, 8, 9, 10] rfl)
                          · skip
                            rw [← Int32.toInt_inj, ti_0] at c_411
                            refine lv_aload_n hx hb dX3_descend_369 rfl (lv_at hl 5 rfl) ?_
                            refine tk_getP (D := (dC, dI)) (ci := 3) (v := .ref a_5) (C := RX3) (T := TX3) (N := 18) hx hb hU inlX3 hown hK hP mo0 hfo_388 rfl 3 (by decide) (hU _ wd_60) (fun _ h9 => h9) rfl dX3_descend_370 ?_
                            refine lv_aload_n hx hb dX3_descend_373 rfl (lv_at hl 5 rfl) ?_
                            refine tk_getP (D := (dC, dI)) (ci := 3) (v := .ref a_391) (C := RX3) (T := TX3) (N := 18) hx hb hU inlX3 hown hK hP mo0 hfo_388 rfl 2 (by decide) (hU _ wd_56) (fun _ h9 => h9) rfl dX3_descend_374 ?_
                            refine lv_aload_n hx hb dX3_descend_377 rfl (lv_at hl 5 rfl) ?_
                            refine tk_getP (D := (dC, dI)) (ci := 3) (v := .int v_397) (C := RX3) (T := TX3) (N := 18) hx hb hU inlX3 hown hK hP mo0 hfo_388 rfl 8 (by decide) (hU _ wd_734) (fun _ h9 => h9) rfl dX3_descend_378 ?_
                            refine lv_iload_n hx hb dX3_descend_381 rfl (lv_at hl 6 rfl) ?_
                            refine lv_iload hx hb dX3_descend_382 (lv_at hl 3 rfl) ?_
                            obtain ⟨a_413, a_414, a_415, v_416, v_417, v_418, hfo_412, ⟨ma_413, ka_413⟩, ⟨ma_414, ka_414⟩, ⟨ma_415, ka_415⟩, bv_416, bv_417, bv_418⟩ := un_1 (hG _ ma_5) ka_5
                            obtain rfl : a_290 = a_413 := by have hk9 := hrr1_0 a_5 ka_5; rw [hfo_412, hfo_289] at hk9; exact (Option.some.inj hk9).symm
                            obtain rfl : a_291 = a_414 := by have hk9 := hrr1_1 a_5 ka_5; rw [hfo_412, hfo_289] at hk9; exact (Option.some.inj hk9).symm
                            refine tk_VvP (As := [.ref a_391, .int v_397, .int p1, .int x_23]) (rest := []) (n := 4) hx hb hml hown hU hN hZ (s_X1_makeKey_k1_k8 l (dC, dI) cI cL cZ cR cG cH Z kd L f_362 hG a_5 ma_5 ka_5 a_391 ma_391 ka_391 v_397 p1 (by constructor <;> omega) x_23) wd_770 wd_771 wd_772 wd_59 wd_773 (by decide +kernel) ⟨(show 1 + 1 ≤ 3 + (n_ + 1) by omega), (show 8 + (5 + 11) + 30 ≤ 87 + (n_ + 1) * 37 by omega)⟩ hK hP hD hS ma_5 hfo_412 1 rfl rfl rfl hl.1 rfl (Nat.le_of_ble_eq_true rfl) dX3_descend_384 ⟨Nat.le_of_ble_eq_true rfl, Nat.le_of_ble_eq_true rfl⟩ (fun f_420 H locs hw hP hD hS => ?_)
                            obtain ⟨hG, hkc_421, hfc_422, hrc_423, hrc_424⟩ := hw
                            have hfo_426 : f_420 o0 = .inr (3, [.ref a_2, .ref a_390, .ref a_391, .ref a_5, .ref a_393, .int v_394, .int v_395, .int v_396, .int v_397, .int v_398, .int v_399, .int v_400, .ref a_401, .ref a_402, .ref a_403, .int v_404, .ref a_405, .ref a_406]) := by rw [hkc_421 o0 (by rw [ko0]; decide) (by rw [ko0]; decide)]; exact hfo_388
                            have hfo_427 : f_420 a_390 = .inr (10, [.ref a_408, .int v_409, .int v_410]) := by rw [hkc_421 a_390 (by rw [ka_390]; decide) (by rw [ka_390]; decide)]; exact hfo_407
                            have hfr0 : ∀ b, kd b ≠ 1 → kd b ≠ 3 → kd b ≠ 10 → kd b ≠ 517 → kd b ≠ 518 → kd b ≠ 519 → kd b ≠ 520 → kd b ≠ 521 → kd b ≠ 522 → kd b ≠ 523 → kd b ≠ 524 → kd b ≠ 525 → kd b ≠ 526 → kd b ≠ 527 → f_420 b = f b := fun b q1 q3 q10 q517 q518 q519 q520 q521 q522 q523 q524 q525 q526 q527 => (hkc_421 b q1 q523).trans (hfr0 b q1 q3 q10 q517 q518 q519 q520 q521 q522 q523 q524 q525 q526 q527)
                            have hrr1_0 : ∀ b, kd b = 1 → fldR (f_420 b) 0 = fldR (f b) 0 := fun b kb => (hrc_423 b kb).trans (hrr1_0 b kb)
                            have hrr1_1 : ∀ b, kd b = 1 → fldR (f_420 b) 1 = fldR (f b) 1 := fun b kb => (hrc_424 b kb).trans (hrr1_1 b kb)
                            have hrr3_0 : ∀ b, kd b = 3 → fldR (f_420 b) 0 = fldR (f b) 0 := fun b kb => (congrArg (fun x => fldR x 0) (hkc_421 b (by rw [kb]; decide) (by rw [kb]; decide))).trans (hrr3_0 b kb)
                            have hrr3_3 : ∀ b, kd b = 3 → fldR (f_420 b) 3 = fldR (f b) 3 := fun b kb => (congrArg (fun x => fldR x 3) (hkc_421 b (by rw [kb]; decide) (by rw [kb]; decide))).trans (hrr3_3 b kb)
                            have hT0 : drel kd 1 521 522 f_420 a_5 := hT0.keep (fun b q => hfc_422 b q) (fun b q => hrc_423 b q) (fun b q => hrc_424 b q) (fun b q => hkc_421 b (by rw [q]; decide) (by rw [q]; decide)) (fun b q => hkc_421 b (by rw [q]; decide) (by rw [q]; decide))
                            obtain ⟨a_429, a_430, a_431, v_432, v_433, v_434, hfo_428, ⟨ma_429, ka_429⟩, ⟨ma_430, ka_430⟩, ⟨ma_431, ka_431⟩, bv_432, bv_433, bv_434⟩ := un_1 (hG _ ma_5) ka_5
                            obtain rfl : a_290 = a_429 := by have hk9 := hrr1_0 a_5 ka_5; rw [hfo_428, hfo_289] at hk9; exact (Option.some.inj hk9).symm
                            obtain rfl : a_291 = a_430 := by have hk9 := hrr1_1 a_5 ka_5; rw [hfo_428, hfo_289] at hk9; exact (Option.some.inj hk9).symm
                            obtain rfl : v_418 = v_434 := by have hk9 := hfc_422 a_5 ka_5; rw [hfo_428, hfo_412] at hk9; exact (Option.some.inj hk9).symm
                            refine lv_aload_n hx hb dX3_descend_387 rfl (lv_at hl 5 rfl) ?_
                            refine tk_getP (D := (dC, dI)) (ci := 3) (v := .ref a_5) (C := RX3) (T := TX3) (N := 18) hx hb hU inlX3 hown hK hP mo0 hfo_426 rfl 3 (by decide) (hU _ wd_60) (fun _ h9 => h9) rfl dX3_descend_388 ?_
                            refine tk_VvP (As := []) (rest := []) (n := 0) hx hb hml hown hU hN hZ (s_X1_addKey_k1 l (dC, dI) cI cL cZ cR cG cH Z kd L f_420 hG a_5 ma_5 ka_5 hT0) wd_850 wd_851 wd_852 wd_59 wd_853 (by decide +kernel) ⟨(show 2 + 1 ≤ 3 + (n_ + 1) by omega), (show 8 + (3 + 11) + 46 ≤ 87 + (n_ + 1) * 37 by omega)⟩ hK hP hD hS ma_5 hfo_428 1 rfl rfl rfl hl.1 rfl (Nat.le_of_ble_eq_true rfl) dX3_descend_391 ⟨Nat.le_of_ble_eq_true rfl, Nat.le_of_ble_eq_true rfl⟩ (fun f_436 H locs hw hP hD hS => ?_)
                            obtain ⟨hG, hkc_437, hrc_438, hrc_439, hTc_440⟩ := hw
                            have hfo_442 : f_436 o0 = .inr (3, [.ref a_2, .ref a_390, .ref a_391, .ref a_5, .ref a_393, .int v_394, .int v_395, .int v_396, .int v_397, .int v_398, .int v_399, .int v_400, .ref a_401, .ref a_402, .ref a_403, .int v_404, .ref a_405, .ref a_406]) := by rw [hkc_437 o0 (by rw [ko0]; decide) (by rw [ko0]; decide) (by rw [ko0]; decide)]; exact hfo_426
                            have hfo_443 : f_436 a_390 = .inr (10, [.ref a_408, .int v_409, .int v_410]) := by rw [hkc_437 a_390 (by rw [ka_390]; decide) (by rw [ka_390]; decide) (by rw [ka_390]; decide)]; exact hfo_427
                            have hfr0 : ∀ b, kd b ≠ 1 → kd b ≠ 3 → kd b ≠ 10 → kd b ≠ 517 → kd b ≠ 518 → kd b ≠ 519 → kd b ≠ 520 → kd b ≠ 521 → kd b ≠ 522 → kd b ≠ 523 → kd b ≠ 524 → kd b ≠ 525 → kd b ≠ 526 → kd b ≠ 527 → f_436 b = f b := fun b q1 q3 q10 q517 q518 q519 q520 q521 q522 q523 q524 q525 q526 q527 => (hkc_437 b q1 q521 q522).trans (hfr0 b q1 q3 q10 q517 q518 q519 q520 q521 q522 q523 q524 q525 q526 q527)
                            have hrr1_0 : ∀ b, kd b = 1 → fldR (f_436 b) 0 = fldR (f b) 0 := fun b kb => (hrc_438 b kb).trans (hrr1_0 b kb)
                            have hrr1_1 : ∀ b, kd b = 1 → fldR (f_436 b) 1 = fldR (f b) 1 := fun b kb => (hrc_439 b kb).trans (hrr1_1 b kb)
                            have hrr3_0 : ∀ b, kd b = 3 → fldR (f_436 b) 0 = fldR (f b) 0 := fun b kb => (congrArg (fun x => fldR x 0) (hkc_437 b (by rw [kb]; decide) (by rw [kb]; decide) (by rw [kb]; decide))).trans (hrr3_0 b kb)
                            have hrr3_3 : ∀ b, kd b = 3 → fldR (f_436 b) 3 = fldR (f b) 3 := fun b kb => (congrArg (fun x => fldR x 3) (hkc_437 b (by rw [kb]; decide) (by rw [kb]; decide) (by rw [kb]; decide))).trans (hrr3_3 b kb)
                            obtain ⟨a_445, a_446, a_447, v_448, v_449, v_450, hfo_444, ⟨ma_445, ka_445⟩, ⟨ma_446, ka_446⟩, ⟨ma_447, ka_447⟩, bv_448, bv_449, bv_450⟩ := un_1 (hG _ ma_5) ka_5
                            obtain rfl : a_290 = a_445 := by have hk9 := hrr1_0 a_5 ka_5; rw [hfo_444, hfo_289] at hk9; exact (Option.some.inj hk9).symm
                            obtain rfl : a_291 = a_446 := by have hk9 := hrr1_1 a_5 ka_5; rw [hfo_444, hfo_289] at hk9; exact (Option.some.inj hk9).symm
                            exact hcut_366 f_436 hG _ _ hP hS hD hfr0 hrr1_0 hrr1_1 hrr3_0 hrr3_3 hTc_440 ls (lv_sub hl [0, 1, 2, 3, 4, 5, 6, 7, 8, 9, 10] rfl)
                    refine lv_icmp_ge (tgt := 349) hx hb dX3_descend_124 (by decide) (fun c_451 => ?_) (fun c_451 => ?_)
                    · skip
                      rw [Int32.le_iff_toInt_le] at c_451
                      exact hcut_363 ls (lv_sub hl [0, 1, 2, 3, 4, 5, 6, 7, 8, 9, 10] rfl)
                    · skip
                      rw [Int32.le_iff_toInt_le] at c_451
                      have hclc_452 : (0 ≤ p1.toInt ∧ p1.toInt ≤ 8) := by constructor <;> omega
                      refine lv_aload_n hx hb dX3_descend_127 rfl (lv_at hl 5 rfl) ?_
                      obtain ⟨a_454, a_455, a_456, a_457, a_458, v_459, v_460, v_461, v_462, v_463, v_464, v_465, a_466, a_467, a_468, v_469, a_470, a_471, hfo_453, ⟨ma_454, ka_454⟩, ⟨ma_455, ka_455⟩, ⟨ma_456, ka_456⟩, ⟨ma_457, ka_457⟩, ⟨ma_458, ka_458⟩, bv_459, bv_460, bv_461, ⟨ma_466, ka_466⟩, ⟨ma_467, ka_467⟩, ⟨ma_468, ka_468⟩, bv_469, ⟨ma_470, ka_470⟩, ⟨ma_471, ka_471⟩⟩ := un_3 (hG _ mo0) ko0
                      have bv_462 : ((-2147483648) ≤ v_462.toInt ∧ v_462.toInt ≤ 2147483647) := ⟨i32_lo _, i32_hi _⟩
                      have bv_463 : ((-2147483648) ≤ v_463.toInt ∧ v_463.toInt ≤ 2147483647) := ⟨i32_lo _, i32_hi _⟩
                      have bv_464 : ((-2147483648) ≤ v_464.toInt ∧ v_464.toInt ≤ 2147483647) := ⟨i32_lo _, i32_hi _⟩
                      have bv_465 : ((-2147483648) ≤ v_465.toInt ∧ v_465.toInt ≤ 2147483647) := ⟨i32_lo _, i32_hi _⟩
                      obtain rfl : a_2 = a_454 := by have hk9 := hrr3_0 o0 ko0; rw [hfo_453, hfo_1] at hk9; exact (Option.some.inj hk9).symm
                      obtain rfl : a_5 = a_457 := by have hk9 := hrr3_3 o0 ko0; rw [hfo_453, hfo_1] at hk9; exact (Option.some.inj hk9).symm
                      refine tk_getP (D := (dC, dI)) (ci := 3) (v := .ref a_455) (C := RX3) (T := TX3) (N := 18) hx hb hU inlX3 hown hK hP mo0 hfo_453 rfl 1 (by decide) (hU _ wd_52) (fun _ h9 => h9) rfl dX3_descend_128 ?_
                      obtain ⟨a_473, v_474, v_475, hfo_472, ⟨ma_473, ka_473⟩, bv_474, bv_475⟩ := un_10 (hG _ ma_455) ka_455
                      refine tk_getP (D := (dC, dI)) (ci := 10) (v := .int v_475) (C := RX10) (T := TX10) (N := 3) hx hb hU inlX10 hown hK hP ma_455 hfo_472 rfl 2 (by decide) (hU _ wd_766) (fun _ h9 => h9) rfl dX3_descend_131 ?_
                      refine lv_if_ne (tgt := 349) hx hb dX3_descend_134 (by decide) (fun c_476 => ?_) (fun c_476 => ?_)
                      · skip
                        rw [← Int32.toInt_inj, ti_0] at c_476
                        exact hcut_363 ls (lv_sub hl [0, 1, 2, 3, 4, 5, 6, 7, 8, 9, 10] rfl)
                      · skip
                        rw [← Int32.toInt_inj, ti_0] at c_476
                        refine lv_iload hx hb dX3_descend_137 (lv_at hl 0 rfl) ?_
                        refine lv_iconst (v := 4) hx hb dX3_descend_139 (by decide) ?_
                        have hcut_478 : ∀ (y_477 : Int32), (0 ≤ y_477.toInt ∧ y_477.toInt ≤ 8) → (y_477.toInt = 0 ∨ p2.toInt ≤ 7) → ∀ (ls : Array Slot), lv_has ls 18 [(10, .int y_359), (9, .int y_320), (8, .int y_360), (7, .int x_23), (6, .int y_20), (0, .ref o0), (1, .int p1), (2, .int p2), (3, .int p3), (4, .int p4), (5, .int p5)] → W p l e (headSpec (wU yX3_descend cX3_descend 18 (some .boolean)) { frames := 3 + (n_ + 1), cells := 0, slots := 0, locals := 87 + (n_ + 1) * 37 }).room s m [.ref o0, .int p1, .int p2, .int p3, .int p4, .int p5].toArray below meth c H locs 0 0 (MQ below (va_Qi (fun (r : Int32) (f9 : Nat → va_E) => GI (okc cI cL cZ cR cG cH L kd) kd L f9 ∧ (0 ≤ r.toInt ∧ r.toInt ≤ 1) ∧ (∀ b, kd b ≠ 1 → kd b ≠ 3 → kd b ≠ 10 → kd b ≠ 517 → kd b ≠ 518 → kd b ≠ 519 → kd b ≠ 520 → kd b ≠ 521 → kd b ≠ 522 → kd b ≠ 523 → kd b ≠ 524 → kd b ≠ 525 → kd b ≠ 526 → kd b ≠ 527 → f9 b = f b) ∧ (∀ b, kd b = 1 → fldR (f9 b) 0 = fldR (f b) 0) ∧ (∀ b, kd b = 1 → fldR (f9 b) 1 = fldR (f b) 1) ∧ (∀ b, kd b = 3 → fldR (f9 b) 0 = fldR (f b) 0) ∧ (∀ b, kd b = 3 → fldR (f9 b) 3 = fldR (f b) 3) ∧ (∀ d9, fldR (f9 o0) 3 = some d9 → drel kd 1 521 522 f9 d9)) (qP (dC, dI) cI cL cZ cR cG cH L) (fun q => q ∈ L)) [.ref o0, .int p1, .int p2, .int p3, .int p4, .int p5].toArray s 0 0 (fun q => q ∈ L)) (F0 m 153 ls [.int y_477]) := by
                          intro y_477 by_477 hjhcut_478_0 ls hl
                          refine lv_istore (lv' := [(11, .int y_477), (10, .int y_359), (9, .int y_320), (8, .int y_360), (7, .int x_23), (6, .int y_20), (0, .ref o0), (1, .int p1), (2, .int p2), (3, .int p3), (4, .int p4), (5, .int p5)]) hx hb dX3_descend_153 hl (by decide) rfl (fun ls hl => ?_)
                          refine lv_aload_n hx hb dX3_descend_155 rfl (lv_at hl 6 rfl) ?_
                          refine lv_iload hx hb dX3_descend_156 (lv_at hl 0 rfl) ?_
                          refine lv_iload hx hb dX3_descend_158 (lv_at hl 1 rfl) ?_
                          refine lv_iconst (v := 4) hx hb dX3_descend_160 (by decide) ?_
                          refine lv_irem hx hb dX3_descend_161 (by decide) ?_
                          refine lv_topi (fun x_479 ex_479 => ?_)
                          have hx_479 : x_479.toInt = y_359.toInt % 4 := by rw [ex_479, rm_I (by omega) (by rw [ti_4]; omega), ti_4]
                          have bx_479 : (0 ≤ x_479.toInt ∧ x_479.toInt ≤ 3) := by constructor <;> omega
                          refine tk_ViP (As := [.int y_477, .int x_479]) (rest := []) (n := 2) hx hb hml hown hU hN hZ (s_X3_choiceOf_k3 l (dC, dI) cI cL cZ cR cG cH Z kd L f_362 hG o0 mo0 ko0 y_477 (by constructor <;> omega) x_479 (by constructor <;> omega)) wd_819 wd_820 wd_821 wd_16 wd_822 (by decide +kernel) ⟨(show 0 + 1 ≤ 3 + (n_ + 1) by omega), (show 8 + (4 + 11) + 0 ≤ 87 + (n_ + 1) * 37 by omega)⟩ hK hP hD hS mo0 hfo_453 3 rfl rfl rfl hl.1 rfl (Nat.le_of_ble_eq_true rfl) dX3_descend_162 ⟨Nat.le_of_ble_eq_true rfl, Nat.le_of_ble_eq_true rfl⟩ (fun x_480 f_481 H locs hw hP hD hS => ?_)
                          obtain ⟨rfl, bx_480⟩ := hw
                          refine lv_istore (lv' := [(12, .int x_480), (11, .int y_477), (10, .int y_359), (9, .int y_320), (8, .int y_360), (7, .int x_23), (6, .int y_20), (0, .ref o0), (1, .int p1), (2, .int p2), (3, .int p3), (4, .int p4), (5, .int p5)]) hx hb dX3_descend_165 hl (by decide) rfl (fun ls hl => ?_)
                          refine lv_iload hx hb dX3_descend_167 (lv_at hl 0 rfl) ?_
                          refine lv_iconst (v := (-1)) hx hb dX3_descend_169 (by decide) ?_
                          have hcut_486 : ∀ (y_483 : Int32), (0 ≤ y_483.toInt ∧ y_483.toInt ≤ 1) → ∀ (f_485 : Nat → va_E), GI (okc cI cL cZ cR cG cH L kd) kd L f_485 → ∀ (H : Heap) (locs : List Loc), va_P (dC, dI) vwCl (va_pl L f_485) H → va_S (fun q => q ∈ L) s.heap H locs → va_D (fun q => q ∈ L) (va_pl L f_485) → (∀ b, kd b ≠ 1 → kd b ≠ 3 → kd b ≠ 10 → kd b ≠ 517 → kd b ≠ 518 → kd b ≠ 519 → kd b ≠ 520 → kd b ≠ 521 → kd b ≠ 522 → kd b ≠ 523 → kd b ≠ 524 → kd b ≠ 525 → kd b ≠ 526 → kd b ≠ 527 → f_485 b = f b) → (∀ b, kd b = 1 → fldR (f_485 b) 0 = fldR (f b) 0) → (∀ b, kd b = 1 → fldR (f_485 b) 1 = fldR (f b) 1) → (∀ b, kd b = 3 → fldR (f_485 b) 0 = fldR (f b) 0) → (∀ b, kd b = 3 → fldR (f_485 b) 3 = fldR (f b) 3) → drel kd 1 521 522 f_485 a_5 → ∀ (ls : Array Slot), lv_has ls 18 [(12, .int x_480), (11, .int y_477), (10, .int y_359), (9, .int y_320), (8, .int y_483), (7, .int x_23), (6, .int y_20), (0, .ref o0), (1, .int p1), (2, .int p2), (3, .int p3), (4, .int p4), (5, .int p5)] → W p l e (headSpec (wU yX3_descend cX3_descend 18 (some .boolean)) { frames := 3 + (n_ + 1), cells := 0, slots := 0, locals := 87 + (n_ + 1) * 37 }).room s m [.ref o0, .int p1, .int p2, .int p3, .int p4, .int p5].toArray below meth c H locs 0 0 (MQ below (va_Qi (fun (r : Int32) (f9 : Nat → va_E) => GI (okc cI cL cZ cR cG cH L kd) kd L f9 ∧ (0 ≤ r.toInt ∧ r.toInt ≤ 1) ∧ (∀ b, kd b ≠ 1 → kd b ≠ 3 → kd b ≠ 10 → kd b ≠ 517 → kd b ≠ 518 → kd b ≠ 519 → kd b ≠ 520 → kd b ≠ 521 → kd b ≠ 522 → kd b ≠ 523 → kd b ≠ 524 → kd b ≠ 525 → kd b ≠ 526 → kd b ≠ 527 → f9 b = f b) ∧ (∀ b, kd b = 1 → fldR (f9 b) 0 = fldR (f b) 0) ∧ (∀ b, kd b = 1 → fldR (f9 b) 1 = fldR (f b) 1) ∧ (∀ b, kd b = 3 → fldR (f9 b) 0 = fldR (f b) 0) ∧ (∀ b, kd b = 3 → fldR (f9 b) 3 = fldR (f b) 3) ∧ (∀ d9, fldR (f9 o0) 3 = some d9 → drel kd 1 521 522 f9 d9)) (qP (dC, dI) cI cL cZ cR cG cH L) (fun q => q ∈ L)) [.ref o0, .int p1, .int p2, .int p3, .int p4, .int p5].toArray s 0 0 (fun q => q ∈ L)) (F0 m 343 ls []) := by
                            intro y_483 by_483 f_485 hG H locs hP hS hD hfr0 hrr1_0 hrr1_1 hrr3_0 hrr3_3 hT0 ls hl
                            obtain ⟨x_487, ex_487⟩ : ∃ y : Int32, y_359 + 1 = y := ⟨_, rfl⟩
                            have hx_487 : x_487.toInt = y_359.toInt + 1 := by rw [← ex_487, ad_I (by rw [ti_1]; omega) (by rw [ti_1]; omega), ti_1]
                            have bx_487 : (1 ≤ x_487.toInt ∧ x_487.toInt ≤ 8) := by constructor <;> omega
                            refine lv_iinc (v := x_487) (lv' := [(10, .int x_487), (12, .int x_480), (11, .int y_477), (9, .int y_320), (8, .int y_483), (7, .int x_23), (6, .int y_20), (0, .ref o0), (1, .int p1), (2, .int p2), (3, .int p3), (4, .int p4), (5, .int p5)]) hx hb dX3_descend_343 hl (k := 2) rfl ex_487 (by decide) rfl (fun ls hl => ?_)
                            refine lv_goto (tgt := 120) hx hb dX3_descend_346 (by decide) ?_
                            exact ih_hloop_358 x_487 (by constructor <;> omega) y_483 (by constructor <;> omega) f_485 hG _ _ hP hS hD hfr0 hrr1_0 hrr1_1 hrr3_0 hrr3_3 hT0 (by omega) (by omega) ls (lv_sub hl [0, 3, 4, 5, 6, 7, 8, 9, 10, 11, 12] rfl)
                          refine lv_icmp_ne (tgt := 176) hx hb dX3_descend_170 (by decide) (fun c_488 => ?_) (fun c_488 => ?_)
                          · skip
                            rw [← Int32.toInt_inj, ti_m1] at c_488
                            refine lv_aload_n hx hb dX3_descend_176 rfl (lv_at hl 7 rfl) ?_
                            refine tk_getP (D := (dC, dI)) (ci := 3) (v := .int v_460) (C := RX3) (T := TX3) (N := 18) hx hb hU inlX3 hown hK hP mo0 hfo_453 rfl 6 (by decide) (hU _ wd_732) (fun _ h9 => h9) rfl dX3_descend_177 ?_
                            have hcut_490 : ∀ (y_489 : Int32), (0 ≤ y_489.toInt ∧ y_489.toInt ≤ 8) → ∀ (ls : Array Slot), lv_has ls 18 [(12, .int x_480), (11, .int y_477), (10, .int y_359), (9, .int y_320), (8, .int y_360), (7, .int x_23), (6, .int y_20), (0, .ref o0), (1, .int p1), (2, .int p2), (3, .int p3), (4, .int p4), (5, .int p5)] → W p l e (headSpec (wU yX3_descend cX3_descend 18 (some .boolean)) { frames := 3 + (n_ + 1), cells := 0, slots := 0, locals := 87 + (n_ + 1) * 37 }).room s m [.ref o0, .int p1, .int p2, .int p3, .int p4, .int p5].toArray below meth c H locs 0 0 (MQ below (va_Qi (fun (r : Int32) (f9 : Nat → va_E) => GI (okc cI cL cZ cR cG cH L kd) kd L f9 ∧ (0 ≤ r.toInt ∧ r.toInt ≤ 1) ∧ (∀ b, kd b ≠ 1 → kd b ≠ 3 → kd b ≠ 10 → kd b ≠ 517 → kd b ≠ 518 → kd b ≠ 519 → kd b ≠ 520 → kd b ≠ 521 → kd b ≠ 522 → kd b ≠ 523 → kd b ≠ 524 → kd b ≠ 525 → kd b ≠ 526 → kd b ≠ 527 → f9 b = f b) ∧ (∀ b, kd b = 1 → fldR (f9 b) 0 = fldR (f b) 0) ∧ (∀ b, kd b = 1 → fldR (f9 b) 1 = fldR (f b) 1) ∧ (∀ b, kd b = 3 → fldR (f9 b) 0 = fldR (f b) 0) ∧ (∀ b, kd b = 3 → fldR (f9 b) 3 = fldR (f b) 3) ∧ (∀ d9, fldR (f9 o0) 3 = some d9 → drel kd 1 521 522 f9 d9)) (qP (dC, dI) cI cL cZ cR cG cH L) (fun q => q ∈ L)) [.ref o0, .int p1, .int p2, .int p3, .int p4, .int p5].toArray s 0 0 (fun q => q ∈ L)) (F0 m 206 ls [.int y_489]) := by
                              intro y_489 by_489 ls hl
                              refine lv_istore (lv' := [(13, .int y_489), (12, .int x_480), (11, .int y_477), (10, .int y_359), (9, .int y_320), (8, .int y_360), (7, .int x_23), (6, .int y_20), (0, .ref o0), (1, .int p1), (2, .int p2), (3, .int p3), (4, .int p4), (5, .int p5)]) hx hb dX3_descend_206 hl (by decide) rfl (fun ls hl => ?_)
                              refine lv_iload hx hb dX3_descend_208 (lv_at hl 2 rfl) ?_
                              have hcut_492 : ∀ (y_491 : Int32), (0 ≤ y_491.toInt ∧ y_491.toInt ≤ 1) → ∀ (ls : Array Slot), lv_has ls 18 [(13, .int y_489), (12, .int x_480), (11, .int y_477), (10, .int y_359), (9, .int y_320), (8, .int y_360), (7, .int x_23), (6, .int y_20), (0, .ref o0), (1, .int p1), (2, .int p2), (3, .int p3), (4, .int p4), (5, .int p5)] → W p l e (headSpec (wU yX3_descend cX3_descend 18 (some .boolean)) { frames := 3 + (n_ + 1), cells := 0, slots := 0, locals := 87 + (n_ + 1) * 37 }).room s m [.ref o0, .int p1, .int p2, .int p3, .int p4, .int p5].toArray below meth c H locs 0 0 (MQ below (va_Qi (fun (r : Int32) (f9 : Nat → va_E) => GI (okc cI cL cZ cR cG cH L kd) kd L f9 ∧ (0 ≤ r.toInt ∧ r.toInt ≤ 1) ∧ (∀ b, kd b ≠ 1 → kd b ≠ 3 → kd b ≠ 10 → kd b ≠ 517 → kd b ≠ 518 → kd b ≠ 519 → kd b ≠ 520 → kd b ≠ 521 → kd b ≠ 522 → kd b ≠ 523 → kd b ≠ 524 → kd b ≠ 525 → kd b ≠ 526 → kd b ≠ 527 → f9 b = f b) ∧ (∀ b, kd b = 1 → fldR (f9 b) 0 = fldR (f b) 0) ∧ (∀ b, kd b = 1 → fldR (f9 b) 1 = fldR (f b) 1) ∧ (∀ b, kd b = 3 → fldR (f9 b) 0 = fldR (f b) 0) ∧ (∀ b, kd b = 3 → fldR (f9 b) 3 = fldR (f b) 3) ∧ (∀ d9, fldR (f9 o0) 3 = some d9 → drel kd 1 521 522 f9 d9)) (qP (dC, dI) cI cL cZ cR cG cH L) (fun q => q ∈ L)) [.ref o0, .int p1, .int p2, .int p3, .int p4, .int p5].toArray s 0 0 (fun q => q ∈ L)) (F0 m 223 ls [.int y_491]) := by
                                intro y_491 by_491 ls hl
                                refine lv_istore (lv' := [(14, .int y_491), (13, .int y_489), (12, .int x_480), (11, .int y_477), (10, .int y_359), (9, .int y_320), (8, .int y_360), (7, .int x_23), (6, .int y_20), (0, .ref o0), (1, .int p1), (2, .int p2), (3, .int p3), (4, .int p4), (5, .int p5)]) hx hb dX3_descend_223 hl (by decide) rfl (fun ls hl => ?_)
                                refine lv_iload hx hb dX3_descend_225 (lv_at hl 0 rfl) ?_
                                refine lv_iload_n hx hb dX3_descend_227 rfl (lv_at hl 12 rfl) ?_
                                refine lv_icmp_gt (tgt := 343) hx hb dX3_descend_228 (by decide) (fun c_493 => ?_) (fun c_493 => ?_)
                                · skip
                                  rw [Int32.lt_iff_toInt_lt] at c_493
                                  exact hcut_486 y_360 (by constructor <;> omega) f_362 hG _ _ hP hS hD hfr0 hrr1_0 hrr1_1 hrr3_0 hrr3_3 hT0 ls (lv_sub hl [2, 3, 4, 5, 6, 7, 8, 9, 10, 11, 12, 13, 14] rfl)
                                · skip
                                  rw [Int32.lt_iff_toInt_lt] at c_493
                                  refine lv_aload_n hx hb dX3_descend_231 rfl (lv_at hl 9 rfl) ?_
                                  refine lv_aload_n hx hb dX3_descend_232 rfl (lv_at hl 9 rfl) ?_
                                  refine tk_getP (D := (dC, dI)) (ci := 3) (v := .ref a_456) (C := RX3) (T := TX3) (N := 18) hx hb hU inlX3 hown hK hP mo0 hfo_453 rfl 2 (by decide) (hU _ wd_56) (fun _ h9 => h9) rfl dX3_descend_233 ?_
                                  refine lv_aload_n hx hb dX3_descend_236 rfl (lv_at hl 9 rfl) ?_
                                  refine tk_getP (D := (dC, dI)) (ci := 3) (v := .ref a_2) (C := RX3) (T := TX3) (N := 18) hx hb hU inlX3 hown hK hP mo0 hfo_453 rfl 0 (by decide) (hU _ wd_48) (fun _ h9 => h9) rfl dX3_descend_237 ?_
                                  refine lv_aload_n hx hb dX3_descend_240 rfl (lv_at hl 9 rfl) ?_
                                  refine tk_getP (D := (dC, dI)) (ci := 3) (v := .int v_462) (C := RX3) (T := TX3) (N := 18) hx hb hU inlX3 hown hK hP mo0 hfo_453 rfl 8 (by decide) (hU _ wd_734) (fun _ h9 => h9) rfl dX3_descend_241 ?_
                                  refine lv_iload_n hx hb dX3_descend_244 rfl (lv_at hl 10 rfl) ?_
                                  refine lv_iload hx hb dX3_descend_245 (lv_at hl 2 rfl) ?_
                                  obtain ⟨a_495, a_496, a_497, a_498, a_499, hfo_494, ⟨ma_495, ka_495⟩, ⟨ma_496, ka_496⟩, ⟨ma_497, ka_497⟩, ⟨ma_498, ka_498⟩, ⟨ma_499, ka_499⟩⟩ := un_8 (hG _ ma_456) ka_456
                                  refine tk_ViP (As := [.ref a_2, .int v_462, .int p1, .int x_480]) (rest := [.ref o0]) (n := 4) hx hb hml hown hU hN hZ (s_X8_step_k8_k7 l (dC, dI) cI cL cZ cR cG cH Z kd L f_362 hG a_456 ma_456 ka_456 a_2 ma_2 ka_2 v_462 p1 (by constructor <;> omega) x_480 (by constructor <;> omega)) wd_825 wd_826 wd_827 wd_55 wd_828 (by decide +kernel) ⟨(show 2 + 1 ≤ 3 + (n_ + 1) by omega), (show 8 + (12 + 11) + 56 ≤ 87 + (n_ + 1) * 37 by omega)⟩ hK hP hD hS ma_456 hfo_494 8 rfl rfl rfl hl.1 rfl (Nat.le_of_ble_eq_true rfl) dX3_descend_247 ⟨Nat.le_of_ble_eq_true rfl, Nat.le_of_ble_eq_true rfl⟩ (fun x_500 f_501 H locs hw hP hD hS => ?_)
                                  obtain ⟨hG, bx_500, hkc_502⟩ := hw
                                  have hfo_504 : f_501 o0 = .inr (3, [.ref a_2, .ref a_455, .ref a_456, .ref a_5, .ref a_458, .int v_459, .int v_460, .int v_461, .int v_462, .int v_463, .int v_464, .int v_465, .ref a_466, .ref a_467, .ref a_468, .int v_469, .ref a_470, .ref a_471]) := by rw [hkc_502 o0 (by rw [ko0]; decide) (by rw [ko0]; decide) (by rw [ko0]; decide) (by rw [ko0]; decide)]; exact hfo_453
                                  have hfo_505 : f_501 a_455 = .inr (10, [.ref a_473, .int v_474, .int v_475]) := by rw [hkc_502 a_455 (by rw [ka_455]; decide) (by rw [ka_455]; decide) (by rw [ka_455]; decide) (by rw [ka_455]; decide)]; exact hfo_472
                                  have hfo_506 : f_501 a_456 = .inr (8, [.ref a_495, .ref a_496, .ref a_497, .ref a_498, .ref a_499]) := by rw [hkc_502 a_456 (by rw [ka_456]; decide) (by rw [ka_456]; decide) (by rw [ka_456]; decide) (by rw [ka_456]; decide)]; exact hfo_494
                                  have hfr0 : ∀ b, kd b ≠ 1 → kd b ≠ 3 → kd b ≠ 10 → kd b ≠ 517 → kd b ≠ 518 → kd b ≠ 519 → kd b ≠ 520 → kd b ≠ 521 → kd b ≠ 522 → kd b ≠ 523 → kd b ≠ 524 → kd b ≠ 525 → kd b ≠ 526 → kd b ≠ 527 → f_501 b = f b := fun b q1 q3 q10 q517 q518 q519 q520 q521 q522 q523 q524 q525 q526 q527 => (hkc_502 b q517 q518 q519 q520).trans (hfr0 b q1 q3 q10 q517 q518 q519 q520 q521 q522 q523 q524 q525 q526 q527)
                                  have hrr1_0 : ∀ b, kd b = 1 → fldR (f_501 b) 0 = fldR (f b) 0 := fun b kb => (congrArg (fun x => fldR x 0) (hkc_502 b (by rw [kb]; decide) (by rw [kb]; decide) (by rw [kb]; decide) (by rw [kb]; decide))).trans (hrr1_0 b kb)
                                  have hrr1_1 : ∀ b, kd b = 1 → fldR (f_501 b) 1 = fldR (f b) 1 := fun b kb => (congrArg (fun x => fldR x 1) (hkc_502 b (by rw [kb]; decide) (by rw [kb]; decide) (by rw [kb]; decide) (by rw [kb]; decide))).trans (hrr1_1 b kb)
                                  have hrr3_0 : ∀ b, kd b = 3 → fldR (f_501 b) 0 = fldR (f b) 0 := fun b kb => (congrArg (fun x => fldR x 0) (hkc_502 b (by rw [kb]; decide) (by rw [kb]; decide) (by rw [kb]; decide) (by rw [kb]; decide))).trans (hrr3_0 b kb)
                                  have hrr3_3 : ∀ b, kd b = 3 → fldR (f_501 b) 3 = fldR (f b) 3 := fun b kb => (congrArg (fun x => fldR x 3) (hkc_502 b (by rw [kb]; decide) (by rw [kb]; decide) (by rw [kb]; decide) (by rw [kb]; decide))).trans (hrr3_3 b kb)
                                  have hT0 : drel kd 1 521 522 f_501 a_5 := hT0.keep (fun b q => congrArg (fun x => fldI x 5) (hkc_502 b (by rw [q]; decide) (by rw [q]; decide) (by rw [q]; decide) (by rw [q]; decide))) (fun b q => congrArg (fun x => fldR x 0) (hkc_502 b (by rw [q]; decide) (by rw [q]; decide) (by rw [q]; decide) (by rw [q]; decide))) (fun b q => congrArg (fun x => fldR x 1) (hkc_502 b (by rw [q]; decide) (by rw [q]; decide) (by rw [q]; decide) (by rw [q]; decide))) (fun b q => hkc_502 b (by rw [q]; decide) (by rw [q]; decide) (by rw [q]; decide) (by rw [q]; decide)) (fun b q => hkc_502 b (by rw [q]; decide) (by rw [q]; decide) (by rw [q]; decide) (by rw [q]; decide))
                                  refine tk_ViP (As := [.int x_500]) (rest := []) (n := 1) hx hb hml hown hU hN hZ (s_X3_isLeft_k3 l (dC, dI) cI cL cZ cR cG cH Z kd L f_501 hG o0 mo0 ko0 x_500) wd_806 wd_807 wd_808 wd_16 wd_809 (by decide +kernel) ⟨(show 0 + 1 ≤ 3 + (n_ + 1) by omega), (show 8 + (2 + 11) + 0 ≤ 87 + (n_ + 1) * 37 by omega)⟩ hK hP hD hS mo0 hfo_504 3 rfl rfl rfl hl.1 rfl (Nat.le_of_ble_eq_true rfl) dX3_descend_250 ⟨Nat.le_of_ble_eq_true rfl, Nat.le_of_ble_eq_true rfl⟩ (fun x_507 f_508 H locs hw hP hD hS => ?_)
                                  obtain ⟨rfl, bx_507⟩ := hw
                                  refine lv_if_eq (tgt := 259) hx hb dX3_descend_253 (by decide) (fun c_510 => ?_) (fun c_510 => ?_)
                                  · skip
                                    rw [← Int32.toInt_inj, ti_0] at c_510
                                    refine lv_aload_n hx hb dX3_descend_259 rfl (lv_at hl 9 rfl) ?_
                                    refine tk_getP (D := (dC, dI)) (ci := 3) (v := .ref a_466) (C := RX3) (T := TX3) (N := 18) hx hb hU inlX3 hown hK hP mo0 hfo_504 rfl 12 (by decide) (hU _ wd_63) (fun _ h9 => h9) rfl dX3_descend_260 ?_
                                    refine lv_iload_n hx hb dX3_descend_263 rfl (lv_at hl 10 rfl) ?_
                                    refine lv_iload hx hb dX3_descend_264 (lv_at hl 2 rfl) ?_
                                    obtain ⟨g_512, hfo_511, hbg_512⟩ := un_525 (hG _ ma_466) ka_466
                                    refine tk_istP hx hb hK hP hD hS 0 ma_466 hfo_511 rfl (vp_in_iff.mpr (by constructor <;> omega)) dX3_descend_266 (fun H locs hP hD hS => ?_)
                                    obtain ⟨f_514, ef_514⟩ : ∃ y : Nat → va_E, y = va_up f_501 a_466 (.inl (cI, 9, .inl (upd g_512 (Int32.toNatClampNeg p1) x_480))) := ⟨_, rfl⟩
                                    have hP : va_P (dC, dI) vwCl (va_pl L f_514) H := by rw [ef_514]; exact hP
                                    have hD : va_D (fun q => q ∈ L) (va_pl L f_514) := by rw [ef_514]; exact hD
                                    have hG : GI (okc cI cL cZ cR cG cH L kd) kd L f_514 := by rw [ef_514]; exact hG.set a_466 (mk_525 ka_466 ⟨_, rfl, okI_up hbg_512 (by constructor <;> omega) _⟩)
                                    have hfo_515 : f_514 o0 = .inr (3, [.ref a_2, .ref a_455, .ref a_456, .ref a_5, .ref a_458, .int v_459, .int v_460, .int v_461, .int v_462, .int v_463, .int v_464, .int v_465, .ref a_466, .ref a_467, .ref a_468, .int v_469, .ref a_470, .ref a_471]) := by rw [ef_514, up_ne (kd_ne ka_466 ko0 (by decide))]; exact hfo_504
                                    have hfo_516 : f_514 a_455 = .inr (10, [.ref a_473, .int v_474, .int v_475]) := by rw [ef_514, up_ne (kd_ne ka_466 ka_455 (by decide))]; exact hfo_505
                                    have hfo_517 : f_514 a_456 = .inr (8, [.ref a_495, .ref a_496, .ref a_497, .ref a_498, .ref a_499]) := by rw [ef_514, up_ne (kd_ne ka_466 ka_456 (by decide))]; exact hfo_506
                                    have hfr0 : ∀ b, kd b ≠ 1 → kd b ≠ 3 → kd b ≠ 10 → kd b ≠ 517 → kd b ≠ 518 → kd b ≠ 519 → kd b ≠ 520 → kd b ≠ 521 → kd b ≠ 522 → kd b ≠ 523 → kd b ≠ 524 → kd b ≠ 525 → kd b ≠ 526 → kd b ≠ 527 → f_514 b = f b := fun b q1 q3 q10 q517 q518 q519 q520 q521 q522 q523 q524 q525 q526 q527 => (congrFun ef_514 b).trans ((up_ne (fun e9 => q525 (by rw [e9]; exact ka_466))).trans (hfr0 b q1 q3 q10 q517 q518 q519 q520 q521 q522 q523 q524 q525 q526 q527))
                                    have hrr1_0 : ∀ b, kd b = 1 → fldR (f_514 b) 0 = fldR (f b) 0 := fun b kb => (congrArg (fun x => fldR x 0) ((congrFun ef_514 b).trans (up_ne (kd_ne ka_466 kb (by decide))))).trans (hrr1_0 b kb)
                                    have hrr1_1 : ∀ b, kd b = 1 → fldR (f_514 b) 1 = fldR (f b) 1 := fun b kb => (congrArg (fun x => fldR x 1) ((congrFun ef_514 b).trans (up_ne (kd_ne ka_466 kb (by decide))))).trans (hrr1_1 b kb)
                                    have hrr3_0 : ∀ b, kd b = 3 → fldR (f_514 b) 0 = fldR (f b) 0 := fun b kb => (congrArg (fun x => fldR x 0) ((congrFun ef_514 b).trans (up_ne (kd_ne ka_466 kb (by decide))))).trans (hrr3_0 b kb)
                                    have hrr3_3 : ∀ b, kd b = 3 → fldR (f_514 b) 3 = fldR (f b) 3 := fun b kb => (congrArg (fun x => fldR x 3) ((congrFun ef_514 b).trans (up_ne (kd_ne ka_466 kb (by decide))))).trans (hrr3_3 b kb)
                                    have hT0 : drel kd 1 521 522 f_514 a_5 := by rw [ef_514]; exact hT0.up ka_466 (by decide) (by decide) (by decide)
                                    have hfo_518 : f_514 a_466 = .inl (cI, 9, .inl (upd g_512 (Int32.toNatClampNeg p1) x_480)) := by rw [ef_514]; exact up_self
                                    refine lv_iload hx hb dX3_descend_267 (lv_at hl 3 rfl) ?_
                                    have hcut_520 : ∀ (y_519 : Int32), (0 ≤ y_519.toInt ∧ y_519.toInt ≤ 8) → ∀ (ls : Array Slot), lv_has ls 18 [(14, .int y_491), (13, .int y_489), (12, .int x_480), (11, .int y_477), (10, .int y_359), (9, .int y_320), (8, .int y_360), (7, .int x_23), (6, .int y_20), (0, .ref o0), (1, .int p1), (2, .int p2), (3, .int p3), (4, .int p4), (5, .int p5)] → W p l e (headSpec (wU yX3_descend cX3_descend 18 (some .boolean)) { frames := 3 + (n_ + 1), cells := 0, slots := 0, locals := 87 + (n_ + 1) * 37 }).room s m [.ref o0, .int p1, .int p2, .int p3, .int p4, .int p5].toArray below meth c H locs 0 0 (MQ below (va_Qi (fun (r : Int32) (f9 : Nat → va_E) => GI (okc cI cL cZ cR cG cH L kd) kd L f9 ∧ (0 ≤ r.toInt ∧ r.toInt ≤ 1) ∧ (∀ b, kd b ≠ 1 → kd b ≠ 3 → kd b ≠ 10 → kd b ≠ 517 → kd b ≠ 518 → kd b ≠ 519 → kd b ≠ 520 → kd b ≠ 521 → kd b ≠ 522 → kd b ≠ 523 → kd b ≠ 524 → kd b ≠ 525 → kd b ≠ 526 → kd b ≠ 527 → f9 b = f b) ∧ (∀ b, kd b = 1 → fldR (f9 b) 0 = fldR (f b) 0) ∧ (∀ b, kd b = 1 → fldR (f9 b) 1 = fldR (f b) 1) ∧ (∀ b, kd b = 3 → fldR (f9 b) 0 = fldR (f b) 0) ∧ (∀ b, kd b = 3 → fldR (f9 b) 3 = fldR (f b) 3) ∧ (∀ d9, fldR (f9 o0) 3 = some d9 → drel kd 1 521 522 f9 d9)) (qP (dC, dI) cI cL cZ cR cG cH L) (fun q => q ∈ L)) [.ref o0, .int p1, .int p2, .int p3, .int p4, .int p5].toArray s 0 0 (fun q => q ∈ L)) (F0 m 279 ls [.int y_519]) := by
                                      intro y_519 by_519 ls hl
                                      refine lv_istore (lv' := [(15, .int y_519), (14, .int y_491), (13, .int y_489), (12, .int x_480), (11, .int y_477), (10, .int y_359), (9, .int y_320), (8, .int y_360), (7, .int x_23), (6, .int y_20), (0, .ref o0), (1, .int p1), (2, .int p2), (3, .int p3), (4, .int p4), (5, .int p5)]) hx hb dX3_descend_279 hl (by decide) rfl (fun ls hl => ?_)
                                      refine lv_iload hx hb dX3_descend_281 (lv_at hl 2 rfl) ?_
                                      have hcut_522 : ∀ (y_521 : Int32), (0 ≤ y_521.toInt ∧ y_521.toInt ≤ 731794256) → ((y_489.toInt = 0 ∧ y_521.toInt = p4.toInt) ∨ (1 ≤ y_489.toInt ∧ capR y_521.toInt (p5.toInt + 1))) → ∀ (ls : Array Slot), lv_has ls 18 [(15, .int y_519), (14, .int y_491), (13, .int y_489), (12, .int x_480), (11, .int y_477), (10, .int y_359), (9, .int y_320), (8, .int y_360), (7, .int x_23), (6, .int y_20), (0, .ref o0), (1, .int p1), (2, .int p2), (3, .int p3), (4, .int p4), (5, .int p5)] → W p l e (headSpec (wU yX3_descend cX3_descend 18 (some .boolean)) { frames := 3 + (n_ + 1), cells := 0, slots := 0, locals := 87 + (n_ + 1) * 37 }).room s m [.ref o0, .int p1, .int p2, .int p3, .int p4, .int p5].toArray below meth c H locs 0 0 (MQ below (va_Qi (fun (r : Int32) (f9 : Nat → va_E) => GI (okc cI cL cZ cR cG cH L kd) kd L f9 ∧ (0 ≤ r.toInt ∧ r.toInt ≤ 1) ∧ (∀ b, kd b ≠ 1 → kd b ≠ 3 → kd b ≠ 10 → kd b ≠ 517 → kd b ≠ 518 → kd b ≠ 519 → kd b ≠ 520 → kd b ≠ 521 → kd b ≠ 522 → kd b ≠ 523 → kd b ≠ 524 → kd b ≠ 525 → kd b ≠ 526 → kd b ≠ 527 → f9 b = f b) ∧ (∀ b, kd b = 1 → fldR (f9 b) 0 = fldR (f b) 0) ∧ (∀ b, kd b = 1 → fldR (f9 b) 1 = fldR (f b) 1) ∧ (∀ b, kd b = 3 → fldR (f9 b) 0 = fldR (f b) 0) ∧ (∀ b, kd b = 3 → fldR (f9 b) 3 = fldR (f b) 3) ∧ (∀ d9, fldR (f9 o0) 3 = some d9 → drel kd 1 521 522 f9 d9)) (qP (dC, dI) cI cL cZ cR cG cH L) (fun q => q ∈ L)) [.ref o0, .int p1, .int p2, .int p3, .int p4, .int p5].toArray s 0 0 (fun q => q ∈ L)) (F0 m 303 ls [.int y_521]) := by
                                        intro y_521 by_521 hjhcut_522_0 ls hl
                                        refine lv_istore (lv' := [(16, .int y_521), (15, .int y_519), (14, .int y_491), (13, .int y_489), (12, .int x_480), (11, .int y_477), (10, .int y_359), (9, .int y_320), (8, .int y_360), (7, .int x_23), (6, .int y_20), (0, .ref o0), (1, .int p1), (2, .int p2), (3, .int p3), (4, .int p4), (5, .int p5)]) hx hb dX3_descend_303 hl (by decide) rfl (fun ls hl => ?_)
                                        refine lv_iload hx hb dX3_descend_305 (lv_at hl 3 rfl) ?_
                                        have hcut_524 : ∀ (y_523 : Int32), (0 ≤ y_523.toInt ∧ y_523.toInt ≤ 9) → ((y_489.toInt = 0 ∧ y_523.toInt = p5.toInt) ∨ (1 ≤ y_489.toInt ∧ y_523.toInt = p5.toInt + 1)) → ∀ (ls : Array Slot), lv_has ls 18 [(16, .int y_521), (15, .int y_519), (14, .int y_491), (13, .int y_489), (12, .int x_480), (11, .int y_477), (10, .int y_359), (9, .int y_320), (8, .int y_360), (7, .int x_23), (6, .int y_20), (0, .ref o0), (1, .int p1), (2, .int p2), (3, .int p3), (4, .int p4), (5, .int p5)] → W p l e (headSpec (wU yX3_descend cX3_descend 18 (some .boolean)) { frames := 3 + (n_ + 1), cells := 0, slots := 0, locals := 87 + (n_ + 1) * 37 }).room s m [.ref o0, .int p1, .int p2, .int p3, .int p4, .int p5].toArray below meth c H locs 0 0 (MQ below (va_Qi (fun (r : Int32) (f9 : Nat → va_E) => GI (okc cI cL cZ cR cG cH L kd) kd L f9 ∧ (0 ≤ r.toInt ∧ r.toInt ≤ 1) ∧ (∀ b, kd b ≠ 1 → kd b ≠ 3 → kd b ≠ 10 → kd b ≠ 517 → kd b ≠ 518 → kd b ≠ 519 → kd b ≠ 520 → kd b ≠ 521 → kd b ≠ 522 → kd b ≠ 523 → kd b ≠ 524 → kd b ≠ 525 → kd b ≠ 526 → kd b ≠ 527 → f9 b = f b) ∧ (∀ b, kd b = 1 → fldR (f9 b) 0 = fldR (f b) 0) ∧ (∀ b, kd b = 1 → fldR (f9 b) 1 = fldR (f b) 1) ∧ (∀ b, kd b = 3 → fldR (f9 b) 0 = fldR (f b) 0) ∧ (∀ b, kd b = 3 → fldR (f9 b) 3 = fldR (f b) 3) ∧ (∀ d9, fldR (f9 o0) 3 = some d9 → drel kd 1 521 522 f9 d9)) (qP (dC, dI) cI cL cZ cR cG cH L) (fun q => q ∈ L)) [.ref o0, .int p1, .int p2, .int p3, .int p4, .int p5].toArray s 0 0 (fun q => q ∈ L)) (F0 m 319 ls [.int y_523]) := by
                                          intro y_523 by_523 hjhcut_524_0 ls hl
                                          refine lv_istore (lv' := [(17, .int y_523), (16, .int y_521), (15, .int y_519), (14, .int y_491), (13, .int y_489), (12, .int x_480), (11, .int y_477), (10, .int y_359), (9, .int y_320), (8, .int y_360), (7, .int x_23), (6, .int y_20), (0, .ref o0), (1, .int p1), (2, .int p2), (3, .int p3), (4, .int p4), (5, .int p5)]) hx hb dX3_descend_319 hl (by decide) rfl (fun ls hl => ?_)
                                          refine lv_iload hx hb dX3_descend_321 (lv_at hl 9 rfl) ?_
                                          refine lv_aload_n hx hb dX3_descend_323 rfl (lv_at hl 12 rfl) ?_
                                          refine lv_iload_n hx hb dX3_descend_324 rfl (lv_at hl 13 rfl) ?_
                                          refine lv_iconst (v := 1) hx hb dX3_descend_325 (by decide) ?_
                                          refine lv_iadd hx hb dX3_descend_326 ?_
                                          refine lv_topi (fun x_525 ex_525 => ?_)
                                          have hx_525 : x_525.toInt = p1.toInt + 1 := by rw [ex_525, ad_I (by rw [ti_1]; omega) (by rw [ti_1]; omega), ti_1]
                                          have bx_525 : (1 ≤ x_525.toInt ∧ x_525.toInt ≤ 9) := by constructor <;> omega
                                          refine lv_iload hx hb dX3_descend_327 (lv_at hl 2 rfl) ?_
                                          refine lv_iload_n hx hb dX3_descend_329 rfl (lv_at hl 15 rfl) ?_
                                          refine lv_iload hx hb dX3_descend_330 (lv_at hl 3 rfl) ?_
                                          refine lv_isub hx hb dX3_descend_332 ?_
                                          refine lv_topi (fun x_526 ex_526 => ?_)
                                          have hx_526 : x_526.toInt = p3.toInt - y_491.toInt := by rw [ex_526, sb_I (by omega) (by omega)]
                                          have bx_526 : ((-1) ≤ x_526.toInt ∧ x_526.toInt ≤ 2147483647) := by constructor <;> omega
                                          refine lv_iload hx hb dX3_descend_333 (lv_at hl 1 rfl) ?_
                                          refine lv_iload hx hb dX3_descend_335 (lv_at hl 0 rfl) ?_
                                          have hccc_527 : (0 ≤ y_521.toInt ∧ y_521.toInt ≤ 387420488) := by have hq9 := hjhcut_522_0; unfold capR at hq9; constructor <;> omega
                                          refine tk_ViP (As := [.int x_525, .int y_519, .int x_526, .int y_521, .int y_523]) (rest := [.int y_360]) (n := 5) hx hb hml hown hU hN hZ (ih_rec f_514 hG o0 mo0 ko0 x_525 (by constructor <;> omega) y_519 (by constructor <;> omega) x_526 y_521 (by constructor <;> omega) y_523 (by constructor <;> omega) (by omega) (fun d9 h9 => by rw [hfo_515] at h9; obtain rfl := Option.some.inj h9; exact hT0) (by rcases hjhcut_522_0 with ⟨q1, q2⟩ | ⟨q1, q2⟩ <;> rcases hjhcut_524_0 with ⟨q3, q4⟩ | ⟨q3, q4⟩ <;> first | (exfalso; omega) | (rw [q2, q4]; exact hxpre0) | (rw [q4]; exact q2)) (by omega)) wd_762 wd_763 wd_764 wd_16 wd_765 (by decide +kernel) ⟨(show (3 + n_) + 1 ≤ 3 + (n_ + 1) by omega), (show 8 + (18 + 11) + (87 + n_ * 37) ≤ 87 + (n_ + 1) * 37 by omega)⟩ hK hP hD hS mo0 hfo_515 3 rfl rfl rfl hl.1 rfl (Nat.le_of_ble_eq_true rfl) dX3_descend_337 ⟨Nat.le_of_ble_eq_true rfl, Nat.le_of_ble_eq_true rfl⟩ (fun x_528 f_529 H locs hw hP hD hS => ?_)
                                          obtain ⟨hG, bx_528, hkc_530, hrc_531, hrc_532, hrc_533, hrc_534, hTc_535⟩ := hw
                                          have hfo_537 : f_529 a_456 = .inr (8, [.ref a_495, .ref a_496, .ref a_497, .ref a_498, .ref a_499]) := by rw [hkc_530 a_456 (by rw [ka_456]; decide) (by rw [ka_456]; decide) (by rw [ka_456]; decide) (by rw [ka_456]; decide) (by rw [ka_456]; decide) (by rw [ka_456]; decide) (by rw [ka_456]; decide) (by rw [ka_456]; decide) (by rw [ka_456]; decide) (by rw [ka_456]; decide) (by rw [ka_456]; decide) (by rw [ka_456]; decide) (by rw [ka_456]; decide) (by rw [ka_456]; decide)]; exact hfo_517
                                          have hfr0 : ∀ b, kd b ≠ 1 → kd b ≠ 3 → kd b ≠ 10 → kd b ≠ 517 → kd b ≠ 518 → kd b ≠ 519 → kd b ≠ 520 → kd b ≠ 521 → kd b ≠ 522 → kd b ≠ 523 → kd b ≠ 524 → kd b ≠ 525 → kd b ≠ 526 → kd b ≠ 527 → f_529 b = f b := fun b q1 q3 q10 q517 q518 q519 q520 q521 q522 q523 q524 q525 q526 q527 => (hkc_530 b q1 q3 q10 q517 q518 q519 q520 q521 q522 q523 q524 q525 q526 q527).trans (hfr0 b q1 q3 q10 q517 q518 q519 q520 q521 q522 q523 q524 q525 q526 q527)
                                          have hrr1_0 : ∀ b, kd b = 1 → fldR (f_529 b) 0 = fldR (f b) 0 := fun b kb => (hrc_531 b kb).trans (hrr1_0 b kb)
                                          have hrr1_1 : ∀ b, kd b = 1 → fldR (f_529 b) 1 = fldR (f b) 1 := fun b kb => (hrc_532 b kb).trans (hrr1_1 b kb)
                                          have hrr3_0 : ∀ b, kd b = 3 → fldR (f_529 b) 0 = fldR (f b) 0 := fun b kb => (hrc_533 b kb).trans (hrr3_0 b kb)
                                          have hrr3_3 : ∀ b, kd b = 3 → fldR (f_529 b) 3 = fldR (f b) 3 := fun b kb => (hrc_534 b kb).trans (hrr3_3 b kb)
                                          obtain ⟨a_539, a_540, a_541, a_542, a_543, v_544, v_545, v_546, v_547, v_548, v_549, v_550, a_551, a_552, a_553, v_554, a_555, a_556, hfo_538, ⟨ma_539, ka_539⟩, ⟨ma_540, ka_540⟩, ⟨ma_541, ka_541⟩, ⟨ma_542, ka_542⟩, ⟨ma_543, ka_543⟩, bv_544, bv_545, bv_546, ⟨ma_551, ka_551⟩, ⟨ma_552, ka_552⟩, ⟨ma_553, ka_553⟩, bv_554, ⟨ma_555, ka_555⟩, ⟨ma_556, ka_556⟩⟩ := un_3 (hG _ mo0) ko0
                                          have bv_547 : ((-2147483648) ≤ v_547.toInt ∧ v_547.toInt ≤ 2147483647) := ⟨i32_lo _, i32_hi _⟩
                                          have bv_548 : ((-2147483648) ≤ v_548.toInt ∧ v_548.toInt ≤ 2147483647) := ⟨i32_lo _, i32_hi _⟩
                                          have bv_549 : ((-2147483648) ≤ v_549.toInt ∧ v_549.toInt ≤ 2147483647) := ⟨i32_lo _, i32_hi _⟩
                                          have bv_550 : ((-2147483648) ≤ v_550.toInt ∧ v_550.toInt ≤ 2147483647) := ⟨i32_lo _, i32_hi _⟩
                                          obtain rfl : a_2 = a_539 := by have hk9 := hrr3_0 o0 ko0; rw [hfo_538, hfo_1] at hk9; exact (Option.some.inj hk9).symm
                                          obtain rfl : a_5 = a_542 := by have hk9 := hrr3_3 o0 ko0; rw [hfo_538, hfo_1] at hk9; exact (Option.some.inj hk9).symm
                                          have hT_557 := hTc_535 a_5 (by rw [hfo_538]; rfl)
                                          refine lv_ior hx hb dX3_descend_340 ?_
                                          refine lv_topi (fun x_558 ex_558 => ?_)
                                          have bx_558 : (0 ≤ x_558.toInt ∧ x_558.toInt ≤ 1) := by rw [ex_558]; exact or_K 1 (by decide) (by constructor <;> omega) (by constructor <;> omega)
                                          refine lv_istore (lv' := [(8, .int x_558), (17, .int y_523), (16, .int y_521), (15, .int y_519), (14, .int y_491), (13, .int y_489), (12, .int x_480), (11, .int y_477), (10, .int y_359), (9, .int y_320), (7, .int x_23), (6, .int y_20), (0, .ref o0), (1, .int p1), (2, .int p2), (3, .int p3), (4, .int p4), (5, .int p5)]) hx hb dX3_descend_341 hl (by decide) rfl (fun ls hl => ?_)
                                          exact hcut_486 x_558 (by constructor <;> omega) f_529 hG _ _ hP hS hD hfr0 hrr1_0 hrr1_1 hrr3_0 hrr3_3 hT_557 ls (lv_sub hl [6, 7, 8, 9, 0, 10, 11, 12, 13, 14, 15, 16, 17] rfl)
                                        refine lv_if_ne (tgt := 315) hx hb dX3_descend_307 (by decide) (fun c_559 => ?_) (fun c_559 => ?_)
                                        · skip
                                          rw [← Int32.toInt_inj, ti_0] at c_559
                                          refine lv_iload hx hb dX3_descend_315 (lv_at hl 16 rfl) ?_
                                          refine lv_iconst (v := 1) hx hb dX3_descend_317 (by decide) ?_
                                          refine lv_iadd hx hb dX3_descend_318 ?_
                                          refine lv_topi (fun x_560 ex_560 => ?_)
                                          have hx_560 : x_560.toInt = p5.toInt + 1 := by rw [ex_560, ad_I (by rw [ti_1]; omega) (by rw [ti_1]; omega), ti_1]
                                          have bx_560 : (1 ≤ x_560.toInt ∧ x_560.toInt ≤ 10) := by constructor <;> omega
                                          exact hcut_524 x_560 (by constructor <;> omega) (by omega) ls (lv_sub hl [0, 1, 2, 3, 4, 5, 6, 7, 8, 9, 10, 11, 12, 13, 14, 15, 16] rfl)
                                        · skip
                                          rw [← Int32.toInt_inj, ti_0] at c_559
                                          refine lv_iload hx hb dX3_descend_310 (lv_at hl 16 rfl) ?_
                                          refine lv_goto (tgt := 319) hx hb dX3_descend_312 (by decide) ?_
                                          exact hcut_524 p5 (by constructor <;> omega) (by omega) ls (lv_sub hl [0, 1, 2, 3, 4, 5, 6, 7, 8, 9, 10, 11, 12, 13, 14, 15, 16] rfl)
                                      refine lv_if_ne (tgt := 291) hx hb dX3_descend_283 (by decide) (fun c_561 => ?_) (fun c_561 => ?_)
                                      · skip
                                        rw [← Int32.toInt_inj, ti_0] at c_561
                                        refine lv_iload hx hb dX3_descend_291 (lv_at hl 14 rfl) ?_
                                        refine lv_iload hx hb dX3_descend_293 (lv_at hl 2 rfl) ?_
                                        have hclc_562 : (0 ≤ p5.toInt ∧ p5.toInt ≤ 8) := by constructor <;> omega
                                        refine va_gets hx hb hZ.2.2.1 hS hown (hU _ wd_769) (fun _ h9 => h9) dX3_descend_295 ?_
                                        refine lv_iload hx hb dX3_descend_298 (lv_at hl 15 rfl) ?_
                                        refine va_ti (v := zWt (Int32.toNatClampNeg p5)) hx hb hZ.2.2.2.1 hS (vp_in_iff.mpr (by constructor <;> omega)) rfl dX3_descend_300 ?_
                                        rw [zWt]
                                        refine lv_topi (fun x_563 ex_563 => ?_)
                                        have bx_563 : (1 ≤ x_563.toInt ∧ x_563.toInt ≤ 43046721) := by rw [ex_563]; exact zw_b (vp_in_iff.mpr (by constructor <;> omega))
                                        have htx_563 := zw_t ex_563 (vp_in_iff.mpr (by constructor <;> omega))
                                        refine lv_imul hx hb dX3_descend_301 ?_
                                        refine lv_topi (fun x_564 ex_564 => ?_)
                                        have bx_564 : (0 ≤ x_564.toInt ∧ x_564.toInt ≤ 344373768) := by rw [ex_564]; exact ml_B (a := 8) (b := 43046721) (by constructor <;> omega) (by constructor <;> omega) (by decide)
                                        have hm8 : 0 ≤ x_564.toInt ∧ x_564.toInt ≤ 8 * x_563.toInt := by rw [ex_564]; exact ml_8 (by constructor <;> omega) (by constructor <;> omega)
                                        have hcw : ∀ z : Int, z ≤ p4.toInt + x_564.toInt → capR z (p5.toInt + 1) := fun z hz => hxpre0.step htx_563 (by omega)
                                        clear htx_563
                                        refine lv_iadd hx hb dX3_descend_302 ?_
                                        refine lv_topi (fun x_565 ex_565 => ?_)
                                        have hx_565 : x_565.toInt = p4.toInt + x_564.toInt := by rw [ex_565, ad_I (by omega) (by omega)]
                                        have bx_565 : (0 ≤ x_565.toInt ∧ x_565.toInt ≤ 731794256) := by constructor <;> omega
                                        exact hcut_522 x_565 (by constructor <;> omega) (Or.inr ⟨by omega, hcw _ (by omega)⟩) ls (lv_sub hl [0, 1, 2, 3, 4, 5, 6, 7, 8, 9, 10, 11, 12, 13, 14, 15] rfl)
                                      · skip
                                        rw [← Int32.toInt_inj, ti_0] at c_561
                                        refine lv_iload hx hb dX3_descend_286 (lv_at hl 14 rfl) ?_
                                        refine lv_goto (tgt := 303) hx hb dX3_descend_288 (by decide) ?_
                                        exact hcut_522 p4 (by constructor <;> omega) (Or.inl ⟨by omega, rfl⟩) ls (lv_sub hl [0, 1, 2, 3, 4, 5, 6, 7, 8, 9, 10, 11, 12, 13, 14, 15] rfl)
                                    refine lv_if_ne (tgt := 276) hx hb dX3_descend_269 (by decide) (fun c_566 => ?_) (fun c_566 => ?_)
                                    · skip
                                      rw [← Int32.toInt_inj, ti_0] at c_566
                                      refine lv_iload_n hx hb dX3_descend_276 rfl (lv_at hl 11 rfl) ?_
                                      refine lv_iconst (v := 1) hx hb dX3_descend_277 (by decide) ?_
                                      refine lv_iadd hx hb dX3_descend_278 ?_
                                      refine lv_topi (fun x_567 ex_567 => ?_)
                                      have hx_567 : x_567.toInt = p2.toInt + 1 := by rw [ex_567, ad_I (by rw [ti_1]; omega) (by rw [ti_1]; omega), ti_1]
                                      have bx_567 : (1 ≤ x_567.toInt ∧ x_567.toInt ≤ 9) := by constructor <;> omega
                                      exact hcut_520 x_567 (by constructor <;> omega) ls (lv_sub hl [0, 1, 2, 3, 4, 5, 6, 7, 8, 9, 10, 11, 12, 13, 14] rfl)
                                    · skip
                                      rw [← Int32.toInt_inj, ti_0] at c_566
                                      refine lv_iload_n hx hb dX3_descend_272 rfl (lv_at hl 11 rfl) ?_
                                      refine lv_goto (tgt := 279) hx hb dX3_descend_273 (by decide) ?_
                                      exact hcut_520 p2 (by constructor <;> omega) ls (lv_sub hl [0, 1, 2, 3, 4, 5, 6, 7, 8, 9, 10, 11, 12, 13, 14] rfl)
                                  · skip
                                    rw [← Int32.toInt_inj, ti_0] at c_510
                                    refine lv_goto (tgt := 343) hx hb dX3_descend_256 (by decide) ?_
                                    exact hcut_486 y_360 (by constructor <;> omega) f_501 hG _ _ hP hS hD hfr0 hrr1_0 hrr1_1 hrr3_0 hrr3_3 hT0 ls (lv_sub hl [2, 3, 4, 5, 6, 7, 8, 9, 10, 11, 12, 13, 14] rfl)
                              refine lv_if_eq (tgt := 218) hx hb dX3_descend_210 (by decide) (fun c_568 => ?_) (fun c_568 => ?_)
                              · skip
                                rw [← Int32.toInt_inj, ti_0] at c_568
                                refine lv_iconst (v := 1) hx hb dX3_descend_218 (by decide) ?_
                                refine lv_goto (tgt := 223) hx hb dX3_descend_219 (by decide) ?_
                                exact hcut_492 1 (by decide) ls (lv_sub hl [0, 1, 2, 3, 4, 5, 6, 7, 8, 9, 10, 11, 12, 13] rfl)
                              · skip
                                rw [← Int32.toInt_inj, ti_0] at c_568
                                refine lv_iload hx hb dX3_descend_213 (lv_at hl 0 rfl) ?_
                                refine lv_if_ne (tgt := 222) hx hb dX3_descend_215 (by decide) (fun c_569 => ?_) (fun c_569 => ?_)
                                · skip
                                  rw [← Int32.toInt_inj, ti_0] at c_569
                                  refine lv_iconst (v := 0) hx hb dX3_descend_222 (by decide) ?_
                                  exact hcut_492 0 (by decide) ls (lv_sub hl [0, 1, 2, 3, 4, 5, 6, 7, 8, 9, 10, 11, 12, 13] rfl)
                                · skip
                                  rw [← Int32.toInt_inj, ti_0] at c_569
                                  refine lv_iconst (v := 1) hx hb dX3_descend_218 (by decide) ?_
                                  refine lv_goto (tgt := 223) hx hb dX3_descend_219 (by decide) ?_
                                  exact hcut_492 1 (by decide) ls (lv_sub hl [0, 1, 2, 3, 4, 5, 6, 7, 8, 9, 10, 11, 12, 13] rfl)
                            refine lv_if_eq (tgt := 196) hx hb dX3_descend_180 (by decide) (fun c_570 => ?_) (fun c_570 => ?_)
                            · skip
                              rw [← Int32.toInt_inj, ti_0] at c_570
                              refine lv_aload_n hx hb dX3_descend_196 rfl (lv_at hl 7 rfl) ?_
                              refine tk_getP (D := (dC, dI)) (ci := 3) (v := .ref a_2) (C := RX3) (T := TX3) (N := 18) hx hb hU inlX3 hown hK hP mo0 hfo_453 rfl 0 (by decide) (hU _ wd_48) (fun _ h9 => h9) rfl dX3_descend_197 ?_
                              obtain ⟨a_572, v_573, a_574, a_575, a_576, a_577, v_578, a_579, a_580, a_581, a_582, a_583, v_584, a_585, a_586, a_587, hfo_571, ⟨ma_572, ka_572⟩, bv_573, ⟨ma_574, ka_574⟩, ⟨ma_575, ka_575⟩, ⟨ma_576, ka_576⟩, ⟨ma_577, ka_577⟩, bv_578, ⟨ma_579, ka_579⟩, ⟨ma_580, ka_580⟩, ⟨ma_581, ka_581⟩, ⟨ma_582, ka_582⟩, ⟨ma_583, ka_583⟩, bv_584, ⟨ma_585, ka_585⟩, ⟨ma_586, ka_586⟩, ⟨ma_587, ka_587⟩⟩ := un_7 (hG _ ma_2) ka_2
                              refine tk_getP (D := (dC, dI)) (ci := 7) (v := .ref a_576) (C := RX7) (T := TX7) (N := 16) hx hb hU inlX7 hown hK hP ma_2 hfo_571 rfl 4 (by decide) (hU _ wd_768) (fun _ h9 => h9) rfl dX3_descend_200 ?_
                              refine lv_iload hx hb dX3_descend_203 (lv_at hl 0 rfl) ?_
                              obtain ⟨g_589, hfo_588, hbg_589⟩ := un_511 (hG _ ma_576) ka_576
                              refine tk_ildP hx hb hK hP 0 ma_576 hfo_588 rfl (vp_in_iff.mpr (by constructor <;> omega)) dX3_descend_205 ?_
                              refine lv_topi (fun x_590 ex_590 => ?_)
                              have bx_590 : (0 ≤ x_590.toInt ∧ x_590.toInt ≤ 8) := by rw [ex_590]; exact hbg_589 _
                              exact hcut_490 x_590 (by constructor <;> omega) ls (lv_sub hl [0, 1, 2, 3, 4, 5, 6, 7, 8, 9, 10, 11, 12] rfl)
                            · skip
                              rw [← Int32.toInt_inj, ti_0] at c_570
                              refine lv_aload_n hx hb dX3_descend_183 rfl (lv_at hl 7 rfl) ?_
                              refine tk_getP (D := (dC, dI)) (ci := 3) (v := .ref a_2) (C := RX3) (T := TX3) (N := 18) hx hb hU inlX3 hown hK hP mo0 hfo_453 rfl 0 (by decide) (hU _ wd_48) (fun _ h9 => h9) rfl dX3_descend_184 ?_
                              obtain ⟨a_592, v_593, a_594, a_595, a_596, a_597, v_598, a_599, a_600, a_601, a_602, a_603, v_604, a_605, a_606, a_607, hfo_591, ⟨ma_592, ka_592⟩, bv_593, ⟨ma_594, ka_594⟩, ⟨ma_595, ka_595⟩, ⟨ma_596, ka_596⟩, ⟨ma_597, ka_597⟩, bv_598, ⟨ma_599, ka_599⟩, ⟨ma_600, ka_600⟩, ⟨ma_601, ka_601⟩, ⟨ma_602, ka_602⟩, ⟨ma_603, ka_603⟩, bv_604, ⟨ma_605, ka_605⟩, ⟨ma_606, ka_606⟩, ⟨ma_607, ka_607⟩⟩ := un_7 (hG _ ma_2) ka_2
                              refine tk_getP (D := (dC, dI)) (ci := 7) (v := .ref a_597) (C := RX7) (T := TX7) (N := 16) hx hb hU inlX7 hown hK hP ma_2 hfo_591 rfl 5 (by decide) (hU _ wd_767) (fun _ h9 => h9) rfl dX3_descend_187 ?_
                              refine lv_iload hx hb dX3_descend_190 (lv_at hl 0 rfl) ?_
                              obtain ⟨g_609, hfo_608, hbg_609⟩ := un_511 (hG _ ma_597) ka_597
                              refine tk_ildP hx hb hK hP 0 ma_597 hfo_608 rfl (vp_in_iff.mpr (by constructor <;> omega)) dX3_descend_192 ?_
                              refine lv_topi (fun x_610 ex_610 => ?_)
                              have bx_610 : (0 ≤ x_610.toInt ∧ x_610.toInt ≤ 8) := by rw [ex_610]; exact hbg_609 _
                              refine lv_goto (tgt := 206) hx hb dX3_descend_193 (by decide) ?_
                              exact hcut_490 x_610 (by constructor <;> omega) ls (lv_sub hl [0, 1, 2, 3, 4, 5, 6, 7, 8, 9, 10, 11, 12] rfl)
                          · skip
                            rw [← Int32.toInt_inj, ti_m1] at c_488
                            refine lv_goto (tgt := 343) hx hb dX3_descend_173 (by decide) ?_
                            exact hcut_486 y_360 (by constructor <;> omega) f_362 hG _ _ hP hS hD hfr0 hrr1_0 hrr1_1 hrr3_0 hrr3_3 hT0 ls (lv_sub hl [0, 1, 2, 3, 4, 5, 6, 7, 8, 9, 10, 11, 12] rfl)
                        refine lv_icmp_ge (tgt := 152) hx hb dX3_descend_140 (by decide) (fun c_611 => ?_) (fun c_611 => ?_)
                        · skip
                          rw [Int32.le_iff_toInt_le, ti_4] at c_611
                          refine lv_iconst (v := 0) hx hb dX3_descend_152 (by decide) ?_
                          exact hcut_478 0 (by decide) (by (try rw [ti_0]) <;> omega) ls (lv_sub hl [0, 1, 2, 3, 4, 5, 6, 7, 8, 9, 10] rfl)
                        · skip
                          rw [Int32.le_iff_toInt_le, ti_4] at c_611
                          refine lv_aload_n hx hb dX3_descend_143 rfl (lv_at hl 5 rfl) ?_
                          refine tk_getP (D := (dC, dI)) (ci := 3) (v := .ref a_458) (C := RX3) (T := TX3) (N := 18) hx hb hU inlX3 hown hK hP mo0 hfo_453 rfl 4 (by decide) (hU _ wd_61) (fun _ h9 => h9) rfl dX3_descend_144 ?_
                          refine lv_iload_n hx hb dX3_descend_147 rfl (lv_at hl 7 rfl) ?_
                          obtain ⟨g_613, hfo_612, hbg_613⟩ := un_507 (hG _ ma_458) ka_458
                          refine tk_ildP hx hb hK hP 0 ma_458 hfo_612 rfl (vp_in_iff.mpr (by constructor <;> omega)) dX3_descend_148 ?_
                          refine lv_topi (fun x_614 ex_614 => ?_)
                          have bx_614 : (0 ≤ x_614.toInt ∧ x_614.toInt ≤ 8) := by rw [ex_614]; exact hbg_613 _
                          refine lv_goto (tgt := 153) hx hb dX3_descend_149 (by decide) ?_
                          exact hcut_478 x_614 (by constructor <;> omega) (by omega) ls (lv_sub hl [0, 1, 2, 3, 4, 5, 6, 7, 8, 9, 10] rfl)
                exact hloop_358 9 y_341 (by constructor <;> omega) y_315 (by constructor <;> omega) f_317 hG _ _ hP hS hD hfr0 hrr1_0 hrr1_1 hrr3_0 hrr3_3 hT0 (by omega) (by omega) ls hl
              refine lv_icmp_ge (tgt := 117) hx hb dX3_descend_110 (by decide) (fun c_615 => ?_) (fun c_615 => ?_)
              · skip
                rw [Int32.le_iff_toInt_le] at c_615
                refine lv_iconst (v := 4) hx hb dX3_descend_117 (by decide) ?_
                exact hcut_342 4 (by decide) (by (try rw [ti_4]) <;> omega) ls (lv_sub hl [0, 1, 2, 3, 4, 5, 6, 7, 8, 9] rfl)
              · skip
                rw [Int32.le_iff_toInt_le] at c_615
                refine lv_iconst (v := 0) hx hb dX3_descend_113 (by decide) ?_
                refine lv_goto (tgt := 118) hx hb dX3_descend_114 (by decide) ?_
                exact hcut_342 0 (by decide) (by (try rw [ti_0]) <;> omega) ls (lv_sub hl [0, 1, 2, 3, 4, 5, 6, 7, 8, 9] rfl)
            refine lv_icmp_ge (tgt := 102) hx hb dX3_descend_94 (by decide) (fun c_616 => ?_) (fun c_616 => ?_)
            · skip
              rw [Int32.le_iff_toInt_le, ti_9] at c_616
              refine lv_iconst (v := 0) hx hb dX3_descend_102 (by decide) ?_
              exact hcut_321 0 (by decide) (by (try rw [ti_0]) <;> omega) ls (lv_sub hl [0, 1, 2, 3, 4, 5, 6, 7, 8] rfl)
            · skip
              rw [Int32.le_iff_toInt_le, ti_9] at c_616
              refine lv_bipush (v := 8) hx hb dX3_descend_97 (by decide) ?_
              refine lv_goto (tgt := 103) hx hb dX3_descend_99 (by decide) ?_
              exact hcut_321 8 (by decide) (by (try rw [ti_8]) <;> omega) ls (lv_sub hl [0, 1, 2, 3, 4, 5, 6, 7, 8] rfl)
          refine lv_icmp_ne (tgt := 88) hx hb dX3_descend_71 (by decide) (fun c_617 => ?_) (fun c_617 => ?_)
          · skip
            rw [← Int32.toInt_inj] at c_617
            refine lv_iconst (v := 0) hx hb dX3_descend_88 (by decide) ?_
            exact hcut_319 0 (by decide) f_297 hG _ _ hP hS hD hfr0 hrr1_0 hrr1_1 hrr3_0 hrr3_3 hfo_304 hT0 ls (lv_sub hl [0, 1, 2, 3, 4, 5, 6, 7] rfl)
          · skip
            rw [← Int32.toInt_inj] at c_617
            refine lv_aload_n hx hb dX3_descend_74 rfl (lv_at hl 2 rfl) ?_
            refine lv_iload_n hx hb dX3_descend_75 rfl (lv_at hl 3 rfl) ?_
            refine lv_iload hx hb dX3_descend_76 (lv_at hl 6 rfl) ?_
            refine tk_ViP (As := [.int p1, .int p4]) (rest := []) (n := 2) hx hb hml hown hU hN hZ (s_X3_complete_k3 l (dC, dI) cI cL cZ cR cG cH Z kd L f_297 hG o0 mo0 ko0 p1 (by constructor <;> omega) p4 (by constructor <;> omega) (fun d9 h9 => by rw [hfo_303] at h9; obtain rfl := Option.some.inj h9; exact hT0)) wd_792 wd_793 wd_794 wd_16 wd_795 (by decide +kernel) ⟨(show 2 + 1 ≤ 3 + (n_ + 1) by omega), (show 8 + (4 + 11) + 64 ≤ 87 + (n_ + 1) * 37 by omega)⟩ hK hP hD hS mo0 hfo_303 3 rfl rfl rfl hl.1 rfl (Nat.le_of_ble_eq_true rfl) dX3_descend_78 ⟨Nat.le_of_ble_eq_true rfl, Nat.le_of_ble_eq_true rfl⟩ (fun x_618 f_619 H locs hw hP hD hS => ?_)
            obtain ⟨hG, bx_618, hkc_620, hrc_621, hrc_622, hTc_623⟩ := hw
            have hfo_625 : f_619 a_5 = .inr (1, [.ref a_290, .ref a_291, .ref a_307, .int v_308, .int v_309, .int v_295]) := by rw [hkc_620 a_5 (by rw [ka_5]; decide) (by rw [ka_5]; decide) (by rw [ka_5]; decide) (by rw [ka_5]; decide) (by rw [ka_5]; decide)]; exact hfo_304
            have hfr0 : ∀ b, kd b ≠ 1 → kd b ≠ 3 → kd b ≠ 10 → kd b ≠ 517 → kd b ≠ 518 → kd b ≠ 519 → kd b ≠ 520 → kd b ≠ 521 → kd b ≠ 522 → kd b ≠ 523 → kd b ≠ 524 → kd b ≠ 525 → kd b ≠ 526 → kd b ≠ 527 → f_619 b = f b := fun b q1 q3 q10 q517 q518 q519 q520 q521 q522 q523 q524 q525 q526 q527 => (hkc_620 b q3 q10 q524 q526 q527).trans (hfr0 b q1 q3 q10 q517 q518 q519 q520 q521 q522 q523 q524 q525 q526 q527)
            have hrr1_0 : ∀ b, kd b = 1 → fldR (f_619 b) 0 = fldR (f b) 0 := fun b kb => (congrArg (fun x => fldR x 0) (hkc_620 b (by rw [kb]; decide) (by rw [kb]; decide) (by rw [kb]; decide) (by rw [kb]; decide) (by rw [kb]; decide))).trans (hrr1_0 b kb)
            have hrr1_1 : ∀ b, kd b = 1 → fldR (f_619 b) 1 = fldR (f b) 1 := fun b kb => (congrArg (fun x => fldR x 1) (hkc_620 b (by rw [kb]; decide) (by rw [kb]; decide) (by rw [kb]; decide) (by rw [kb]; decide) (by rw [kb]; decide))).trans (hrr1_1 b kb)
            have hrr3_0 : ∀ b, kd b = 3 → fldR (f_619 b) 0 = fldR (f b) 0 := fun b kb => (hrc_621 b kb).trans (hrr3_0 b kb)
            have hrr3_3 : ∀ b, kd b = 3 → fldR (f_619 b) 3 = fldR (f b) 3 := fun b kb => (hrc_622 b kb).trans (hrr3_3 b kb)
            have hT0 : drel kd 1 521 522 f_619 a_5 := hT0.keep (fun b q => congrArg (fun x => fldI x 5) (hkc_620 b (by rw [q]; decide) (by rw [q]; decide) (by rw [q]; decide) (by rw [q]; decide) (by rw [q]; decide))) (fun b q => congrArg (fun x => fldR x 0) (hkc_620 b (by rw [q]; decide) (by rw [q]; decide) (by rw [q]; decide) (by rw [q]; decide) (by rw [q]; decide))) (fun b q => congrArg (fun x => fldR x 1) (hkc_620 b (by rw [q]; decide) (by rw [q]; decide) (by rw [q]; decide) (by rw [q]; decide) (by rw [q]; decide))) (fun b q => hkc_620 b (by rw [q]; decide) (by rw [q]; decide) (by rw [q]; decide) (by rw [q]; decide) (by rw [q]; decide)) (fun b q => hkc_620 b (by rw [q]; decide) (by rw [q]; decide) (by rw [q]; decide) (by rw [q]; decide) (by rw [q]; decide))
            obtain ⟨a_627, a_628, a_629, a_630, a_631, v_632, v_633, v_634, v_635, v_636, v_637, v_638, a_639, a_640, a_641, v_642, a_643, a_644, hfo_626, ⟨ma_627, ka_627⟩, ⟨ma_628, ka_628⟩, ⟨ma_629, ka_629⟩, ⟨ma_630, ka_630⟩, ⟨ma_631, ka_631⟩, bv_632, bv_633, bv_634, ⟨ma_639, ka_639⟩, ⟨ma_640, ka_640⟩, ⟨ma_641, ka_641⟩, bv_642, ⟨ma_643, ka_643⟩, ⟨ma_644, ka_644⟩⟩ := un_3 (hG _ mo0) ko0
            have bv_635 : ((-2147483648) ≤ v_635.toInt ∧ v_635.toInt ≤ 2147483647) := ⟨i32_lo _, i32_hi _⟩
            have bv_636 : ((-2147483648) ≤ v_636.toInt ∧ v_636.toInt ≤ 2147483647) := ⟨i32_lo _, i32_hi _⟩
            have bv_637 : ((-2147483648) ≤ v_637.toInt ∧ v_637.toInt ≤ 2147483647) := ⟨i32_lo _, i32_hi _⟩
            have bv_638 : ((-2147483648) ≤ v_638.toInt ∧ v_638.toInt ≤ 2147483647) := ⟨i32_lo _, i32_hi _⟩
            obtain rfl : a_2 = a_627 := by have hk9 := hrr3_0 o0 ko0; rw [hfo_626, hfo_1] at hk9; exact (Option.some.inj hk9).symm
            obtain rfl : a_5 = a_630 := by have hk9 := hrr3_3 o0 ko0; rw [hfo_626, hfo_1] at hk9; exact (Option.some.inj hk9).symm
            have hT_645 := hTc_623 a_5 (by rw [hfo_626]; rfl)
            refine lv_if_eq (tgt := 88) hx hb dX3_descend_81 (by decide) (fun c_646 => ?_) (fun c_646 => ?_)
            · skip
              rw [← Int32.toInt_inj, ti_0] at c_646
              refine lv_iconst (v := 0) hx hb dX3_descend_88 (by decide) ?_
              exact hcut_319 0 (by decide) f_619 hG _ _ hP hS hD hfr0 hrr1_0 hrr1_1 hrr3_0 hrr3_3 hfo_625 hT_645 ls (lv_sub hl [0, 1, 2, 3, 4, 5, 6, 7] rfl)
            · skip
              rw [← Int32.toInt_inj, ti_0] at c_646
              refine lv_iconst (v := 1) hx hb dX3_descend_84 (by decide) ?_
              refine lv_goto (tgt := 89) hx hb dX3_descend_85 (by decide) ?_
              exact hcut_319 1 (by decide) f_619 hG _ _ hP hS hD hfr0 hrr1_0 hrr1_1 hrr3_0 hrr3_3 hfo_625 hT_645 ls (lv_sub hl [0, 1, 2, 3, 4, 5, 6, 7] rfl)
        · skip
          rw [← Int32.toInt_inj, ti_0] at c_314
          refine lv_iconst (v := 0) hx hb dX3_descend_64 (by decide) ?_
          exact W.zret (v := 0) (ty := .boolean) hx hb hr rfl (fun t ht hW => ⟨⟨0, f_297, rfl, ⟨hG, (by decide), hfr0, hrr1_0, hrr1_1, hrr3_0, hrr3_3, (fun d9 h9 => by rw [hfo_303] at h9; obtain rfl := Option.some.inj h9; exact hT0)⟩, by rw [ht]; exact hP, va_K.moved hW.alike hK, pl_in hD⟩, hS.F ht⟩) hS.2.2 dX3_descend_65
    refine lv_if_eq (tgt := 21) hx hb dX3_descend_4 (by decide) (fun c_647 => ?_) (fun c_647 => ?_)
    · skip
      rw [← Int32.toInt_inj, ti_0] at c_647
      refine lv_iconst (v := 0) hx hb dX3_descend_21 (by decide) ?_
      exact hcut_21 0 (by decide) ls (lv_sub hl [0, 1, 2, 3, 4, 5] rfl)
    · skip
      rw [← Int32.toInt_inj, ti_0] at c_647
      refine lv_aload_n hx hb dX3_descend_7 rfl (lv_at hl 0 rfl) ?_
      refine tk_getP (D := (dC, dI)) (ci := 3) (v := .int v_7) (C := RX3) (T := TX3) (N := 18) hx hb hU inlX3 hown hK hP mo0 hfo_1 rfl 5 (by decide) (hU _ wd_726) (fun _ h9 => h9) rfl dX3_descend_8 ?_
      refine lv_iload_n hx hb dX3_descend_11 rfl (lv_at hl 2 rfl) ?_
      refine lv_isub hx hb dX3_descend_12 ?_
      refine lv_topi (fun x_648 ex_648 => ?_)
      have hx_648 : x_648.toInt = v_7.toInt - p2.toInt := by rw [ex_648, sb_I (by omega) (by omega)]
      have bx_648 : ((-8) ≤ x_648.toInt ∧ x_648.toInt ≤ 8) := by constructor <;> omega
      refine lv_iconst (v := 2) hx hb dX3_descend_13 (by decide) ?_
      refine lv_icmp_lt (tgt := 21) hx hb dX3_descend_14 (by decide) (fun c_649 => ?_) (fun c_649 => ?_)
      · skip
        rw [Int32.lt_iff_toInt_lt, ti_2] at c_649
        refine lv_iconst (v := 0) hx hb dX3_descend_21 (by decide) ?_
        exact hcut_21 0 (by decide) ls (lv_sub hl [0, 1, 2, 3, 4, 5] rfl)
      · skip
        rw [Int32.lt_iff_toInt_lt, ti_2] at c_649
        refine lv_iconst (v := 1) hx hb dX3_descend_17 (by decide) ?_
        refine lv_goto (tgt := 22) hx hb dX3_descend_18 (by decide) ?_
        exact hcut_21 1 (by decide) ls (lv_sub hl [0, 1, 2, 3, 4, 5] rfl)
