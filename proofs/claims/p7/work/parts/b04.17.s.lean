set_option maxHeartbeats 8000000 in
set_option maxRecDepth 100000 in
theorem s_X3_descend_k3_c3 (l : Launch) (D : va_G) (cI cL cZ cR cG cH : ClassId) (Z : zT) (kd : Nat → Nat) (L : List Nat) (f : Nat → va_E) (hG : GI (okc cI cL cZ cR cG cH L kd) kd L f) (o0 : Nat) (mo0 : o0 ∈ L) (ko0 : kd o0 = 3) (p2 : Int32) (bp2 : (0 ≤ p2.toInt ∧ p2.toInt ≤ 8)) (p3 : Int32) (p4 : Int32) (bp4 : (0 ≤ p4.toInt ∧ p4.toInt ≤ 387420488)) (p5 : Int32) (bp5 : (0 ≤ p5.toInt ∧ p5.toInt ≤ 3)) (hxrel : ((p5.toInt = 0 ∧ p4.toInt ≤ 0) ∨ (p5.toInt = 1 ∧ p4.toInt ≤ 344373768) ∨ (p5.toInt = 2 ∧ p4.toInt ≤ 382637520) ∨ (p5.toInt = 3 ∧ p4.toInt ≤ 386889048))) (hxtr0 : ∀ d9, fldR (f o0) 3 = some d9 → drel kd 1 521 522 f d9) : mPI l D cI cL cZ cR cG cH Z yX3_descend cX3_descend 18 (some .boolean) 9 309 [.ref o0, .int 3, .int p2, .int p3, .int p4, .int p5] L f (fun (r : Int32) (f9 : Nat → va_E) => GI (okc cI cL cZ cR cG cH L kd) kd L f9 ∧ (0 ≤ r.toInt ∧ r.toInt ≤ 1) ∧ (∀ b, kd b ≠ 1 → kd b ≠ 3 → kd b ≠ 10 → kd b ≠ 517 → kd b ≠ 518 → kd b ≠ 519 → kd b ≠ 520 → kd b ≠ 521 → kd b ≠ 522 → kd b ≠ 523 → kd b ≠ 524 → kd b ≠ 525 → kd b ≠ 526 → kd b ≠ 527 → f9 b = f b) ∧ (∀ b, kd b = 1 → fldR (f9 b) 0 = fldR (f b) 0) ∧ (∀ b, kd b = 1 → fldR (f9 b) 1 = fldR (f b) 1) ∧ (∀ b, kd b = 3 → fldR (f9 b) 0 = fldR (f b) 0) ∧ (∀ b, kd b = 3 → fldR (f9 b) 3 = fldR (f b) 3) ∧ (∀ d9, fldR (f9 o0) 3 = some d9 → drel kd 1 521 522 f9 d9)) := by
  obtain ⟨dC, dI⟩ := D
  refine Met.ofW (cc := cX3_descend) (maxL := 18) (ret := (some .boolean)) (by decide) rfl ?_
  intro p e s m args below meth c s₁ B hml hv
  obtain ⟨rfl, hP, hK, hD0, hN, hZ⟩ := hv
  have hx := B.exec
  have hb := B.bytes
  have hr := B.returns
  have hU : ∀ w ∈ wsU, w.before _ s = true := fun w h => atoms_spec (ws := wU yX3_descend cX3_descend 18 (some .boolean)) B.pre w (List.mem_cons_of_mem _ h)
  have hown : s.vm.findClass RX3 = some m.cls := findClass_of_methodNamed B.named
  have hlocks := B.notSynchronized
  have hD := pl_in hD0
  have hS : va_S (fun q => q ∈ L) s.heap s.heap [] := va_S.rf
  have hl := lv_entry ([.ref o0, .int 3, .int p2, .int p3, .int p4, .int p5]) (n := 18) (Nat.le_of_ble_eq_true rfl)
  rw [lg_entry_eq]
  generalize (lg_sl ([.ref o0, .int 3, .int p2, .int p3, .int p4, .int p5]) ++ List.replicate (18 - (lg_sl ([.ref o0, .int 3, .int p2, .int p3, .int p4, .int p5])).length) Slot.unset).toArray = ls at hl ⊢
  have hl : lv_has ls 18 [(0, .ref o0), (1, .int 3), (2, .int p2), (3, .int p3), (4, .int p4), (5, .int p5)] := hl
  have bp3 : ((-2147483648) ≤ p3.toInt ∧ p3.toInt ≤ 2147483647) := ⟨i32_lo _, i32_hi _⟩
  have hfr0 : ∀ b, kd b ≠ 1 → kd b ≠ 3 → kd b ≠ 10 → kd b ≠ 517 → kd b ≠ 518 → kd b ≠ 519 → kd b ≠ 520 → kd b ≠ 521 → kd b ≠ 522 → kd b ≠ 523 → kd b ≠ 524 → kd b ≠ 525 → kd b ≠ 526 → kd b ≠ 527 → f b = f b := fun _ _ _ _ _ _ _ _ _ _ _ _ _ _ _ => rfl
  have hrr1_0 : ∀ b, kd b = 1 → fldR (f b) 0 = fldR (f b) 0 := fun _ _ => rfl
  have hrr1_1 : ∀ b, kd b = 1 → fldR (f b) 1 = fldR (f b) 1 := fun _ _ => rfl
  have hrr3_0 : ∀ b, kd b = 3 → fldR (f b) 0 = fldR (f b) 0 := fun _ _ => rfl
  have hrr3_3 : ∀ b, kd b = 3 → fldR (f b) 3 = fldR (f b) 3 := fun _ _ => rfl
  obtain ⟨a_2, a_3, a_4, a_5, a_6, v_7, v_8, v_9, v_10, v_11, v_12, v_13, a_14, a_15, a_16, v_17, a_18, a_19, hfo_1, ⟨ma_2, ka_2⟩, ⟨ma_3, ka_3⟩, ⟨ma_4, ka_4⟩, ⟨ma_5, ka_5⟩, ⟨ma_6, ka_6⟩, bv_7, bv_8, bv_9, ⟨ma_14, ka_14⟩, ⟨ma_15, ka_15⟩, ⟨ma_16, ka_16⟩, bv_17, ⟨ma_18, ka_18⟩, ⟨ma_19, ka_19⟩⟩ := un_3 (hG _ mo0) ko0
  have bv_10 : ((-2147483648) ≤ v_10.toInt ∧ v_10.toInt ≤ 2147483647) := ⟨i32_lo _, i32_hi _⟩
  have bv_11 : ((-2147483648) ≤ v_11.toInt ∧ v_11.toInt ≤ 2147483647) := ⟨i32_lo _, i32_hi _⟩
  have bv_12 : ((-2147483648) ≤ v_12.toInt ∧ v_12.toInt ≤ 2147483647) := ⟨i32_lo _, i32_hi _⟩
  have bv_13 : ((-2147483648) ≤ v_13.toInt ∧ v_13.toInt ≤ 2147483647) := ⟨i32_lo _, i32_hi _⟩
  have hT0 := hxtr0 a_5 (by rw [hfo_1]; rfl)
  refine lv_aload_n hx hb dX3_descend_0 rfl (lv_at hl 0 rfl) ?_
  refine tk_getP (D := (dC, dI)) (ci := 3) (v := .int v_9) (C := RX3) (T := TX3) (N := 18) hx hb hU inlX3 hown hK hP mo0 hfo_1 rfl 7 (by decide) (hU _ wd_733) (fun _ h9 => h9) rfl dX3_descend_1 ?_
  have hcut_21 : ∀ (y_20 : Int32), (0 ≤ y_20.toInt ∧ y_20.toInt ≤ 1) → ∀ (ls : Array Slot), lv_has ls 18 [(0, .ref o0), (1, .int 3), (2, .int p2), (3, .int p3), (4, .int p4), (5, .int p5)] → W p l e (headSpec (wU yX3_descend cX3_descend 18 (some .boolean)) { frames := 9, cells := 0, slots := 0, locals := 309 }).room s m [.ref o0, .int 3, .int p2, .int p3, .int p4, .int p5].toArray below meth c s.heap [] 0 0 (MQ below (va_Qi (fun (r : Int32) (f9 : Nat → va_E) => GI (okc cI cL cZ cR cG cH L kd) kd L f9 ∧ (0 ≤ r.toInt ∧ r.toInt ≤ 1) ∧ (∀ b, kd b ≠ 1 → kd b ≠ 3 → kd b ≠ 10 → kd b ≠ 517 → kd b ≠ 518 → kd b ≠ 519 → kd b ≠ 520 → kd b ≠ 521 → kd b ≠ 522 → kd b ≠ 523 → kd b ≠ 524 → kd b ≠ 525 → kd b ≠ 526 → kd b ≠ 527 → f9 b = f b) ∧ (∀ b, kd b = 1 → fldR (f9 b) 0 = fldR (f b) 0) ∧ (∀ b, kd b = 1 → fldR (f9 b) 1 = fldR (f b) 1) ∧ (∀ b, kd b = 3 → fldR (f9 b) 0 = fldR (f b) 0) ∧ (∀ b, kd b = 3 → fldR (f9 b) 3 = fldR (f b) 3) ∧ (∀ d9, fldR (f9 o0) 3 = some d9 → drel kd 1 521 522 f9 d9)) (qP (dC, dI) cI cL cZ cR cG cH L) (fun q => q ∈ L)) [.ref o0, .int 3, .int p2, .int p3, .int p4, .int p5].toArray s 0 0 (fun q => q ∈ L)) (F0 m 22 ls [.int y_20]) := by
    intro y_20 by_20 ls hl
    refine lv_istore (lv' := [(6, .int y_20), (0, .ref o0), (1, .int 3), (2, .int p2), (3, .int p3), (4, .int p4), (5, .int p5)]) hx hb dX3_descend_22 hl (by decide) rfl (fun ls hl => ?_)
    refine lv_iload_n hx hb dX3_descend_24 rfl (lv_at hl 3 rfl) ?_
    refine lv_iconst (v := 2) hx hb dX3_descend_25 (by decide) ?_
    refine lv_imul hx hb dX3_descend_26 ?_
    refine lv_topi (fun x_22 ex_22 => ?_)
    have hx_22 : x_22.toInt = p2.toInt * 2 := by rw [ex_22, ml_I (by rw [ti_2]; omega) (by rw [ti_2]; omega), ti_2]
    have bx_22 : (0 ≤ x_22.toInt ∧ x_22.toInt ≤ 16) := by constructor <;> omega
    refine lv_iload_n hx hb dX3_descend_27 rfl (lv_at hl 4 rfl) ?_
    refine lv_iadd hx hb dX3_descend_28 ?_
    refine lv_topi (fun x_23 ex_23 => ?_)
    have bx_23 : ((-2147483648) ≤ x_23.toInt ∧ x_23.toInt ≤ 2147483647) := ⟨i32_lo _, i32_hi _⟩
    refine lv_istore (lv' := [(7, .int x_23), (6, .int y_20), (0, .ref o0), (1, .int 3), (2, .int p2), (3, .int p3), (4, .int p4), (5, .int p5)]) hx hb dX3_descend_29 hl (by decide) rfl (fun ls hl => ?_)
    refine lv_iload hx hb dX3_descend_31 (lv_at hl 1 rfl) ?_
    refine lv_if_eq (tgt := 66) hx hb dX3_descend_33 (by decide) (fun c_24 => ?_) (fun c_24 => ?_)
    · skip
      rw [← Int32.toInt_inj, ti_0] at c_24
      refine lv_iload_n hx hb dX3_descend_66 rfl (lv_at hl 4 rfl) ?_
      refine lv_aload_n hx hb dX3_descend_67 rfl (lv_at hl 2 rfl) ?_
      refine tk_getP (D := (dC, dI)) (ci := 3) (v := .int v_7) (C := RX3) (T := TX3) (N := 18) hx hb hU inlX3 hown hK hP mo0 hfo_1 rfl 5 (by decide) (hU _ wd_726) (fun _ h9 => h9) rfl dX3_descend_68 ?_
      have hcut_28 : ∀ (y_25 : Int32), (0 ≤ y_25.toInt ∧ y_25.toInt ≤ 1) → ∀ (f_27 : Nat → va_E), GI (okc cI cL cZ cR cG cH L kd) kd L f_27 → ∀ (H : Heap) (locs : List Loc), va_P (dC, dI) vwCl (va_pl L f_27) H → va_S (fun q => q ∈ L) s.heap H locs → va_D (fun q => q ∈ L) (va_pl L f_27) → (∀ b, kd b ≠ 1 → kd b ≠ 3 → kd b ≠ 10 → kd b ≠ 517 → kd b ≠ 518 → kd b ≠ 519 → kd b ≠ 520 → kd b ≠ 521 → kd b ≠ 522 → kd b ≠ 523 → kd b ≠ 524 → kd b ≠ 525 → kd b ≠ 526 → kd b ≠ 527 → f_27 b = f b) → (∀ b, kd b = 1 → fldR (f_27 b) 0 = fldR (f b) 0) → (∀ b, kd b = 1 → fldR (f_27 b) 1 = fldR (f b) 1) → (∀ b, kd b = 3 → fldR (f_27 b) 0 = fldR (f b) 0) → (∀ b, kd b = 3 → fldR (f_27 b) 3 = fldR (f b) 3) → drel kd 1 521 522 f_27 a_5 → ∀ (ls : Array Slot), lv_has ls 18 [(7, .int x_23), (6, .int y_20), (0, .ref o0), (1, .int 3), (2, .int p2), (3, .int p3), (4, .int p4), (5, .int p5)] → W p l e (headSpec (wU yX3_descend cX3_descend 18 (some .boolean)) { frames := 9, cells := 0, slots := 0, locals := 309 }).room s m [.ref o0, .int 3, .int p2, .int p3, .int p4, .int p5].toArray below meth c H locs 0 0 (MQ below (va_Qi (fun (r : Int32) (f9 : Nat → va_E) => GI (okc cI cL cZ cR cG cH L kd) kd L f9 ∧ (0 ≤ r.toInt ∧ r.toInt ≤ 1) ∧ (∀ b, kd b ≠ 1 → kd b ≠ 3 → kd b ≠ 10 → kd b ≠ 517 → kd b ≠ 518 → kd b ≠ 519 → kd b ≠ 520 → kd b ≠ 521 → kd b ≠ 522 → kd b ≠ 523 → kd b ≠ 524 → kd b ≠ 525 → kd b ≠ 526 → kd b ≠ 527 → f9 b = f b) ∧ (∀ b, kd b = 1 → fldR (f9 b) 0 = fldR (f b) 0) ∧ (∀ b, kd b = 1 → fldR (f9 b) 1 = fldR (f b) 1) ∧ (∀ b, kd b = 3 → fldR (f9 b) 0 = fldR (f b) 0) ∧ (∀ b, kd b = 3 → fldR (f9 b) 3 = fldR (f b) 3) ∧ (∀ d9, fldR (f9 o0) 3 = some d9 → drel kd 1 521 522 f9 d9)) (qP (dC, dI) cI cL cZ cR cG cH L) (fun q => q ∈ L)) [.ref o0, .int 3, .int p2, .int p3, .int p4, .int p5].toArray s 0 0 (fun q => q ∈ L)) (F0 m 89 ls [.int y_25]) := by
        intro y_25 by_25 f_27 hG H locs hP hS hD hfr0 hrr1_0 hrr1_1 hrr3_0 hrr3_3 hT0 ls hl
        refine lv_istore (lv' := [(8, .int y_25), (7, .int x_23), (6, .int y_20), (0, .ref o0), (1, .int 3), (2, .int p2), (3, .int p3), (4, .int p4), (5, .int p5)]) hx hb dX3_descend_89 hl (by decide) rfl (fun ls hl => ?_)
        refine lv_iload_n hx hb dX3_descend_91 rfl (lv_at hl 4 rfl) ?_
        refine lv_bipush (v := 9) hx hb dX3_descend_92 (by decide) ?_
        refine lv_icmp_ge (tgt := 102) hx hb dX3_descend_94 (by decide) (fun c9 => absurd c9 (by decide)) (fun _ => ?_)
        refine lv_bipush (v := 8) hx hb dX3_descend_97 (by decide) ?_
        refine lv_goto (tgt := 103) hx hb dX3_descend_99 (by decide) ?_
        refine lv_istore (lv' := [(9, .int 8), (8, .int y_25), (7, .int x_23), (6, .int y_20), (0, .ref o0), (1, .int 3), (2, .int p2), (3, .int p3), (4, .int p4), (5, .int p5)]) hx hb dX3_descend_103 hl (by decide) rfl (fun ls hl => ?_)
        refine lv_iload_n hx hb dX3_descend_105 rfl (lv_at hl 6 rfl) ?_
        refine lv_aload_n hx hb dX3_descend_106 rfl (lv_at hl 4 rfl) ?_
        obtain ⟨a_30, a_31, a_32, a_33, a_34, v_35, v_36, v_37, v_38, v_39, v_40, v_41, a_42, a_43, a_44, v_45, a_46, a_47, hfo_29, ⟨ma_30, ka_30⟩, ⟨ma_31, ka_31⟩, ⟨ma_32, ka_32⟩, ⟨ma_33, ka_33⟩, ⟨ma_34, ka_34⟩, bv_35, bv_36, bv_37, ⟨ma_42, ka_42⟩, ⟨ma_43, ka_43⟩, ⟨ma_44, ka_44⟩, bv_45, ⟨ma_46, ka_46⟩, ⟨ma_47, ka_47⟩⟩ := un_3 (hG _ mo0) ko0
        have bv_38 : ((-2147483648) ≤ v_38.toInt ∧ v_38.toInt ≤ 2147483647) := ⟨i32_lo _, i32_hi _⟩
        have bv_39 : ((-2147483648) ≤ v_39.toInt ∧ v_39.toInt ≤ 2147483647) := ⟨i32_lo _, i32_hi _⟩
        have bv_40 : ((-2147483648) ≤ v_40.toInt ∧ v_40.toInt ≤ 2147483647) := ⟨i32_lo _, i32_hi _⟩
        have bv_41 : ((-2147483648) ≤ v_41.toInt ∧ v_41.toInt ≤ 2147483647) := ⟨i32_lo _, i32_hi _⟩
        obtain rfl : a_2 = a_30 := by have hk9 := hrr3_0 o0 ko0; rw [hfo_29, hfo_1] at hk9; exact (Option.some.inj hk9).symm
        obtain rfl : a_5 = a_33 := by have hk9 := hrr3_3 o0 ko0; rw [hfo_29, hfo_1] at hk9; exact (Option.some.inj hk9).symm
        refine tk_getP (D := (dC, dI)) (ci := 3) (v := .int v_35) (C := RX3) (T := TX3) (N := 18) hx hb hU inlX3 hown hK hP mo0 hfo_29 rfl 5 (by decide) (hU _ wd_726) (fun _ h9 => h9) rfl dX3_descend_107 ?_
        have hcut_49 : ∀ (y_48 : Int32), (0 ≤ y_48.toInt ∧ y_48.toInt ≤ 4) → (4 ≤ y_48.toInt ∨ p2.toInt ≤ 7) → ∀ (ls : Array Slot), lv_has ls 18 [(9, .int 8), (8, .int y_25), (7, .int x_23), (6, .int y_20), (0, .ref o0), (1, .int 3), (2, .int p2), (3, .int p3), (4, .int p4), (5, .int p5)] → W p l e (headSpec (wU yX3_descend cX3_descend 18 (some .boolean)) { frames := 9, cells := 0, slots := 0, locals := 309 }).room s m [.ref o0, .int 3, .int p2, .int p3, .int p4, .int p5].toArray below meth c H locs 0 0 (MQ below (va_Qi (fun (r : Int32) (f9 : Nat → va_E) => GI (okc cI cL cZ cR cG cH L kd) kd L f9 ∧ (0 ≤ r.toInt ∧ r.toInt ≤ 1) ∧ (∀ b, kd b ≠ 1 → kd b ≠ 3 → kd b ≠ 10 → kd b ≠ 517 → kd b ≠ 518 → kd b ≠ 519 → kd b ≠ 520 → kd b ≠ 521 → kd b ≠ 522 → kd b ≠ 523 → kd b ≠ 524 → kd b ≠ 525 → kd b ≠ 526 → kd b ≠ 527 → f9 b = f b) ∧ (∀ b, kd b = 1 → fldR (f9 b) 0 = fldR (f b) 0) ∧ (∀ b, kd b = 1 → fldR (f9 b) 1 = fldR (f b) 1) ∧ (∀ b, kd b = 3 → fldR (f9 b) 0 = fldR (f b) 0) ∧ (∀ b, kd b = 3 → fldR (f9 b) 3 = fldR (f b) 3) ∧ (∀ d9, fldR (f9 o0) 3 = some d9 → drel kd 1 521 522 f9 d9)) (qP (dC, dI) cI cL cZ cR cG cH L) (fun q => q ∈ L)) [.ref o0, .int 3, .int p2, .int p3, .int p4, .int p5].toArray s 0 0 (fun q => q ∈ L)) (F0 m 118 ls [.int y_48]) := by
          intro y_48 by_48 hjhcut_49_0 ls hl
          refine lv_istore (lv' := [(10, .int y_48), (9, .int 8), (8, .int y_25), (7, .int x_23), (6, .int y_20), (0, .ref o0), (1, .int 3), (2, .int p2), (3, .int p3), (4, .int p4), (5, .int p5)]) hx hb dX3_descend_118 hl (by decide) rfl (fun ls hl => ?_)
          have hloop_66 : ∀ (n : Nat), ∀ (y_67 : Int32), (0 ≤ y_67.toInt ∧ y_67.toInt ≤ 8) → ∀ (y_68 : Int32), (0 ≤ y_68.toInt ∧ y_68.toInt ≤ 1) → ∀ (f_70 : Nat → va_E), GI (okc cI cL cZ cR cG cH L kd) kd L f_70 → ∀ (H : Heap) (locs : List Loc), va_P (dC, dI) vwCl (va_pl L f_70) H → va_S (fun q => q ∈ L) s.heap H locs → va_D (fun q => q ∈ L) (va_pl L f_70) → (∀ b, kd b ≠ 1 → kd b ≠ 3 → kd b ≠ 10 → kd b ≠ 517 → kd b ≠ 518 → kd b ≠ 519 → kd b ≠ 520 → kd b ≠ 521 → kd b ≠ 522 → kd b ≠ 523 → kd b ≠ 524 → kd b ≠ 525 → kd b ≠ 526 → kd b ≠ 527 → f_70 b = f b) → (∀ b, kd b = 1 → fldR (f_70 b) 0 = fldR (f b) 0) → (∀ b, kd b = 1 → fldR (f_70 b) 1 = fldR (f b) 1) → (∀ b, kd b = 3 → fldR (f_70 b) 0 = fldR (f b) 0) → (∀ b, kd b = 3 → fldR (f_70 b) 3 = fldR (f b) 3) → drel kd 1 521 522 f_70 a_5 → (4 ≤ y_67.toInt ∨ p2.toInt ≤ 7) → 8 - y_67.toInt < (n : Int) → ∀ (ls : Array Slot), lv_has ls 18 [(10, .int y_67), (9, .int 8), (8, .int y_68), (7, .int x_23), (6, .int y_20), (0, .ref o0), (1, .int 3), (2, .int p2), (3, .int p3), (4, .int p4), (5, .int p5)] → W p l e (headSpec (wU yX3_descend cX3_descend 18 (some .boolean)) { frames := 9, cells := 0, slots := 0, locals := 309 }).room s m [.ref o0, .int 3, .int p2, .int p3, .int p4, .int p5].toArray below meth c H locs 0 0 (MQ below (va_Qi (fun (r : Int32) (f9 : Nat → va_E) => GI (okc cI cL cZ cR cG cH L kd) kd L f9 ∧ (0 ≤ r.toInt ∧ r.toInt ≤ 1) ∧ (∀ b, kd b ≠ 1 → kd b ≠ 3 → kd b ≠ 10 → kd b ≠ 517 → kd b ≠ 518 → kd b ≠ 519 → kd b ≠ 520 → kd b ≠ 521 → kd b ≠ 522 → kd b ≠ 523 → kd b ≠ 524 → kd b ≠ 525 → kd b ≠ 526 → kd b ≠ 527 → f9 b = f b) ∧ (∀ b, kd b = 1 → fldR (f9 b) 0 = fldR (f b) 0) ∧ (∀ b, kd b = 1 → fldR (f9 b) 1 = fldR (f b) 1) ∧ (∀ b, kd b = 3 → fldR (f9 b) 0 = fldR (f b) 0) ∧ (∀ b, kd b = 3 → fldR (f9 b) 3 = fldR (f b) 3) ∧ (∀ d9, fldR (f9 o0) 3 = some d9 → drel kd 1 521 522 f9 d9)) (qP (dC, dI) cI cL cZ cR cG cH L) (fun q => q ∈ L)) [.ref o0, .int 3, .int p2, .int p3, .int p4, .int p5].toArray s 0 0 (fun q => q ∈ L)) (F0 m 120 ls []) := by
            intro n
            induction n with
            | zero => intro y_67 by_67 y_68 by_68 f_70 hG H locs hP hS hD hfr0 hrr1_0 hrr1_1 hrr3_0 hrr3_3 hT0 hrelhloop_66_0 hmuhloop_66 ls hl; exfalso; omega
            | succ n ih_hloop_66 =>
              intro y_67 by_67 y_68 by_68 f_70 hG H locs hP hS hD hfr0 hrr1_0 hrr1_1 hrr3_0 hrr3_3 hT0 hrelhloop_66_0 hmuhloop_66 ls hl
              refine lv_iload hx hb dX3_descend_120 (lv_at hl 0 rfl) ?_
              refine lv_iload hx hb dX3_descend_122 (lv_at hl 1 rfl) ?_
              have hcut_71 : ∀ (ls : Array Slot), lv_has ls 18 [(10, .int y_67), (9, .int 8), (8, .int y_68), (7, .int x_23), (6, .int y_20), (0, .ref o0), (1, .int 3), (2, .int p2), (3, .int p3), (4, .int p4), (5, .int p5)] → W p l e (headSpec (wU yX3_descend cX3_descend 18 (some .boolean)) { frames := 9, cells := 0, slots := 0, locals := 309 }).room s m [.ref o0, .int 3, .int p2, .int p3, .int p4, .int p5].toArray below meth c H locs 0 0 (MQ below (va_Qi (fun (r : Int32) (f9 : Nat → va_E) => GI (okc cI cL cZ cR cG cH L kd) kd L f9 ∧ (0 ≤ r.toInt ∧ r.toInt ≤ 1) ∧ (∀ b, kd b ≠ 1 → kd b ≠ 3 → kd b ≠ 10 → kd b ≠ 517 → kd b ≠ 518 → kd b ≠ 519 → kd b ≠ 520 → kd b ≠ 521 → kd b ≠ 522 → kd b ≠ 523 → kd b ≠ 524 → kd b ≠ 525 → kd b ≠ 526 → kd b ≠ 527 → f9 b = f b) ∧ (∀ b, kd b = 1 → fldR (f9 b) 0 = fldR (f b) 0) ∧ (∀ b, kd b = 1 → fldR (f9 b) 1 = fldR (f b) 1) ∧ (∀ b, kd b = 3 → fldR (f9 b) 0 = fldR (f b) 0) ∧ (∀ b, kd b = 3 → fldR (f9 b) 3 = fldR (f b) 3) ∧ (∀ d9, fldR (f9 o0) 3 = some d9 → drel kd 1 521 522 f9 d9)) (qP (dC, dI) cI cL cZ cR cG cH L) (fun q => q ∈ L)) [.ref o0, .int 3, .int p2, .int p3, .int p4, .int p5].toArray s 0 0 (fun q => q ∈ L)) (F0 m 349 ls []) := by
                intro ls hl
                refine lv_iload hx hb dX3_descend_349 (lv_at hl 4 rfl) ?_
                refine lv_if_eq (tgt := 394) hx hb dX3_descend_351 (by decide) (fun c_72 => ?_) (fun c_72 => ?_)
                · skip
                  rw [← Int32.toInt_inj, ti_0] at c_72
                  refine lv_iload hx hb dX3_descend_394 (lv_at hl 2 rfl) ?_
                  obtain ⟨a_74, a_75, a_76, a_77, a_78, v_79, v_80, v_81, v_82, v_83, v_84, v_85, a_86, a_87, a_88, v_89, a_90, a_91, hfo_73, ⟨ma_74, ka_74⟩, ⟨ma_75, ka_75⟩, ⟨ma_76, ka_76⟩, ⟨ma_77, ka_77⟩, ⟨ma_78, ka_78⟩, bv_79, bv_80, bv_81, ⟨ma_86, ka_86⟩, ⟨ma_87, ka_87⟩, ⟨ma_88, ka_88⟩, bv_89, ⟨ma_90, ka_90⟩, ⟨ma_91, ka_91⟩⟩ := un_3 (hG _ mo0) ko0
                  have bv_82 : ((-2147483648) ≤ v_82.toInt ∧ v_82.toInt ≤ 2147483647) := ⟨i32_lo _, i32_hi _⟩
                  have bv_83 : ((-2147483648) ≤ v_83.toInt ∧ v_83.toInt ≤ 2147483647) := ⟨i32_lo _, i32_hi _⟩
                  have bv_84 : ((-2147483648) ≤ v_84.toInt ∧ v_84.toInt ≤ 2147483647) := ⟨i32_lo _, i32_hi _⟩
                  have bv_85 : ((-2147483648) ≤ v_85.toInt ∧ v_85.toInt ≤ 2147483647) := ⟨i32_lo _, i32_hi _⟩
                  obtain rfl : a_2 = a_74 := by have hk9 := hrr3_0 o0 ko0; rw [hfo_73, hfo_1] at hk9; exact (Option.some.inj hk9).symm
                  obtain rfl : a_5 = a_77 := by have hk9 := hrr3_3 o0 ko0; rw [hfo_73, hfo_1] at hk9; exact (Option.some.inj hk9).symm
                  exact W.zret (v := y_68) (ty := .boolean) hx hb hr (zb_n (by constructor <;> omega)) (fun t ht hW => ⟨⟨y_68, f_70, rfl, ⟨hG, (by constructor <;> omega), hfr0, hrr1_0, hrr1_1, hrr3_0, hrr3_3, (fun d9 h9 => by rw [hfo_73] at h9; obtain rfl := Option.some.inj h9; exact hT0)⟩, by rw [ht]; exact hP, va_K.moved hW.alike hK, pl_in hD⟩, hS.F ht⟩) hS.2.2 dX3_descend_396
                · skip
                  rw [← Int32.toInt_inj, ti_0] at c_72
                  exfalso
                  omega
              refine lv_icmp_ge (tgt := 349) hx hb dX3_descend_124 (by decide) (fun c_92 => ?_) (fun c_92 => ?_)
              · skip
                rw [Int32.le_iff_toInt_le, ti_8] at c_92
                exact hcut_71 ls (lv_sub hl [0, 1, 2, 3, 4, 5, 6, 7, 8, 9, 10] rfl)
              · skip
                rw [Int32.le_iff_toInt_le, ti_8] at c_92
                refine lv_aload_n hx hb dX3_descend_127 rfl (lv_at hl 5 rfl) ?_
                obtain ⟨a_94, a_95, a_96, a_97, a_98, v_99, v_100, v_101, v_102, v_103, v_104, v_105, a_106, a_107, a_108, v_109, a_110, a_111, hfo_93, ⟨ma_94, ka_94⟩, ⟨ma_95, ka_95⟩, ⟨ma_96, ka_96⟩, ⟨ma_97, ka_97⟩, ⟨ma_98, ka_98⟩, bv_99, bv_100, bv_101, ⟨ma_106, ka_106⟩, ⟨ma_107, ka_107⟩, ⟨ma_108, ka_108⟩, bv_109, ⟨ma_110, ka_110⟩, ⟨ma_111, ka_111⟩⟩ := un_3 (hG _ mo0) ko0
                have bv_102 : ((-2147483648) ≤ v_102.toInt ∧ v_102.toInt ≤ 2147483647) := ⟨i32_lo _, i32_hi _⟩
                have bv_103 : ((-2147483648) ≤ v_103.toInt ∧ v_103.toInt ≤ 2147483647) := ⟨i32_lo _, i32_hi _⟩
                have bv_104 : ((-2147483648) ≤ v_104.toInt ∧ v_104.toInt ≤ 2147483647) := ⟨i32_lo _, i32_hi _⟩
                have bv_105 : ((-2147483648) ≤ v_105.toInt ∧ v_105.toInt ≤ 2147483647) := ⟨i32_lo _, i32_hi _⟩
                obtain rfl : a_2 = a_94 := by have hk9 := hrr3_0 o0 ko0; rw [hfo_93, hfo_1] at hk9; exact (Option.some.inj hk9).symm
                obtain rfl : a_5 = a_97 := by have hk9 := hrr3_3 o0 ko0; rw [hfo_93, hfo_1] at hk9; exact (Option.some.inj hk9).symm
                refine tk_getP (D := (dC, dI)) (ci := 3) (v := .ref a_95) (C := RX3) (T := TX3) (N := 18) hx hb hU inlX3 hown hK hP mo0 hfo_93 rfl 1 (by decide) (hU _ wd_52) (fun _ h9 => h9) rfl dX3_descend_128 ?_
                obtain ⟨a_113, v_114, v_115, hfo_112, ⟨ma_113, ka_113⟩, bv_114, bv_115⟩ := un_10 (hG _ ma_95) ka_95
                refine tk_getP (D := (dC, dI)) (ci := 10) (v := .int v_115) (C := RX10) (T := TX10) (N := 3) hx hb hU inlX10 hown hK hP ma_95 hfo_112 rfl 2 (by decide) (hU _ wd_766) (fun _ h9 => h9) rfl dX3_descend_131 ?_
                refine lv_if_ne (tgt := 349) hx hb dX3_descend_134 (by decide) (fun c_116 => ?_) (fun c_116 => ?_)
                · skip
                  rw [← Int32.toInt_inj, ti_0] at c_116
                  exact hcut_71 ls (lv_sub hl [0, 1, 2, 3, 4, 5, 6, 7, 8, 9, 10] rfl)
                · skip
                  rw [← Int32.toInt_inj, ti_0] at c_116
                  refine lv_iload hx hb dX3_descend_137 (lv_at hl 0 rfl) ?_
                  refine lv_iconst (v := 4) hx hb dX3_descend_139 (by decide) ?_
                  have hcut_118 : ∀ (y_117 : Int32), (0 ≤ y_117.toInt ∧ y_117.toInt ≤ 8) → (y_117.toInt = 0 ∨ p2.toInt ≤ 7) → ∀ (ls : Array Slot), lv_has ls 18 [(10, .int y_67), (9, .int 8), (8, .int y_68), (7, .int x_23), (6, .int y_20), (0, .ref o0), (1, .int 3), (2, .int p2), (3, .int p3), (4, .int p4), (5, .int p5)] → W p l e (headSpec (wU yX3_descend cX3_descend 18 (some .boolean)) { frames := 9, cells := 0, slots := 0, locals := 309 }).room s m [.ref o0, .int 3, .int p2, .int p3, .int p4, .int p5].toArray below meth c H locs 0 0 (MQ below (va_Qi (fun (r : Int32) (f9 : Nat → va_E) => GI (okc cI cL cZ cR cG cH L kd) kd L f9 ∧ (0 ≤ r.toInt ∧ r.toInt ≤ 1) ∧ (∀ b, kd b ≠ 1 → kd b ≠ 3 → kd b ≠ 10 → kd b ≠ 517 → kd b ≠ 518 → kd b ≠ 519 → kd b ≠ 520 → kd b ≠ 521 → kd b ≠ 522 → kd b ≠ 523 → kd b ≠ 524 → kd b ≠ 525 → kd b ≠ 526 → kd b ≠ 527 → f9 b = f b) ∧ (∀ b, kd b = 1 → fldR (f9 b) 0 = fldR (f b) 0) ∧ (∀ b, kd b = 1 → fldR (f9 b) 1 = fldR (f b) 1) ∧ (∀ b, kd b = 3 → fldR (f9 b) 0 = fldR (f b) 0) ∧ (∀ b, kd b = 3 → fldR (f9 b) 3 = fldR (f b) 3) ∧ (∀ d9, fldR (f9 o0) 3 = some d9 → drel kd 1 521 522 f9 d9)) (qP (dC, dI) cI cL cZ cR cG cH L) (fun q => q ∈ L)) [.ref o0, .int 3, .int p2, .int p3, .int p4, .int p5].toArray s 0 0 (fun q => q ∈ L)) (F0 m 153 ls [.int y_117]) := by
                    intro y_117 by_117 hjhcut_118_0 ls hl
                    refine lv_istore (lv' := [(11, .int y_117), (10, .int y_67), (9, .int 8), (8, .int y_68), (7, .int x_23), (6, .int y_20), (0, .ref o0), (1, .int 3), (2, .int p2), (3, .int p3), (4, .int p4), (5, .int p5)]) hx hb dX3_descend_153 hl (by decide) rfl (fun ls hl => ?_)
                    refine lv_aload_n hx hb dX3_descend_155 rfl (lv_at hl 6 rfl) ?_
                    refine lv_iload hx hb dX3_descend_156 (lv_at hl 0 rfl) ?_
                    refine lv_iload hx hb dX3_descend_158 (lv_at hl 1 rfl) ?_
                    refine lv_iconst (v := 4) hx hb dX3_descend_160 (by decide) ?_
                    refine lv_irem hx hb dX3_descend_161 (by decide) ?_
                    refine lv_topi (fun x_119 ex_119 => ?_)
                    have hx_119 : x_119.toInt = y_67.toInt % 4 := by rw [ex_119, rm_I (by omega) (by rw [ti_4]; omega), ti_4]
                    have bx_119 : (0 ≤ x_119.toInt ∧ x_119.toInt ≤ 3) := by constructor <;> omega
                    refine tk_ViP (As := [.int y_117, .int x_119]) (rest := []) (n := 2) hx hb hml hown hU hN hZ (s_X3_choiceOf_k3 l (dC, dI) cI cL cZ cR cG cH Z kd L f_70 hG o0 mo0 ko0 y_117 (by constructor <;> omega) x_119 (by constructor <;> omega)) wd_819 wd_820 wd_821 wd_16 wd_822 (by decide +kernel) ⟨Nat.le_of_ble_eq_true rfl, Nat.le_of_ble_eq_true rfl⟩ hK hP hD hS mo0 hfo_93 3 rfl rfl rfl hl.1 rfl (Nat.le_of_ble_eq_true rfl) dX3_descend_162 ⟨Nat.le_of_ble_eq_true rfl, Nat.le_of_ble_eq_true rfl⟩ (fun x_120 f_121 H locs hw hP hD hS => ?_)
                    obtain ⟨rfl, bx_120⟩ := hw
                    refine lv_istore (lv' := [(12, .int x_120), (11, .int y_117), (10, .int y_67), (9, .int 8), (8, .int y_68), (7, .int x_23), (6, .int y_20), (0, .ref o0), (1, .int 3), (2, .int p2), (3, .int p3), (4, .int p4), (5, .int p5)]) hx hb dX3_descend_165 hl (by decide) rfl (fun ls hl => ?_)
                    refine lv_iload hx hb dX3_descend_167 (lv_at hl 0 rfl) ?_
                    refine lv_iconst (v := (-1)) hx hb dX3_descend_169 (by decide) ?_
                    have hcut_126 : ∀ (y_123 : Int32), (0 ≤ y_123.toInt ∧ y_123.toInt ≤ 1) → ∀ (f_125 : Nat → va_E), GI (okc cI cL cZ cR cG cH L kd) kd L f_125 → ∀ (H : Heap) (locs : List Loc), va_P (dC, dI) vwCl (va_pl L f_125) H → va_S (fun q => q ∈ L) s.heap H locs → va_D (fun q => q ∈ L) (va_pl L f_125) → (∀ b, kd b ≠ 1 → kd b ≠ 3 → kd b ≠ 10 → kd b ≠ 517 → kd b ≠ 518 → kd b ≠ 519 → kd b ≠ 520 → kd b ≠ 521 → kd b ≠ 522 → kd b ≠ 523 → kd b ≠ 524 → kd b ≠ 525 → kd b ≠ 526 → kd b ≠ 527 → f_125 b = f b) → (∀ b, kd b = 1 → fldR (f_125 b) 0 = fldR (f b) 0) → (∀ b, kd b = 1 → fldR (f_125 b) 1 = fldR (f b) 1) → (∀ b, kd b = 3 → fldR (f_125 b) 0 = fldR (f b) 0) → (∀ b, kd b = 3 → fldR (f_125 b) 3 = fldR (f b) 3) → drel kd 1 521 522 f_125 a_5 → ∀ (ls : Array Slot), lv_has ls 18 [(12, .int x_120), (11, .int y_117), (10, .int y_67), (9, .int 8), (8, .int y_123), (7, .int x_23), (6, .int y_20), (0, .ref o0), (1, .int 3), (2, .int p2), (3, .int p3), (4, .int p4), (5, .int p5)] → W p l e (headSpec (wU yX3_descend cX3_descend 18 (some .boolean)) { frames := 9, cells := 0, slots := 0, locals := 309 }).room s m [.ref o0, .int 3, .int p2, .int p3, .int p4, .int p5].toArray below meth c H locs 0 0 (MQ below (va_Qi (fun (r : Int32) (f9 : Nat → va_E) => GI (okc cI cL cZ cR cG cH L kd) kd L f9 ∧ (0 ≤ r.toInt ∧ r.toInt ≤ 1) ∧ (∀ b, kd b ≠ 1 → kd b ≠ 3 → kd b ≠ 10 → kd b ≠ 517 → kd b ≠ 518 → kd b ≠ 519 → kd b ≠ 520 → kd b ≠ 521 → kd b ≠ 522 → kd b ≠ 523 → kd b ≠ 524 → kd b ≠ 525 → kd b ≠ 526 → kd b ≠ 527 → f9 b = f b) ∧ (∀ b, kd b = 1 → fldR (f9 b) 0 = fldR (f b) 0) ∧ (∀ b, kd b = 1 → fldR (f9 b) 1 = fldR (f b) 1) ∧ (∀ b, kd b = 3 → fldR (f9 b) 0 = fldR (f b) 0) ∧ (∀ b, kd b = 3 → fldR (f9 b) 3 = fldR (f b) 3) ∧ (∀ d9, fldR (f9 o0) 3 = some d9 → drel kd 1 521 522 f9 d9)) (qP (dC, dI) cI cL cZ cR cG cH L) (fun q => q ∈ L)) [.ref o0, .int 3, .int p2, .int p3, .int p4, .int p5].toArray s 0 0 (fun q => q ∈ L)) (F0 m 343 ls []) := by
                      intro y_123 by_123 f_125 hG H locs hP hS hD hfr0 hrr1_0 hrr1_1 hrr3_0 hrr3_3 hT0 ls hl
                      obtain ⟨x_127, ex_127⟩ : ∃ y : Int32, y_67 + 1 = y := ⟨_, rfl⟩
                      have hx_127 : x_127.toInt = y_67.toInt + 1 := by rw [← ex_127, ad_I (by rw [ti_1]; omega) (by rw [ti_1]; omega), ti_1]
                      have bx_127 : (1 ≤ x_127.toInt ∧ x_127.toInt ≤ 8) := by constructor <;> omega
                      refine lv_iinc (v := x_127) (lv' := [(10, .int x_127), (12, .int x_120), (11, .int y_117), (9, .int 8), (8, .int y_123), (7, .int x_23), (6, .int y_20), (0, .ref o0), (1, .int 3), (2, .int p2), (3, .int p3), (4, .int p4), (5, .int p5)]) hx hb dX3_descend_343 hl (k := 2) rfl ex_127 (by decide) rfl (fun ls hl => ?_)
                      refine lv_goto (tgt := 120) hx hb dX3_descend_346 (by decide) ?_
                      exact ih_hloop_66 x_127 (by constructor <;> omega) y_123 (by constructor <;> omega) f_125 hG _ _ hP hS hD hfr0 hrr1_0 hrr1_1 hrr3_0 hrr3_3 hT0 (by (try rw [ti_8]) <;> (try rw [ti_3]) <;> omega) (by (try rw [ti_8]) <;> (try rw [ti_3]) <;> omega) ls (lv_sub hl [0, 3, 4, 5, 6, 7, 8, 9, 10, 11, 12] rfl)
                    refine lv_icmp_ne (tgt := 176) hx hb dX3_descend_170 (by decide) (fun c_128 => ?_) (fun c_128 => ?_)
                    · skip
                      rw [← Int32.toInt_inj, ti_m1] at c_128
                      refine lv_aload_n hx hb dX3_descend_176 rfl (lv_at hl 7 rfl) ?_
                      refine tk_getP (D := (dC, dI)) (ci := 3) (v := .int v_100) (C := RX3) (T := TX3) (N := 18) hx hb hU inlX3 hown hK hP mo0 hfo_93 rfl 6 (by decide) (hU _ wd_732) (fun _ h9 => h9) rfl dX3_descend_177 ?_
                      have hcut_130 : ∀ (y_129 : Int32), (0 ≤ y_129.toInt ∧ y_129.toInt ≤ 8) → ∀ (ls : Array Slot), lv_has ls 18 [(12, .int x_120), (11, .int y_117), (10, .int y_67), (9, .int 8), (8, .int y_68), (7, .int x_23), (6, .int y_20), (0, .ref o0), (1, .int 3), (2, .int p2), (3, .int p3), (4, .int p4), (5, .int p5)] → W p l e (headSpec (wU yX3_descend cX3_descend 18 (some .boolean)) { frames := 9, cells := 0, slots := 0, locals := 309 }).room s m [.ref o0, .int 3, .int p2, .int p3, .int p4, .int p5].toArray below meth c H locs 0 0 (MQ below (va_Qi (fun (r : Int32) (f9 : Nat → va_E) => GI (okc cI cL cZ cR cG cH L kd) kd L f9 ∧ (0 ≤ r.toInt ∧ r.toInt ≤ 1) ∧ (∀ b, kd b ≠ 1 → kd b ≠ 3 → kd b ≠ 10 → kd b ≠ 517 → kd b ≠ 518 → kd b ≠ 519 → kd b ≠ 520 → kd b ≠ 521 → kd b ≠ 522 → kd b ≠ 523 → kd b ≠ 524 → kd b ≠ 525 → kd b ≠ 526 → kd b ≠ 527 → f9 b = f b) ∧ (∀ b, kd b = 1 → fldR (f9 b) 0 = fldR (f b) 0) ∧ (∀ b, kd b = 1 → fldR (f9 b) 1 = fldR (f b) 1) ∧ (∀ b, kd b = 3 → fldR (f9 b) 0 = fldR (f b) 0) ∧ (∀ b, kd b = 3 → fldR (f9 b) 3 = fldR (f b) 3) ∧ (∀ d9, fldR (f9 o0) 3 = some d9 → drel kd 1 521 522 f9 d9)) (qP (dC, dI) cI cL cZ cR cG cH L) (fun q => q ∈ L)) [.ref o0, .int 3, .int p2, .int p3, .int p4, .int p5].toArray s 0 0 (fun q => q ∈ L)) (F0 m 206 ls [.int y_129]) := by
                        intro y_129 by_129 ls hl
                        refine lv_istore (lv' := [(13, .int y_129), (12, .int x_120), (11, .int y_117), (10, .int y_67), (9, .int 8), (8, .int y_68), (7, .int x_23), (6, .int y_20), (0, .ref o0), (1, .int 3), (2, .int p2), (3, .int p3), (4, .int p4), (5, .int p5)]) hx hb dX3_descend_206 hl (by decide) rfl (fun ls hl => ?_)
                        refine lv_iload hx hb dX3_descend_208 (lv_at hl 2 rfl) ?_
                        have hcut_132 : ∀ (y_131 : Int32), (0 ≤ y_131.toInt ∧ y_131.toInt ≤ 1) → ∀ (ls : Array Slot), lv_has ls 18 [(13, .int y_129), (12, .int x_120), (11, .int y_117), (10, .int y_67), (9, .int 8), (8, .int y_68), (7, .int x_23), (6, .int y_20), (0, .ref o0), (1, .int 3), (2, .int p2), (3, .int p3), (4, .int p4), (5, .int p5)] → W p l e (headSpec (wU yX3_descend cX3_descend 18 (some .boolean)) { frames := 9, cells := 0, slots := 0, locals := 309 }).room s m [.ref o0, .int 3, .int p2, .int p3, .int p4, .int p5].toArray below meth c H locs 0 0 (MQ below (va_Qi (fun (r : Int32) (f9 : Nat → va_E) => GI (okc cI cL cZ cR cG cH L kd) kd L f9 ∧ (0 ≤ r.toInt ∧ r.toInt ≤ 1) ∧ (∀ b, kd b ≠ 1 → kd b ≠ 3 → kd b ≠ 10 → kd b ≠ 517 → kd b ≠ 518 → kd b ≠ 519 → kd b ≠ 520 → kd b ≠ 521 → kd b ≠ 522 → kd b ≠ 523 → kd b ≠ 524 → kd b ≠ 525 → kd b ≠ 526 → kd b ≠ 527 → f9 b = f b) ∧ (∀ b, kd b = 1 → fldR (f9 b) 0 = fldR (f b) 0) ∧ (∀ b, kd b = 1 → fldR (f9 b) 1 = fldR (f b) 1) ∧ (∀ b, kd b = 3 → fldR (f9 b) 0 = fldR (f b) 0) ∧ (∀ b, kd b = 3 → fldR (f9 b) 3 = fldR (f b) 3) ∧ (∀ d9, fldR (f9 o0) 3 = some d9 → drel kd 1 521 522 f9 d9)) (qP (dC, dI) cI cL cZ cR cG cH L) (fun q => q ∈ L)) [.ref o0, .int 3, .int p2, .int p3, .int p4, .int p5].toArray s 0 0 (fun q => q ∈ L)) (F0 m 223 ls [.int y_131]) := by
                          intro y_131 by_131 ls hl
                          refine lv_istore (lv' := [(14, .int y_131), (13, .int y_129), (12, .int x_120), (11, .int y_117), (10, .int y_67), (9, .int 8), (8, .int y_68), (7, .int x_23), (6, .int y_20), (0, .ref o0), (1, .int 3), (2, .int p2), (3, .int p3), (4, .int p4), (5, .int p5)]) hx hb dX3_descend_223 hl (by decide) rfl (fun ls hl => ?_)
                          refine lv_iload hx hb dX3_descend_225 (lv_at hl 0 rfl) ?_
                          refine lv_iload_n hx hb dX3_descend_227 rfl (lv_at hl 12 rfl) ?_
                          refine lv_icmp_gt (tgt := 343) hx hb dX3_descend_228 (by decide) (fun c_133 => ?_) (fun c_133 => ?_)
                          · skip
                            rw [Int32.lt_iff_toInt_lt] at c_133
                            exact hcut_126 y_68 (by constructor <;> omega) f_70 hG _ _ hP hS hD hfr0 hrr1_0 hrr1_1 hrr3_0 hrr3_3 hT0 ls (lv_sub hl [2, 3, 4, 5, 6, 7, 8, 9, 10, 11, 12, 13, 14] rfl)
                          · skip
                            rw [Int32.lt_iff_toInt_lt] at c_133
                            refine lv_aload_n hx hb dX3_descend_231 rfl (lv_at hl 9 rfl) ?_
                            refine lv_aload_n hx hb dX3_descend_232 rfl (lv_at hl 9 rfl) ?_
                            refine tk_getP (D := (dC, dI)) (ci := 3) (v := .ref a_96) (C := RX3) (T := TX3) (N := 18) hx hb hU inlX3 hown hK hP mo0 hfo_93 rfl 2 (by decide) (hU _ wd_56) (fun _ h9 => h9) rfl dX3_descend_233 ?_
                            refine lv_aload_n hx hb dX3_descend_236 rfl (lv_at hl 9 rfl) ?_
                            refine tk_getP (D := (dC, dI)) (ci := 3) (v := .ref a_2) (C := RX3) (T := TX3) (N := 18) hx hb hU inlX3 hown hK hP mo0 hfo_93 rfl 0 (by decide) (hU _ wd_48) (fun _ h9 => h9) rfl dX3_descend_237 ?_
                            refine lv_aload_n hx hb dX3_descend_240 rfl (lv_at hl 9 rfl) ?_
                            refine tk_getP (D := (dC, dI)) (ci := 3) (v := .int v_102) (C := RX3) (T := TX3) (N := 18) hx hb hU inlX3 hown hK hP mo0 hfo_93 rfl 8 (by decide) (hU _ wd_734) (fun _ h9 => h9) rfl dX3_descend_241 ?_
                            refine lv_iload_n hx hb dX3_descend_244 rfl (lv_at hl 10 rfl) ?_
                            refine lv_iload hx hb dX3_descend_245 (lv_at hl 2 rfl) ?_
                            obtain ⟨a_135, a_136, a_137, a_138, a_139, hfo_134, ⟨ma_135, ka_135⟩, ⟨ma_136, ka_136⟩, ⟨ma_137, ka_137⟩, ⟨ma_138, ka_138⟩, ⟨ma_139, ka_139⟩⟩ := un_8 (hG _ ma_96) ka_96
                            refine tk_ViP (As := [.ref a_2, .int v_102, .int 3, .int x_120]) (rest := [.ref o0]) (n := 4) hx hb hml hown hU hN hZ (s_X8_step_k8_k7 l (dC, dI) cI cL cZ cR cG cH Z kd L f_70 hG a_96 ma_96 ka_96 a_2 ma_2 ka_2 v_102 3 (by decide) x_120 (by constructor <;> omega)) wd_825 wd_826 wd_827 wd_55 wd_828 (by decide +kernel) ⟨Nat.le_of_ble_eq_true rfl, Nat.le_of_ble_eq_true rfl⟩ hK hP hD hS ma_96 hfo_134 8 rfl rfl rfl hl.1 rfl (Nat.le_of_ble_eq_true rfl) dX3_descend_247 ⟨Nat.le_of_ble_eq_true rfl, Nat.le_of_ble_eq_true rfl⟩ (fun x_140 f_141 H locs hw hP hD hS => ?_)
                            obtain ⟨hG, bx_140, hkc_142⟩ := hw
                            have hfo_144 : f_141 o0 = .inr (3, [.ref a_2, .ref a_95, .ref a_96, .ref a_5, .ref a_98, .int v_99, .int v_100, .int v_101, .int v_102, .int v_103, .int v_104, .int v_105, .ref a_106, .ref a_107, .ref a_108, .int v_109, .ref a_110, .ref a_111]) := by rw [hkc_142 o0 (by rw [ko0]; decide) (by rw [ko0]; decide) (by rw [ko0]; decide) (by rw [ko0]; decide)]; exact hfo_93
                            have hfo_145 : f_141 a_95 = .inr (10, [.ref a_113, .int v_114, .int v_115]) := by rw [hkc_142 a_95 (by rw [ka_95]; decide) (by rw [ka_95]; decide) (by rw [ka_95]; decide) (by rw [ka_95]; decide)]; exact hfo_112
                            have hfo_146 : f_141 a_96 = .inr (8, [.ref a_135, .ref a_136, .ref a_137, .ref a_138, .ref a_139]) := by rw [hkc_142 a_96 (by rw [ka_96]; decide) (by rw [ka_96]; decide) (by rw [ka_96]; decide) (by rw [ka_96]; decide)]; exact hfo_134
                            have hfr0 : ∀ b, kd b ≠ 1 → kd b ≠ 3 → kd b ≠ 10 → kd b ≠ 517 → kd b ≠ 518 → kd b ≠ 519 → kd b ≠ 520 → kd b ≠ 521 → kd b ≠ 522 → kd b ≠ 523 → kd b ≠ 524 → kd b ≠ 525 → kd b ≠ 526 → kd b ≠ 527 → f_141 b = f b := fun b q1 q3 q10 q517 q518 q519 q520 q521 q522 q523 q524 q525 q526 q527 => (hkc_142 b q517 q518 q519 q520).trans (hfr0 b q1 q3 q10 q517 q518 q519 q520 q521 q522 q523 q524 q525 q526 q527)
                            have hrr1_0 : ∀ b, kd b = 1 → fldR (f_141 b) 0 = fldR (f b) 0 := fun b kb => (congrArg (fun x => fldR x 0) (hkc_142 b (by rw [kb]; decide) (by rw [kb]; decide) (by rw [kb]; decide) (by rw [kb]; decide))).trans (hrr1_0 b kb)
                            have hrr1_1 : ∀ b, kd b = 1 → fldR (f_141 b) 1 = fldR (f b) 1 := fun b kb => (congrArg (fun x => fldR x 1) (hkc_142 b (by rw [kb]; decide) (by rw [kb]; decide) (by rw [kb]; decide) (by rw [kb]; decide))).trans (hrr1_1 b kb)
                            have hrr3_0 : ∀ b, kd b = 3 → fldR (f_141 b) 0 = fldR (f b) 0 := fun b kb => (congrArg (fun x => fldR x 0) (hkc_142 b (by rw [kb]; decide) (by rw [kb]; decide) (by rw [kb]; decide) (by rw [kb]; decide))).trans (hrr3_0 b kb)
                            have hrr3_3 : ∀ b, kd b = 3 → fldR (f_141 b) 3 = fldR (f b) 3 := fun b kb => (congrArg (fun x => fldR x 3) (hkc_142 b (by rw [kb]; decide) (by rw [kb]; decide) (by rw [kb]; decide) (by rw [kb]; decide))).trans (hrr3_3 b kb)
                            have hT0 : drel kd 1 521 522 f_141 a_5 := hT0.keep (fun b q => congrArg (fun x => fldI x 5) (hkc_142 b (by rw [q]; decide) (by rw [q]; decide) (by rw [q]; decide) (by rw [q]; decide))) (fun b q => congrArg (fun x => fldR x 0) (hkc_142 b (by rw [q]; decide) (by rw [q]; decide) (by rw [q]; decide) (by rw [q]; decide))) (fun b q => congrArg (fun x => fldR x 1) (hkc_142 b (by rw [q]; decide) (by rw [q]; decide) (by rw [q]; decide) (by rw [q]; decide))) (fun b q => hkc_142 b (by rw [q]; decide) (by rw [q]; decide) (by rw [q]; decide) (by rw [q]; decide)) (fun b q => hkc_142 b (by rw [q]; decide) (by rw [q]; decide) (by rw [q]; decide) (by rw [q]; decide))
                            refine tk_ViP (As := [.int x_140]) (rest := []) (n := 1) hx hb hml hown hU hN hZ (s_X3_isLeft_k3 l (dC, dI) cI cL cZ cR cG cH Z kd L f_141 hG o0 mo0 ko0 x_140) wd_806 wd_807 wd_808 wd_16 wd_809 (by decide +kernel) ⟨Nat.le_of_ble_eq_true rfl, Nat.le_of_ble_eq_true rfl⟩ hK hP hD hS mo0 hfo_144 3 rfl rfl rfl hl.1 rfl (Nat.le_of_ble_eq_true rfl) dX3_descend_250 ⟨Nat.le_of_ble_eq_true rfl, Nat.le_of_ble_eq_true rfl⟩ (fun x_147 f_148 H locs hw hP hD hS => ?_)
                            obtain ⟨rfl, bx_147⟩ := hw
                            refine lv_if_eq (tgt := 259) hx hb dX3_descend_253 (by decide) (fun c_150 => ?_) (fun c_150 => ?_)
                            · skip
                              rw [← Int32.toInt_inj, ti_0] at c_150
                              refine lv_aload_n hx hb dX3_descend_259 rfl (lv_at hl 9 rfl) ?_
                              refine tk_getP (D := (dC, dI)) (ci := 3) (v := .ref a_106) (C := RX3) (T := TX3) (N := 18) hx hb hU inlX3 hown hK hP mo0 hfo_144 rfl 12 (by decide) (hU _ wd_63) (fun _ h9 => h9) rfl dX3_descend_260 ?_
                              refine lv_iload_n hx hb dX3_descend_263 rfl (lv_at hl 10 rfl) ?_
                              refine lv_iload hx hb dX3_descend_264 (lv_at hl 2 rfl) ?_
                              obtain ⟨g_152, hfo_151, hbg_152⟩ := un_525 (hG _ ma_106) ka_106
                              refine tk_istP hx hb hK hP hD hS 0 ma_106 hfo_151 rfl (vp_in_nI (n := 3) (by decide) (by decide)) dX3_descend_266 (fun H locs hP hD hS => ?_)
                              obtain ⟨f_154, ef_154⟩ : ∃ y : Nat → va_E, y = va_up f_141 a_106 (.inl (cI, 9, .inl (upd g_152 (Int32.toNatClampNeg 3) x_120))) := ⟨_, rfl⟩
                              have hP : va_P (dC, dI) vwCl (va_pl L f_154) H := by rw [ef_154]; exact hP
                              have hD : va_D (fun q => q ∈ L) (va_pl L f_154) := by rw [ef_154]; exact hD
                              have hG : GI (okc cI cL cZ cR cG cH L kd) kd L f_154 := by rw [ef_154]; exact hG.set a_106 (mk_525 ka_106 ⟨_, rfl, okI_up hbg_152 (by constructor <;> omega) _⟩)
                              have hfo_155 : f_154 o0 = .inr (3, [.ref a_2, .ref a_95, .ref a_96, .ref a_5, .ref a_98, .int v_99, .int v_100, .int v_101, .int v_102, .int v_103, .int v_104, .int v_105, .ref a_106, .ref a_107, .ref a_108, .int v_109, .ref a_110, .ref a_111]) := by rw [ef_154, up_ne (kd_ne ka_106 ko0 (by decide))]; exact hfo_144
                              have hfo_156 : f_154 a_95 = .inr (10, [.ref a_113, .int v_114, .int v_115]) := by rw [ef_154, up_ne (kd_ne ka_106 ka_95 (by decide))]; exact hfo_145
                              have hfo_157 : f_154 a_96 = .inr (8, [.ref a_135, .ref a_136, .ref a_137, .ref a_138, .ref a_139]) := by rw [ef_154, up_ne (kd_ne ka_106 ka_96 (by decide))]; exact hfo_146
                              have hfr0 : ∀ b, kd b ≠ 1 → kd b ≠ 3 → kd b ≠ 10 → kd b ≠ 517 → kd b ≠ 518 → kd b ≠ 519 → kd b ≠ 520 → kd b ≠ 521 → kd b ≠ 522 → kd b ≠ 523 → kd b ≠ 524 → kd b ≠ 525 → kd b ≠ 526 → kd b ≠ 527 → f_154 b = f b := fun b q1 q3 q10 q517 q518 q519 q520 q521 q522 q523 q524 q525 q526 q527 => (congrFun ef_154 b).trans ((up_ne (fun e9 => q525 (by rw [e9]; exact ka_106))).trans (hfr0 b q1 q3 q10 q517 q518 q519 q520 q521 q522 q523 q524 q525 q526 q527))
                              have hrr1_0 : ∀ b, kd b = 1 → fldR (f_154 b) 0 = fldR (f b) 0 := fun b kb => (congrArg (fun x => fldR x 0) ((congrFun ef_154 b).trans (up_ne (kd_ne ka_106 kb (by decide))))).trans (hrr1_0 b kb)
                              have hrr1_1 : ∀ b, kd b = 1 → fldR (f_154 b) 1 = fldR (f b) 1 := fun b kb => (congrArg (fun x => fldR x 1) ((congrFun ef_154 b).trans (up_ne (kd_ne ka_106 kb (by decide))))).trans (hrr1_1 b kb)
                              have hrr3_0 : ∀ b, kd b = 3 → fldR (f_154 b) 0 = fldR (f b) 0 := fun b kb => (congrArg (fun x => fldR x 0) ((congrFun ef_154 b).trans (up_ne (kd_ne ka_106 kb (by decide))))).trans (hrr3_0 b kb)
                              have hrr3_3 : ∀ b, kd b = 3 → fldR (f_154 b) 3 = fldR (f b) 3 := fun b kb => (congrArg (fun x => fldR x 3) ((congrFun ef_154 b).trans (up_ne (kd_ne ka_106 kb (by decide))))).trans (hrr3_3 b kb)
                              have hT0 : drel kd 1 521 522 f_154 a_5 := by rw [ef_154]; exact hT0.up ka_106 (by decide) (by decide) (by decide)
                              have hfo_158 : f_154 a_106 = .inl (cI, 9, .inl (upd g_152 (Int32.toNatClampNeg 3) x_120)) := by rw [ef_154]; exact up_self
                              refine lv_iload hx hb dX3_descend_267 (lv_at hl 3 rfl) ?_
                              have hcut_160 : ∀ (y_159 : Int32), (0 ≤ y_159.toInt ∧ y_159.toInt ≤ 8) → ∀ (ls : Array Slot), lv_has ls 18 [(14, .int y_131), (13, .int y_129), (12, .int x_120), (11, .int y_117), (10, .int y_67), (9, .int 8), (8, .int y_68), (7, .int x_23), (6, .int y_20), (0, .ref o0), (1, .int 3), (2, .int p2), (3, .int p3), (4, .int p4), (5, .int p5)] → W p l e (headSpec (wU yX3_descend cX3_descend 18 (some .boolean)) { frames := 9, cells := 0, slots := 0, locals := 309 }).room s m [.ref o0, .int 3, .int p2, .int p3, .int p4, .int p5].toArray below meth c H locs 0 0 (MQ below (va_Qi (fun (r : Int32) (f9 : Nat → va_E) => GI (okc cI cL cZ cR cG cH L kd) kd L f9 ∧ (0 ≤ r.toInt ∧ r.toInt ≤ 1) ∧ (∀ b, kd b ≠ 1 → kd b ≠ 3 → kd b ≠ 10 → kd b ≠ 517 → kd b ≠ 518 → kd b ≠ 519 → kd b ≠ 520 → kd b ≠ 521 → kd b ≠ 522 → kd b ≠ 523 → kd b ≠ 524 → kd b ≠ 525 → kd b ≠ 526 → kd b ≠ 527 → f9 b = f b) ∧ (∀ b, kd b = 1 → fldR (f9 b) 0 = fldR (f b) 0) ∧ (∀ b, kd b = 1 → fldR (f9 b) 1 = fldR (f b) 1) ∧ (∀ b, kd b = 3 → fldR (f9 b) 0 = fldR (f b) 0) ∧ (∀ b, kd b = 3 → fldR (f9 b) 3 = fldR (f b) 3) ∧ (∀ d9, fldR (f9 o0) 3 = some d9 → drel kd 1 521 522 f9 d9)) (qP (dC, dI) cI cL cZ cR cG cH L) (fun q => q ∈ L)) [.ref o0, .int 3, .int p2, .int p3, .int p4, .int p5].toArray s 0 0 (fun q => q ∈ L)) (F0 m 279 ls [.int y_159]) := by
                                intro y_159 by_159 ls hl
                                refine lv_istore (lv' := [(15, .int y_159), (14, .int y_131), (13, .int y_129), (12, .int x_120), (11, .int y_117), (10, .int y_67), (9, .int 8), (8, .int y_68), (7, .int x_23), (6, .int y_20), (0, .ref o0), (1, .int 3), (2, .int p2), (3, .int p3), (4, .int p4), (5, .int p5)]) hx hb dX3_descend_279 hl (by decide) rfl (fun ls hl => ?_)
                                refine lv_iload hx hb dX3_descend_281 (lv_at hl 2 rfl) ?_
                                have hcut_162 : ∀ (y_161 : Int32), (0 ≤ y_161.toInt ∧ y_161.toInt ≤ 387420488) → ((y_129.toInt = 0 ∧ y_161.toInt = p4.toInt) ∨ (1 ≤ y_129.toInt ∧ ((p5.toInt = 0 ∧ y_161.toInt ≤ 344373768) ∨ (p5.toInt = 1 ∧ y_161.toInt ≤ 382637520) ∨ (p5.toInt = 2 ∧ y_161.toInt ≤ 386889048) ∨ (p5.toInt = 3 ∧ y_161.toInt ≤ 387361440)))) → ∀ (ls : Array Slot), lv_has ls 18 [(15, .int y_159), (14, .int y_131), (13, .int y_129), (12, .int x_120), (11, .int y_117), (10, .int y_67), (9, .int 8), (8, .int y_68), (7, .int x_23), (6, .int y_20), (0, .ref o0), (1, .int 3), (2, .int p2), (3, .int p3), (4, .int p4), (5, .int p5)] → W p l e (headSpec (wU yX3_descend cX3_descend 18 (some .boolean)) { frames := 9, cells := 0, slots := 0, locals := 309 }).room s m [.ref o0, .int 3, .int p2, .int p3, .int p4, .int p5].toArray below meth c H locs 0 0 (MQ below (va_Qi (fun (r : Int32) (f9 : Nat → va_E) => GI (okc cI cL cZ cR cG cH L kd) kd L f9 ∧ (0 ≤ r.toInt ∧ r.toInt ≤ 1) ∧ (∀ b, kd b ≠ 1 → kd b ≠ 3 → kd b ≠ 10 → kd b ≠ 517 → kd b ≠ 518 → kd b ≠ 519 → kd b ≠ 520 → kd b ≠ 521 → kd b ≠ 522 → kd b ≠ 523 → kd b ≠ 524 → kd b ≠ 525 → kd b ≠ 526 → kd b ≠ 527 → f9 b = f b) ∧ (∀ b, kd b = 1 → fldR (f9 b) 0 = fldR (f b) 0) ∧ (∀ b, kd b = 1 → fldR (f9 b) 1 = fldR (f b) 1) ∧ (∀ b, kd b = 3 → fldR (f9 b) 0 = fldR (f b) 0) ∧ (∀ b, kd b = 3 → fldR (f9 b) 3 = fldR (f b) 3) ∧ (∀ d9, fldR (f9 o0) 3 = some d9 → drel kd 1 521 522 f9 d9)) (qP (dC, dI) cI cL cZ cR cG cH L) (fun q => q ∈ L)) [.ref o0, .int 3, .int p2, .int p3, .int p4, .int p5].toArray s 0 0 (fun q => q ∈ L)) (F0 m 303 ls [.int y_161]) := by
                                  intro y_161 by_161 hjhcut_162_0 ls hl
                                  refine lv_istore (lv' := [(16, .int y_161), (15, .int y_159), (14, .int y_131), (13, .int y_129), (12, .int x_120), (11, .int y_117), (10, .int y_67), (9, .int 8), (8, .int y_68), (7, .int x_23), (6, .int y_20), (0, .ref o0), (1, .int 3), (2, .int p2), (3, .int p3), (4, .int p4), (5, .int p5)]) hx hb dX3_descend_303 hl (by decide) rfl (fun ls hl => ?_)
                                  refine lv_iload hx hb dX3_descend_305 (lv_at hl 3 rfl) ?_
                                  have hcut_164 : ∀ (y_163 : Int32), (0 ≤ y_163.toInt ∧ y_163.toInt ≤ 4) → ((y_129.toInt = 0 ∧ y_163.toInt = p5.toInt) ∨ (1 ≤ y_129.toInt ∧ y_163.toInt = p5.toInt + 1)) → ∀ (ls : Array Slot), lv_has ls 18 [(16, .int y_161), (15, .int y_159), (14, .int y_131), (13, .int y_129), (12, .int x_120), (11, .int y_117), (10, .int y_67), (9, .int 8), (8, .int y_68), (7, .int x_23), (6, .int y_20), (0, .ref o0), (1, .int 3), (2, .int p2), (3, .int p3), (4, .int p4), (5, .int p5)] → W p l e (headSpec (wU yX3_descend cX3_descend 18 (some .boolean)) { frames := 9, cells := 0, slots := 0, locals := 309 }).room s m [.ref o0, .int 3, .int p2, .int p3, .int p4, .int p5].toArray below meth c H locs 0 0 (MQ below (va_Qi (fun (r : Int32) (f9 : Nat → va_E) => GI (okc cI cL cZ cR cG cH L kd) kd L f9 ∧ (0 ≤ r.toInt ∧ r.toInt ≤ 1) ∧ (∀ b, kd b ≠ 1 → kd b ≠ 3 → kd b ≠ 10 → kd b ≠ 517 → kd b ≠ 518 → kd b ≠ 519 → kd b ≠ 520 → kd b ≠ 521 → kd b ≠ 522 → kd b ≠ 523 → kd b ≠ 524 → kd b ≠ 525 → kd b ≠ 526 → kd b ≠ 527 → f9 b = f b) ∧ (∀ b, kd b = 1 → fldR (f9 b) 0 = fldR (f b) 0) ∧ (∀ b, kd b = 1 → fldR (f9 b) 1 = fldR (f b) 1) ∧ (∀ b, kd b = 3 → fldR (f9 b) 0 = fldR (f b) 0) ∧ (∀ b, kd b = 3 → fldR (f9 b) 3 = fldR (f b) 3) ∧ (∀ d9, fldR (f9 o0) 3 = some d9 → drel kd 1 521 522 f9 d9)) (qP (dC, dI) cI cL cZ cR cG cH L) (fun q => q ∈ L)) [.ref o0, .int 3, .int p2, .int p3, .int p4, .int p5].toArray s 0 0 (fun q => q ∈ L)) (F0 m 319 ls [.int y_163]) := by
                                    intro y_163 by_163 hjhcut_164_0 ls hl
                                    refine lv_istore (lv' := [(17, .int y_163), (16, .int y_161), (15, .int y_159), (14, .int y_131), (13, .int y_129), (12, .int x_120), (11, .int y_117), (10, .int y_67), (9, .int 8), (8, .int y_68), (7, .int x_23), (6, .int y_20), (0, .ref o0), (1, .int 3), (2, .int p2), (3, .int p3), (4, .int p4), (5, .int p5)]) hx hb dX3_descend_319 hl (by decide) rfl (fun ls hl => ?_)
                                    refine lv_iload hx hb dX3_descend_321 (lv_at hl 9 rfl) ?_
                                    refine lv_aload_n hx hb dX3_descend_323 rfl (lv_at hl 12 rfl) ?_
                                    refine lv_iload_n hx hb dX3_descend_324 rfl (lv_at hl 13 rfl) ?_
                                    refine lv_iconst (v := 1) hx hb dX3_descend_325 (by decide) ?_
                                    refine lv_iadd hx hb dX3_descend_326 ?_
                                    refine tk_topi (y := 4) (by decide) ?_
                                    refine lv_iload hx hb dX3_descend_327 (lv_at hl 2 rfl) ?_
                                    refine lv_iload_n hx hb dX3_descend_329 rfl (lv_at hl 15 rfl) ?_
                                    refine lv_iload hx hb dX3_descend_330 (lv_at hl 3 rfl) ?_
                                    refine lv_isub hx hb dX3_descend_332 ?_
                                    refine lv_topi (fun x_165 ex_165 => ?_)
                                    have hx_165 : x_165.toInt = p3.toInt - y_131.toInt := by rw [ex_165, sb_I (by omega) (by omega)]
                                    have bx_165 : ((-1) ≤ x_165.toInt ∧ x_165.toInt ≤ 2147483647) := by constructor <;> omega
                                    refine lv_iload hx hb dX3_descend_333 (lv_at hl 1 rfl) ?_
                                    refine lv_iload hx hb dX3_descend_335 (lv_at hl 0 rfl) ?_
                                    refine tk_ViP (As := [.int 4, .int y_159, .int x_165, .int y_161, .int y_163]) (rest := [.int y_68]) (n := 5) hx hb hml hown hU hN hZ (s_X3_descend_k3_c4 l (dC, dI) cI cL cZ cR cG cH Z kd L f_154 hG o0 mo0 ko0 y_159 (by constructor <;> omega) x_165 y_161 (by constructor <;> omega) y_163 (by constructor <;> omega) (by (try rw [ti_4]) <;> omega) (fun d9 h9 => by rw [hfo_155] at h9; obtain rfl := Option.some.inj h9; exact hT0)) wd_762 wd_763 wd_764 wd_16 wd_765 (by decide +kernel) ⟨Nat.le_of_ble_eq_true rfl, Nat.le_of_ble_eq_true rfl⟩ hK hP hD hS mo0 hfo_155 3 rfl rfl rfl hl.1 rfl (Nat.le_of_ble_eq_true rfl) dX3_descend_337 ⟨Nat.le_of_ble_eq_true rfl, Nat.le_of_ble_eq_true rfl⟩ (fun x_166 f_167 H locs hw hP hD hS => ?_)
                                    obtain ⟨hG, bx_166, hkc_168, hrc_169, hrc_170, hrc_171, hrc_172, hTc_173⟩ := hw
                                    have hfo_175 : f_167 a_96 = .inr (8, [.ref a_135, .ref a_136, .ref a_137, .ref a_138, .ref a_139]) := by rw [hkc_168 a_96 (by rw [ka_96]; decide) (by rw [ka_96]; decide) (by rw [ka_96]; decide) (by rw [ka_96]; decide) (by rw [ka_96]; decide) (by rw [ka_96]; decide) (by rw [ka_96]; decide) (by rw [ka_96]; decide) (by rw [ka_96]; decide) (by rw [ka_96]; decide) (by rw [ka_96]; decide) (by rw [ka_96]; decide) (by rw [ka_96]; decide) (by rw [ka_96]; decide)]; exact hfo_157
                                    have hfr0 : ∀ b, kd b ≠ 1 → kd b ≠ 3 → kd b ≠ 10 → kd b ≠ 517 → kd b ≠ 518 → kd b ≠ 519 → kd b ≠ 520 → kd b ≠ 521 → kd b ≠ 522 → kd b ≠ 523 → kd b ≠ 524 → kd b ≠ 525 → kd b ≠ 526 → kd b ≠ 527 → f_167 b = f b := fun b q1 q3 q10 q517 q518 q519 q520 q521 q522 q523 q524 q525 q526 q527 => (hkc_168 b q1 q3 q10 q517 q518 q519 q520 q521 q522 q523 q524 q525 q526 q527).trans (hfr0 b q1 q3 q10 q517 q518 q519 q520 q521 q522 q523 q524 q525 q526 q527)
                                    have hrr1_0 : ∀ b, kd b = 1 → fldR (f_167 b) 0 = fldR (f b) 0 := fun b kb => (hrc_169 b kb).trans (hrr1_0 b kb)
                                    have hrr1_1 : ∀ b, kd b = 1 → fldR (f_167 b) 1 = fldR (f b) 1 := fun b kb => (hrc_170 b kb).trans (hrr1_1 b kb)
                                    have hrr3_0 : ∀ b, kd b = 3 → fldR (f_167 b) 0 = fldR (f b) 0 := fun b kb => (hrc_171 b kb).trans (hrr3_0 b kb)
                                    have hrr3_3 : ∀ b, kd b = 3 → fldR (f_167 b) 3 = fldR (f b) 3 := fun b kb => (hrc_172 b kb).trans (hrr3_3 b kb)
                                    obtain ⟨a_177, a_178, a_179, a_180, a_181, v_182, v_183, v_184, v_185, v_186, v_187, v_188, a_189, a_190, a_191, v_192, a_193, a_194, hfo_176, ⟨ma_177, ka_177⟩, ⟨ma_178, ka_178⟩, ⟨ma_179, ka_179⟩, ⟨ma_180, ka_180⟩, ⟨ma_181, ka_181⟩, bv_182, bv_183, bv_184, ⟨ma_189, ka_189⟩, ⟨ma_190, ka_190⟩, ⟨ma_191, ka_191⟩, bv_192, ⟨ma_193, ka_193⟩, ⟨ma_194, ka_194⟩⟩ := un_3 (hG _ mo0) ko0
                                    have bv_185 : ((-2147483648) ≤ v_185.toInt ∧ v_185.toInt ≤ 2147483647) := ⟨i32_lo _, i32_hi _⟩
                                    have bv_186 : ((-2147483648) ≤ v_186.toInt ∧ v_186.toInt ≤ 2147483647) := ⟨i32_lo _, i32_hi _⟩
                                    have bv_187 : ((-2147483648) ≤ v_187.toInt ∧ v_187.toInt ≤ 2147483647) := ⟨i32_lo _, i32_hi _⟩
                                    have bv_188 : ((-2147483648) ≤ v_188.toInt ∧ v_188.toInt ≤ 2147483647) := ⟨i32_lo _, i32_hi _⟩
                                    obtain rfl : a_2 = a_177 := by have hk9 := hrr3_0 o0 ko0; rw [hfo_176, hfo_1] at hk9; exact (Option.some.inj hk9).symm
                                    obtain rfl : a_5 = a_180 := by have hk9 := hrr3_3 o0 ko0; rw [hfo_176, hfo_1] at hk9; exact (Option.some.inj hk9).symm
                                    have hT_195 := hTc_173 a_5 (by rw [hfo_176]; rfl)
                                    refine lv_ior hx hb dX3_descend_340 ?_
                                    refine lv_topi (fun x_196 ex_196 => ?_)
                                    have bx_196 : (0 ≤ x_196.toInt ∧ x_196.toInt ≤ 1) := by rw [ex_196]; exact or_K 1 (by decide) (by constructor <;> omega) (by constructor <;> omega)
                                    refine lv_istore (lv' := [(8, .int x_196), (17, .int y_163), (16, .int y_161), (15, .int y_159), (14, .int y_131), (13, .int y_129), (12, .int x_120), (11, .int y_117), (10, .int y_67), (9, .int 8), (7, .int x_23), (6, .int y_20), (0, .ref o0), (1, .int 3), (2, .int p2), (3, .int p3), (4, .int p4), (5, .int p5)]) hx hb dX3_descend_341 hl (by decide) rfl (fun ls hl => ?_)
                                    exact hcut_126 x_196 (by constructor <;> omega) f_167 hG _ _ hP hS hD hfr0 hrr1_0 hrr1_1 hrr3_0 hrr3_3 hT_195 ls (lv_sub hl [6, 7, 8, 9, 0, 10, 11, 12, 13, 14, 15, 16, 17] rfl)
                                  refine lv_if_ne (tgt := 315) hx hb dX3_descend_307 (by decide) (fun c_197 => ?_) (fun c_197 => ?_)
                                  · skip
                                    rw [← Int32.toInt_inj, ti_0] at c_197
                                    refine lv_iload hx hb dX3_descend_315 (lv_at hl 16 rfl) ?_
                                    refine lv_iconst (v := 1) hx hb dX3_descend_317 (by decide) ?_
                                    refine lv_iadd hx hb dX3_descend_318 ?_
                                    refine lv_topi (fun x_198 ex_198 => ?_)
                                    have hx_198 : x_198.toInt = p5.toInt + 1 := by rw [ex_198, ad_I (by rw [ti_1]; omega) (by rw [ti_1]; omega), ti_1]
                                    have bx_198 : (1 ≤ x_198.toInt ∧ x_198.toInt ≤ 4) := by constructor <;> omega
                                    exact hcut_164 x_198 (by constructor <;> omega) (by (try rw [ti_8]) <;> (try rw [ti_3]) <;> omega) ls (lv_sub hl [0, 1, 2, 3, 4, 5, 6, 7, 8, 9, 10, 11, 12, 13, 14, 15, 16] rfl)
                                  · skip
                                    rw [← Int32.toInt_inj, ti_0] at c_197
                                    refine lv_iload hx hb dX3_descend_310 (lv_at hl 16 rfl) ?_
                                    refine lv_goto (tgt := 319) hx hb dX3_descend_312 (by decide) ?_
                                    exact hcut_164 p5 (by constructor <;> omega) (by (try rw [ti_8]) <;> (try rw [ti_3]) <;> omega) ls (lv_sub hl [0, 1, 2, 3, 4, 5, 6, 7, 8, 9, 10, 11, 12, 13, 14, 15, 16] rfl)
                                refine lv_if_ne (tgt := 291) hx hb dX3_descend_283 (by decide) (fun c_199 => ?_) (fun c_199 => ?_)
                                · skip
                                  rw [← Int32.toInt_inj, ti_0] at c_199
                                  refine lv_iload hx hb dX3_descend_291 (lv_at hl 14 rfl) ?_
                                  refine lv_iload hx hb dX3_descend_293 (lv_at hl 2 rfl) ?_
                                  refine va_gets hx hb hZ.2.2.1 hS hown (hU _ wd_769) (fun _ h9 => h9) dX3_descend_295 ?_
                                  refine lv_iload hx hb dX3_descend_298 (lv_at hl 15 rfl) ?_
                                  refine va_ti (v := zWt (Int32.toNatClampNeg p5)) hx hb hZ.2.2.2.1 hS (vp_in_iff.mpr (by constructor <;> omega)) rfl dX3_descend_300 ?_
                                  rw [zWt]
                                  refine lv_topi (fun x_200 ex_200 => ?_)
                                  have bx_200 : (1 ≤ x_200.toInt ∧ x_200.toInt ≤ 43046721) := by rw [ex_200]; exact zw_b (vp_in_iff.mpr (by constructor <;> omega))
                                  have htx_200 := zw_t ex_200 (vp_in_iff.mpr (by constructor <;> omega))
                                  refine lv_imul hx hb dX3_descend_301 ?_
                                  refine lv_topi (fun x_201 ex_201 => ?_)
                                  have bx_201 : (0 ≤ x_201.toInt ∧ x_201.toInt ≤ 344373768) := by rw [ex_201]; exact ml_B (a := 8) (b := 43046721) (by constructor <;> omega) (by constructor <;> omega) (by decide)
                                  have hm8 : 0 ≤ x_201.toInt ∧ x_201.toInt ≤ 8 * x_200.toInt := by rw [ex_201]; exact ml_8 (by constructor <;> omega) (by constructor <;> omega)
                                  refine lv_iadd hx hb dX3_descend_302 ?_
                                  refine lv_topi (fun x_202 ex_202 => ?_)
                                  have hx_202 : x_202.toInt = p4.toInt + x_201.toInt := by rw [ex_202, ad_I (by omega) (by omega)]
                                  have bx_202 : (0 ≤ x_202.toInt ∧ x_202.toInt ≤ 731794256) := by constructor <;> omega
                                  exact hcut_162 x_202 (by constructor <;> omega) (by (try rw [ti_8]) <;> (try rw [ti_3]) <;> omega) ls (lv_sub hl [0, 1, 2, 3, 4, 5, 6, 7, 8, 9, 10, 11, 12, 13, 14, 15] rfl)
                                · skip
                                  rw [← Int32.toInt_inj, ti_0] at c_199
                                  refine lv_iload hx hb dX3_descend_286 (lv_at hl 14 rfl) ?_
                                  refine lv_goto (tgt := 303) hx hb dX3_descend_288 (by decide) ?_
                                  exact hcut_162 p4 (by constructor <;> omega) (by (try rw [ti_8]) <;> (try rw [ti_3]) <;> omega) ls (lv_sub hl [0, 1, 2, 3, 4, 5, 6, 7, 8, 9, 10, 11, 12, 13, 14, 15] rfl)
                              refine lv_if_ne (tgt := 276) hx hb dX3_descend_269 (by decide) (fun c_203 => ?_) (fun c_203 => ?_)
                              · skip
                                rw [← Int32.toInt_inj, ti_0] at c_203
                                refine lv_iload_n hx hb dX3_descend_276 rfl (lv_at hl 11 rfl) ?_
                                refine lv_iconst (v := 1) hx hb dX3_descend_277 (by decide) ?_
                                refine lv_iadd hx hb dX3_descend_278 ?_
                                refine lv_topi (fun x_204 ex_204 => ?_)
                                have hx_204 : x_204.toInt = p2.toInt + 1 := by rw [ex_204, ad_I (by rw [ti_1]; omega) (by rw [ti_1]; omega), ti_1]
                                have bx_204 : (1 ≤ x_204.toInt ∧ x_204.toInt ≤ 9) := by constructor <;> omega
                                exact hcut_160 x_204 (by constructor <;> omega) ls (lv_sub hl [0, 1, 2, 3, 4, 5, 6, 7, 8, 9, 10, 11, 12, 13, 14] rfl)
                              · skip
                                rw [← Int32.toInt_inj, ti_0] at c_203
                                refine lv_iload_n hx hb dX3_descend_272 rfl (lv_at hl 11 rfl) ?_
                                refine lv_goto (tgt := 279) hx hb dX3_descend_273 (by decide) ?_
                                exact hcut_160 p2 (by constructor <;> omega) ls (lv_sub hl [0, 1, 2, 3, 4, 5, 6, 7, 8, 9, 10, 11, 12, 13, 14] rfl)
                            · skip
                              rw [← Int32.toInt_inj, ti_0] at c_150
                              refine lv_goto (tgt := 343) hx hb dX3_descend_256 (by decide) ?_
                              exact hcut_126 y_68 (by constructor <;> omega) f_141 hG _ _ hP hS hD hfr0 hrr1_0 hrr1_1 hrr3_0 hrr3_3 hT0 ls (lv_sub hl [2, 3, 4, 5, 6, 7, 8, 9, 10, 11, 12, 13, 14] rfl)
                        refine lv_if_eq (tgt := 218) hx hb dX3_descend_210 (by decide) (fun c_205 => ?_) (fun c_205 => ?_)
                        · skip
                          rw [← Int32.toInt_inj, ti_0] at c_205
                          refine lv_iconst (v := 1) hx hb dX3_descend_218 (by decide) ?_
                          refine lv_goto (tgt := 223) hx hb dX3_descend_219 (by decide) ?_
                          exact hcut_132 1 (by decide) ls (lv_sub hl [0, 1, 2, 3, 4, 5, 6, 7, 8, 9, 10, 11, 12, 13] rfl)
                        · skip
                          rw [← Int32.toInt_inj, ti_0] at c_205
                          refine lv_iload hx hb dX3_descend_213 (lv_at hl 0 rfl) ?_
                          refine lv_if_ne (tgt := 222) hx hb dX3_descend_215 (by decide) (fun c_206 => ?_) (fun c_206 => ?_)
                          · skip
                            rw [← Int32.toInt_inj, ti_0] at c_206
                            refine lv_iconst (v := 0) hx hb dX3_descend_222 (by decide) ?_
                            exact hcut_132 0 (by decide) ls (lv_sub hl [0, 1, 2, 3, 4, 5, 6, 7, 8, 9, 10, 11, 12, 13] rfl)
                          · skip
                            rw [← Int32.toInt_inj, ti_0] at c_206
                            refine lv_iconst (v := 1) hx hb dX3_descend_218 (by decide) ?_
                            refine lv_goto (tgt := 223) hx hb dX3_descend_219 (by decide) ?_
                            exact hcut_132 1 (by decide) ls (lv_sub hl [0, 1, 2, 3, 4, 5, 6, 7, 8, 9, 10, 11, 12, 13] rfl)
                      refine lv_if_eq (tgt := 196) hx hb dX3_descend_180 (by decide) (fun c_207 => ?_) (fun c_207 => ?_)
                      · skip
                        rw [← Int32.toInt_inj, ti_0] at c_207
                        refine lv_aload_n hx hb dX3_descend_196 rfl (lv_at hl 7 rfl) ?_
                        refine tk_getP (D := (dC, dI)) (ci := 3) (v := .ref a_2) (C := RX3) (T := TX3) (N := 18) hx hb hU inlX3 hown hK hP mo0 hfo_93 rfl 0 (by decide) (hU _ wd_48) (fun _ h9 => h9) rfl dX3_descend_197 ?_
                        obtain ⟨a_209, v_210, a_211, a_212, a_213, a_214, v_215, a_216, a_217, a_218, a_219, a_220, v_221, a_222, a_223, a_224, hfo_208, ⟨ma_209, ka_209⟩, bv_210, ⟨ma_211, ka_211⟩, ⟨ma_212, ka_212⟩, ⟨ma_213, ka_213⟩, ⟨ma_214, ka_214⟩, bv_215, ⟨ma_216, ka_216⟩, ⟨ma_217, ka_217⟩, ⟨ma_218, ka_218⟩, ⟨ma_219, ka_219⟩, ⟨ma_220, ka_220⟩, bv_221, ⟨ma_222, ka_222⟩, ⟨ma_223, ka_223⟩, ⟨ma_224, ka_224⟩⟩ := un_7 (hG _ ma_2) ka_2
                        refine tk_getP (D := (dC, dI)) (ci := 7) (v := .ref a_213) (C := RX7) (T := TX7) (N := 16) hx hb hU inlX7 hown hK hP ma_2 hfo_208 rfl 4 (by decide) (hU _ wd_768) (fun _ h9 => h9) rfl dX3_descend_200 ?_
                        refine lv_iload hx hb dX3_descend_203 (lv_at hl 0 rfl) ?_
                        obtain ⟨g_226, hfo_225, hbg_226⟩ := un_511 (hG _ ma_213) ka_213
                        refine tk_ildP hx hb hK hP 0 ma_213 hfo_225 rfl (vp_in_iff.mpr (by constructor <;> omega)) dX3_descend_205 ?_
                        refine lv_topi (fun x_227 ex_227 => ?_)
                        have bx_227 : (0 ≤ x_227.toInt ∧ x_227.toInt ≤ 8) := by rw [ex_227]; exact hbg_226 _
                        exact hcut_130 x_227 (by constructor <;> omega) ls (lv_sub hl [0, 1, 2, 3, 4, 5, 6, 7, 8, 9, 10, 11, 12] rfl)
                      · skip
                        rw [← Int32.toInt_inj, ti_0] at c_207
                        refine lv_aload_n hx hb dX3_descend_183 rfl (lv_at hl 7 rfl) ?_
                        refine tk_getP (D := (dC, dI)) (ci := 3) (v := .ref a_2) (C := RX3) (T := TX3) (N := 18) hx hb hU inlX3 hown hK hP mo0 hfo_93 rfl 0 (by decide) (hU _ wd_48) (fun _ h9 => h9) rfl dX3_descend_184 ?_
                        obtain ⟨a_229, v_230, a_231, a_232, a_233, a_234, v_235, a_236, a_237, a_238, a_239, a_240, v_241, a_242, a_243, a_244, hfo_228, ⟨ma_229, ka_229⟩, bv_230, ⟨ma_231, ka_231⟩, ⟨ma_232, ka_232⟩, ⟨ma_233, ka_233⟩, ⟨ma_234, ka_234⟩, bv_235, ⟨ma_236, ka_236⟩, ⟨ma_237, ka_237⟩, ⟨ma_238, ka_238⟩, ⟨ma_239, ka_239⟩, ⟨ma_240, ka_240⟩, bv_241, ⟨ma_242, ka_242⟩, ⟨ma_243, ka_243⟩, ⟨ma_244, ka_244⟩⟩ := un_7 (hG _ ma_2) ka_2
                        refine tk_getP (D := (dC, dI)) (ci := 7) (v := .ref a_234) (C := RX7) (T := TX7) (N := 16) hx hb hU inlX7 hown hK hP ma_2 hfo_228 rfl 5 (by decide) (hU _ wd_767) (fun _ h9 => h9) rfl dX3_descend_187 ?_
                        refine lv_iload hx hb dX3_descend_190 (lv_at hl 0 rfl) ?_
                        obtain ⟨g_246, hfo_245, hbg_246⟩ := un_511 (hG _ ma_234) ka_234
                        refine tk_ildP hx hb hK hP 0 ma_234 hfo_245 rfl (vp_in_iff.mpr (by constructor <;> omega)) dX3_descend_192 ?_
                        refine lv_topi (fun x_247 ex_247 => ?_)
                        have bx_247 : (0 ≤ x_247.toInt ∧ x_247.toInt ≤ 8) := by rw [ex_247]; exact hbg_246 _
                        refine lv_goto (tgt := 206) hx hb dX3_descend_193 (by decide) ?_
                        exact hcut_130 x_247 (by constructor <;> omega) ls (lv_sub hl [0, 1, 2, 3, 4, 5, 6, 7, 8, 9, 10, 11, 12] rfl)
                    · skip
                      rw [← Int32.toInt_inj, ti_m1] at c_128
                      refine lv_goto (tgt := 343) hx hb dX3_descend_173 (by decide) ?_
                      exact hcut_126 y_68 (by constructor <;> omega) f_70 hG _ _ hP hS hD hfr0 hrr1_0 hrr1_1 hrr3_0 hrr3_3 hT0 ls (lv_sub hl [0, 1, 2, 3, 4, 5, 6, 7, 8, 9, 10, 11, 12] rfl)
                  refine lv_icmp_ge (tgt := 152) hx hb dX3_descend_140 (by decide) (fun c_248 => ?_) (fun c_248 => ?_)
                  · skip
                    rw [Int32.le_iff_toInt_le, ti_4] at c_248
                    refine lv_iconst (v := 0) hx hb dX3_descend_152 (by decide) ?_
                    exact hcut_118 0 (by decide) (by (try rw [ti_0]) <;> (try rw [ti_8]) <;> (try rw [ti_3]) <;> omega) ls (lv_sub hl [0, 1, 2, 3, 4, 5, 6, 7, 8, 9, 10] rfl)
                  · skip
                    rw [Int32.le_iff_toInt_le, ti_4] at c_248
                    refine lv_aload_n hx hb dX3_descend_143 rfl (lv_at hl 5 rfl) ?_
                    refine tk_getP (D := (dC, dI)) (ci := 3) (v := .ref a_98) (C := RX3) (T := TX3) (N := 18) hx hb hU inlX3 hown hK hP mo0 hfo_93 rfl 4 (by decide) (hU _ wd_61) (fun _ h9 => h9) rfl dX3_descend_144 ?_
                    refine lv_iload_n hx hb dX3_descend_147 rfl (lv_at hl 7 rfl) ?_
                    obtain ⟨g_250, hfo_249, hbg_250⟩ := un_507 (hG _ ma_98) ka_98
                    refine tk_ildP hx hb hK hP 0 ma_98 hfo_249 rfl (vp_in_iff.mpr (by constructor <;> omega)) dX3_descend_148 ?_
                    refine lv_topi (fun x_251 ex_251 => ?_)
                    have bx_251 : (0 ≤ x_251.toInt ∧ x_251.toInt ≤ 8) := by rw [ex_251]; exact hbg_250 _
                    refine lv_goto (tgt := 153) hx hb dX3_descend_149 (by decide) ?_
                    exact hcut_118 x_251 (by constructor <;> omega) (by (try rw [ti_8]) <;> (try rw [ti_3]) <;> omega) ls (lv_sub hl [0, 1, 2, 3, 4, 5, 6, 7, 8, 9, 10] rfl)
          exact hloop_66 9 y_48 (by constructor <;> omega) y_25 (by constructor <;> omega) f_27 hG _ _ hP hS hD hfr0 hrr1_0 hrr1_1 hrr3_0 hrr3_3 hT0 (by (try rw [ti_8]) <;> (try rw [ti_3]) <;> omega) (by (try rw [ti_8]) <;> (try rw [ti_3]) <;> omega) ls hl
        refine lv_icmp_ge (tgt := 117) hx hb dX3_descend_110 (by decide) (fun c_252 => ?_) (fun c_252 => ?_)
        · skip
          rw [Int32.le_iff_toInt_le] at c_252
          refine lv_iconst (v := 4) hx hb dX3_descend_117 (by decide) ?_
          exact hcut_49 4 (by decide) (by (try rw [ti_4]) <;> (try rw [ti_8]) <;> (try rw [ti_3]) <;> omega) ls (lv_sub hl [0, 1, 2, 3, 4, 5, 6, 7, 8, 9] rfl)
        · skip
          rw [Int32.le_iff_toInt_le] at c_252
          refine lv_iconst (v := 0) hx hb dX3_descend_113 (by decide) ?_
          refine lv_goto (tgt := 118) hx hb dX3_descend_114 (by decide) ?_
          exact hcut_49 0 (by decide) (by (try rw [ti_0]) <;> (try rw [ti_8]) <;> (try rw [ti_3]) <;> omega) ls (lv_sub hl [0, 1, 2, 3, 4, 5, 6, 7, 8, 9] rfl)
      refine lv_icmp_ne (tgt := 88) hx hb dX3_descend_71 (by decide) (fun c_253 => ?_) (fun c_253 => ?_)
      · skip
        rw [← Int32.toInt_inj] at c_253
        refine lv_iconst (v := 0) hx hb dX3_descend_88 (by decide) ?_
        exact hcut_28 0 (by decide) f hG _ _ hP hS hD hfr0 hrr1_0 hrr1_1 hrr3_0 hrr3_3 hT0 ls (lv_sub hl [0, 1, 2, 3, 4, 5, 6, 7] rfl)
      · skip
        rw [← Int32.toInt_inj] at c_253
        refine lv_aload_n hx hb dX3_descend_74 rfl (lv_at hl 2 rfl) ?_
        refine lv_iload_n hx hb dX3_descend_75 rfl (lv_at hl 3 rfl) ?_
        refine lv_iload hx hb dX3_descend_76 (lv_at hl 6 rfl) ?_
        refine tk_ViP (As := [.int 3, .int p4]) (rest := []) (n := 2) hx hb hml hown hU hN hZ (s_X3_complete_k3 l (dC, dI) cI cL cZ cR cG cH Z kd L f hG o0 mo0 ko0 3 (by decide) p4 (by constructor <;> omega) (fun d9 h9 => by rw [hfo_1] at h9; obtain rfl := Option.some.inj h9; exact hT0)) wd_792 wd_793 wd_794 wd_16 wd_795 (by decide +kernel) ⟨Nat.le_of_ble_eq_true rfl, Nat.le_of_ble_eq_true rfl⟩ hK hP hD hS mo0 hfo_1 3 rfl rfl rfl hl.1 rfl (Nat.le_of_ble_eq_true rfl) dX3_descend_78 ⟨Nat.le_of_ble_eq_true rfl, Nat.le_of_ble_eq_true rfl⟩ (fun x_254 f_255 H locs hw hP hD hS => ?_)
        obtain ⟨hG, bx_254, hkc_256, hrc_257, hrc_258, hTc_259⟩ := hw
        have hfr0 : ∀ b, kd b ≠ 1 → kd b ≠ 3 → kd b ≠ 10 → kd b ≠ 517 → kd b ≠ 518 → kd b ≠ 519 → kd b ≠ 520 → kd b ≠ 521 → kd b ≠ 522 → kd b ≠ 523 → kd b ≠ 524 → kd b ≠ 525 → kd b ≠ 526 → kd b ≠ 527 → f_255 b = f b := fun b q1 q3 q10 q517 q518 q519 q520 q521 q522 q523 q524 q525 q526 q527 => (hkc_256 b q3 q10 q524 q526 q527).trans (hfr0 b q1 q3 q10 q517 q518 q519 q520 q521 q522 q523 q524 q525 q526 q527)
        have hrr1_0 : ∀ b, kd b = 1 → fldR (f_255 b) 0 = fldR (f b) 0 := fun b kb => (congrArg (fun x => fldR x 0) (hkc_256 b (by rw [kb]; decide) (by rw [kb]; decide) (by rw [kb]; decide) (by rw [kb]; decide) (by rw [kb]; decide))).trans (hrr1_0 b kb)
        have hrr1_1 : ∀ b, kd b = 1 → fldR (f_255 b) 1 = fldR (f b) 1 := fun b kb => (congrArg (fun x => fldR x 1) (hkc_256 b (by rw [kb]; decide) (by rw [kb]; decide) (by rw [kb]; decide) (by rw [kb]; decide) (by rw [kb]; decide))).trans (hrr1_1 b kb)
        have hrr3_0 : ∀ b, kd b = 3 → fldR (f_255 b) 0 = fldR (f b) 0 := fun b kb => (hrc_257 b kb).trans (hrr3_0 b kb)
        have hrr3_3 : ∀ b, kd b = 3 → fldR (f_255 b) 3 = fldR (f b) 3 := fun b kb => (hrc_258 b kb).trans (hrr3_3 b kb)
        have hT0 : drel kd 1 521 522 f_255 a_5 := hT0.keep (fun b q => congrArg (fun x => fldI x 5) (hkc_256 b (by rw [q]; decide) (by rw [q]; decide) (by rw [q]; decide) (by rw [q]; decide) (by rw [q]; decide))) (fun b q => congrArg (fun x => fldR x 0) (hkc_256 b (by rw [q]; decide) (by rw [q]; decide) (by rw [q]; decide) (by rw [q]; decide) (by rw [q]; decide))) (fun b q => congrArg (fun x => fldR x 1) (hkc_256 b (by rw [q]; decide) (by rw [q]; decide) (by rw [q]; decide) (by rw [q]; decide) (by rw [q]; decide))) (fun b q => hkc_256 b (by rw [q]; decide) (by rw [q]; decide) (by rw [q]; decide) (by rw [q]; decide) (by rw [q]; decide)) (fun b q => hkc_256 b (by rw [q]; decide) (by rw [q]; decide) (by rw [q]; decide) (by rw [q]; decide) (by rw [q]; decide))
        obtain ⟨a_262, a_263, a_264, a_265, a_266, v_267, v_268, v_269, v_270, v_271, v_272, v_273, a_274, a_275, a_276, v_277, a_278, a_279, hfo_261, ⟨ma_262, ka_262⟩, ⟨ma_263, ka_263⟩, ⟨ma_264, ka_264⟩, ⟨ma_265, ka_265⟩, ⟨ma_266, ka_266⟩, bv_267, bv_268, bv_269, ⟨ma_274, ka_274⟩, ⟨ma_275, ka_275⟩, ⟨ma_276, ka_276⟩, bv_277, ⟨ma_278, ka_278⟩, ⟨ma_279, ka_279⟩⟩ := un_3 (hG _ mo0) ko0
        have bv_270 : ((-2147483648) ≤ v_270.toInt ∧ v_270.toInt ≤ 2147483647) := ⟨i32_lo _, i32_hi _⟩
        have bv_271 : ((-2147483648) ≤ v_271.toInt ∧ v_271.toInt ≤ 2147483647) := ⟨i32_lo _, i32_hi _⟩
        have bv_272 : ((-2147483648) ≤ v_272.toInt ∧ v_272.toInt ≤ 2147483647) := ⟨i32_lo _, i32_hi _⟩
        have bv_273 : ((-2147483648) ≤ v_273.toInt ∧ v_273.toInt ≤ 2147483647) := ⟨i32_lo _, i32_hi _⟩
        obtain rfl : a_2 = a_262 := by have hk9 := hrr3_0 o0 ko0; rw [hfo_261, hfo_1] at hk9; exact (Option.some.inj hk9).symm
        obtain rfl : a_5 = a_265 := by have hk9 := hrr3_3 o0 ko0; rw [hfo_261, hfo_1] at hk9; exact (Option.some.inj hk9).symm
        have hT_280 := hTc_259 a_5 (by rw [hfo_261]; rfl)
        refine lv_if_eq (tgt := 88) hx hb dX3_descend_81 (by decide) (fun c_281 => ?_) (fun c_281 => ?_)
        · skip
          rw [← Int32.toInt_inj, ti_0] at c_281
          refine lv_iconst (v := 0) hx hb dX3_descend_88 (by decide) ?_
          exact hcut_28 0 (by decide) f_255 hG _ _ hP hS hD hfr0 hrr1_0 hrr1_1 hrr3_0 hrr3_3 hT_280 ls (lv_sub hl [0, 1, 2, 3, 4, 5, 6, 7] rfl)
        · skip
          rw [← Int32.toInt_inj, ti_0] at c_281
          refine lv_iconst (v := 1) hx hb dX3_descend_84 (by decide) ?_
          refine lv_goto (tgt := 89) hx hb dX3_descend_85 (by decide) ?_
          exact hcut_28 1 (by decide) f_255 hG _ _ hP hS hD hfr0 hrr1_0 hrr1_1 hrr3_0 hrr3_3 hT_280 ls (lv_sub hl [0, 1, 2, 3, 4, 5, 6, 7] rfl)
    · skip
      rw [← Int32.toInt_inj, ti_0] at c_24
      refine lv_aload_n hx hb dX3_descend_36 rfl (lv_at hl 2 rfl) ?_
      refine tk_getP (D := (dC, dI)) (ci := 3) (v := .ref a_5) (C := RX3) (T := TX3) (N := 18) hx hb hU inlX3 hown hK hP mo0 hfo_1 rfl 3 (by decide) (hU _ wd_60) (fun _ h9 => h9) rfl dX3_descend_37 ?_
      refine lv_aload_n hx hb dX3_descend_40 rfl (lv_at hl 2 rfl) ?_
      refine tk_getP (D := (dC, dI)) (ci := 3) (v := .ref a_4) (C := RX3) (T := TX3) (N := 18) hx hb hU inlX3 hown hK hP mo0 hfo_1 rfl 2 (by decide) (hU _ wd_56) (fun _ h9 => h9) rfl dX3_descend_41 ?_
      refine lv_aload_n hx hb dX3_descend_44 rfl (lv_at hl 2 rfl) ?_
      refine tk_getP (D := (dC, dI)) (ci := 3) (v := .int v_10) (C := RX3) (T := TX3) (N := 18) hx hb hU inlX3 hown hK hP mo0 hfo_1 rfl 8 (by decide) (hU _ wd_734) (fun _ h9 => h9) rfl dX3_descend_45 ?_
      refine lv_iload_n hx hb dX3_descend_48 rfl (lv_at hl 3 rfl) ?_
      refine lv_iload hx hb dX3_descend_49 (lv_at hl 0 rfl) ?_
      obtain ⟨a_283, a_284, a_285, v_286, v_287, v_288, hfo_282, ⟨ma_283, ka_283⟩, ⟨ma_284, ka_284⟩, ⟨ma_285, ka_285⟩, bv_286, bv_287, bv_288⟩ := un_1 (hG _ ma_5) ka_5
      refine tk_VvP (As := [.ref a_4, .int v_10, .int 3, .int x_23]) (rest := []) (n := 4) hx hb hml hown hU hN hZ (s_X1_makeKey_k1_k8 l (dC, dI) cI cL cZ cR cG cH Z kd L f hG a_5 ma_5 ka_5 a_4 ma_4 ka_4 v_10 3 (by decide) x_23) wd_770 wd_771 wd_772 wd_59 wd_773 (by decide +kernel) ⟨Nat.le_of_ble_eq_true rfl, Nat.le_of_ble_eq_true rfl⟩ hK hP hD hS ma_5 hfo_282 1 rfl rfl rfl hl.1 rfl (Nat.le_of_ble_eq_true rfl) dX3_descend_51 ⟨Nat.le_of_ble_eq_true rfl, Nat.le_of_ble_eq_true rfl⟩ (fun f_290 H locs hw hP hD hS => ?_)
      obtain ⟨hG, hkc_291, hfc_292, hrc_293, hrc_294⟩ := hw
      have hfo_296 : f_290 o0 = .inr (3, [.ref a_2, .ref a_3, .ref a_4, .ref a_5, .ref a_6, .int v_7, .int v_8, .int v_9, .int v_10, .int v_11, .int v_12, .int v_13, .ref a_14, .ref a_15, .ref a_16, .int v_17, .ref a_18, .ref a_19]) := by rw [hkc_291 o0 (by rw [ko0]; decide) (by rw [ko0]; decide)]; exact hfo_1
      have hfr0 : ∀ b, kd b ≠ 1 → kd b ≠ 3 → kd b ≠ 10 → kd b ≠ 517 → kd b ≠ 518 → kd b ≠ 519 → kd b ≠ 520 → kd b ≠ 521 → kd b ≠ 522 → kd b ≠ 523 → kd b ≠ 524 → kd b ≠ 525 → kd b ≠ 526 → kd b ≠ 527 → f_290 b = f b := fun b q1 q3 q10 q517 q518 q519 q520 q521 q522 q523 q524 q525 q526 q527 => (hkc_291 b q1 q523).trans (hfr0 b q1 q3 q10 q517 q518 q519 q520 q521 q522 q523 q524 q525 q526 q527)
      have hrr1_0 : ∀ b, kd b = 1 → fldR (f_290 b) 0 = fldR (f b) 0 := fun b kb => (hrc_293 b kb).trans (hrr1_0 b kb)
      have hrr1_1 : ∀ b, kd b = 1 → fldR (f_290 b) 1 = fldR (f b) 1 := fun b kb => (hrc_294 b kb).trans (hrr1_1 b kb)
      have hrr3_0 : ∀ b, kd b = 3 → fldR (f_290 b) 0 = fldR (f b) 0 := fun b kb => (congrArg (fun x => fldR x 0) (hkc_291 b (by rw [kb]; decide) (by rw [kb]; decide))).trans (hrr3_0 b kb)
      have hrr3_3 : ∀ b, kd b = 3 → fldR (f_290 b) 3 = fldR (f b) 3 := fun b kb => (congrArg (fun x => fldR x 3) (hkc_291 b (by rw [kb]; decide) (by rw [kb]; decide))).trans (hrr3_3 b kb)
      have hT0 : drel kd 1 521 522 f_290 a_5 := hT0.keep (fun b q => hfc_292 b q) (fun b q => hrc_293 b q) (fun b q => hrc_294 b q) (fun b q => hkc_291 b (by rw [q]; decide) (by rw [q]; decide)) (fun b q => hkc_291 b (by rw [q]; decide) (by rw [q]; decide))
      obtain ⟨a_298, a_299, a_300, v_301, v_302, v_303, hfo_297, ⟨ma_298, ka_298⟩, ⟨ma_299, ka_299⟩, ⟨ma_300, ka_300⟩, bv_301, bv_302, bv_303⟩ := un_1 (hG _ ma_5) ka_5
      obtain rfl : a_283 = a_298 := by have hk9 := hrr1_0 a_5 ka_5; rw [hfo_297, hfo_282] at hk9; exact (Option.some.inj hk9).symm
      obtain rfl : a_284 = a_299 := by have hk9 := hrr1_1 a_5 ka_5; rw [hfo_297, hfo_282] at hk9; exact (Option.some.inj hk9).symm
      obtain rfl : v_288 = v_303 := by have hk9 := hfc_292 a_5 ka_5; rw [hfo_297, hfo_282] at hk9; exact (Option.some.inj hk9).symm
      refine lv_aload_n hx hb dX3_descend_54 rfl (lv_at hl 2 rfl) ?_
      refine tk_getP (D := (dC, dI)) (ci := 3) (v := .ref a_5) (C := RX3) (T := TX3) (N := 18) hx hb hU inlX3 hown hK hP mo0 hfo_296 rfl 3 (by decide) (hU _ wd_60) (fun _ h9 => h9) rfl dX3_descend_55 ?_
      refine tk_ViP (As := []) (rest := []) (n := 0) hx hb hml hown hU hN hZ (s_X1_hasKey_k1 l (dC, dI) cI cL cZ cR cG cH Z kd L f_290 hG a_5 ma_5 ka_5 hT0) wd_779 wd_780 wd_781 wd_59 wd_782 (by decide +kernel) ⟨Nat.le_of_ble_eq_true rfl, Nat.le_of_ble_eq_true rfl⟩ hK hP hD hS ma_5 hfo_297 1 rfl rfl rfl hl.1 rfl (Nat.le_of_ble_eq_true rfl) dX3_descend_58 ⟨Nat.le_of_ble_eq_true rfl, Nat.le_of_ble_eq_true rfl⟩ (fun x_304 f_305 H locs hw hP hD hS => ?_)
      obtain ⟨rfl, bx_304⟩ := hw
      refine lv_if_eq (tgt := 66) hx hb dX3_descend_61 (by decide) (fun c_307 => ?_) (fun c_307 => ?_)
      · skip
        rw [← Int32.toInt_inj, ti_0] at c_307
        refine lv_iload_n hx hb dX3_descend_66 rfl (lv_at hl 4 rfl) ?_
        refine lv_aload_n hx hb dX3_descend_67 rfl (lv_at hl 2 rfl) ?_
        refine tk_getP (D := (dC, dI)) (ci := 3) (v := .int v_7) (C := RX3) (T := TX3) (N := 18) hx hb hU inlX3 hown hK hP mo0 hfo_296 rfl 5 (by decide) (hU _ wd_726) (fun _ h9 => h9) rfl dX3_descend_68 ?_
        have hcut_312 : ∀ (y_308 : Int32), (0 ≤ y_308.toInt ∧ y_308.toInt ≤ 1) → ∀ (f_310 : Nat → va_E), GI (okc cI cL cZ cR cG cH L kd) kd L f_310 → ∀ (H : Heap) (locs : List Loc), va_P (dC, dI) vwCl (va_pl L f_310) H → va_S (fun q => q ∈ L) s.heap H locs → va_D (fun q => q ∈ L) (va_pl L f_310) → (∀ b, kd b ≠ 1 → kd b ≠ 3 → kd b ≠ 10 → kd b ≠ 517 → kd b ≠ 518 → kd b ≠ 519 → kd b ≠ 520 → kd b ≠ 521 → kd b ≠ 522 → kd b ≠ 523 → kd b ≠ 524 → kd b ≠ 525 → kd b ≠ 526 → kd b ≠ 527 → f_310 b = f b) → (∀ b, kd b = 1 → fldR (f_310 b) 0 = fldR (f b) 0) → (∀ b, kd b = 1 → fldR (f_310 b) 1 = fldR (f b) 1) → (∀ b, kd b = 3 → fldR (f_310 b) 0 = fldR (f b) 0) → (∀ b, kd b = 3 → fldR (f_310 b) 3 = fldR (f b) 3) → (f_310 a_5 = .inr (1, [.ref a_283, .ref a_284, .ref a_300, .int v_301, .int v_302, .int v_288])) → drel kd 1 521 522 f_310 a_5 → ∀ (ls : Array Slot), lv_has ls 18 [(7, .int x_23), (6, .int y_20), (0, .ref o0), (1, .int 3), (2, .int p2), (3, .int p3), (4, .int p4), (5, .int p5)] → W p l e (headSpec (wU yX3_descend cX3_descend 18 (some .boolean)) { frames := 9, cells := 0, slots := 0, locals := 309 }).room s m [.ref o0, .int 3, .int p2, .int p3, .int p4, .int p5].toArray below meth c H locs 0 0 (MQ below (va_Qi (fun (r : Int32) (f9 : Nat → va_E) => GI (okc cI cL cZ cR cG cH L kd) kd L f9 ∧ (0 ≤ r.toInt ∧ r.toInt ≤ 1) ∧ (∀ b, kd b ≠ 1 → kd b ≠ 3 → kd b ≠ 10 → kd b ≠ 517 → kd b ≠ 518 → kd b ≠ 519 → kd b ≠ 520 → kd b ≠ 521 → kd b ≠ 522 → kd b ≠ 523 → kd b ≠ 524 → kd b ≠ 525 → kd b ≠ 526 → kd b ≠ 527 → f9 b = f b) ∧ (∀ b, kd b = 1 → fldR (f9 b) 0 = fldR (f b) 0) ∧ (∀ b, kd b = 1 → fldR (f9 b) 1 = fldR (f b) 1) ∧ (∀ b, kd b = 3 → fldR (f9 b) 0 = fldR (f b) 0) ∧ (∀ b, kd b = 3 → fldR (f9 b) 3 = fldR (f b) 3) ∧ (∀ d9, fldR (f9 o0) 3 = some d9 → drel kd 1 521 522 f9 d9)) (qP (dC, dI) cI cL cZ cR cG cH L) (fun q => q ∈ L)) [.ref o0, .int 3, .int p2, .int p3, .int p4, .int p5].toArray s 0 0 (fun q => q ∈ L)) (F0 m 89 ls [.int y_308]) := by
          intro y_308 by_308 f_310 hG H locs hP hS hD hfr0 hrr1_0 hrr1_1 hrr3_0 hrr3_3 hfo_311 hT0 ls hl
          refine lv_istore (lv' := [(8, .int y_308), (7, .int x_23), (6, .int y_20), (0, .ref o0), (1, .int 3), (2, .int p2), (3, .int p3), (4, .int p4), (5, .int p5)]) hx hb dX3_descend_89 hl (by decide) rfl (fun ls hl => ?_)
          refine lv_iload_n hx hb dX3_descend_91 rfl (lv_at hl 4 rfl) ?_
          refine lv_bipush (v := 9) hx hb dX3_descend_92 (by decide) ?_
          refine lv_icmp_ge (tgt := 102) hx hb dX3_descend_94 (by decide) (fun c9 => absurd c9 (by decide)) (fun _ => ?_)
          refine lv_bipush (v := 8) hx hb dX3_descend_97 (by decide) ?_
          refine lv_goto (tgt := 103) hx hb dX3_descend_99 (by decide) ?_
          refine lv_istore (lv' := [(9, .int 8), (8, .int y_308), (7, .int x_23), (6, .int y_20), (0, .ref o0), (1, .int 3), (2, .int p2), (3, .int p3), (4, .int p4), (5, .int p5)]) hx hb dX3_descend_103 hl (by decide) rfl (fun ls hl => ?_)
          refine lv_iload_n hx hb dX3_descend_105 rfl (lv_at hl 6 rfl) ?_
          refine lv_aload_n hx hb dX3_descend_106 rfl (lv_at hl 4 rfl) ?_
          obtain ⟨a_314, a_315, a_316, a_317, a_318, v_319, v_320, v_321, v_322, v_323, v_324, v_325, a_326, a_327, a_328, v_329, a_330, a_331, hfo_313, ⟨ma_314, ka_314⟩, ⟨ma_315, ka_315⟩, ⟨ma_316, ka_316⟩, ⟨ma_317, ka_317⟩, ⟨ma_318, ka_318⟩, bv_319, bv_320, bv_321, ⟨ma_326, ka_326⟩, ⟨ma_327, ka_327⟩, ⟨ma_328, ka_328⟩, bv_329, ⟨ma_330, ka_330⟩, ⟨ma_331, ka_331⟩⟩ := un_3 (hG _ mo0) ko0
          have bv_322 : ((-2147483648) ≤ v_322.toInt ∧ v_322.toInt ≤ 2147483647) := ⟨i32_lo _, i32_hi _⟩
          have bv_323 : ((-2147483648) ≤ v_323.toInt ∧ v_323.toInt ≤ 2147483647) := ⟨i32_lo _, i32_hi _⟩
          have bv_324 : ((-2147483648) ≤ v_324.toInt ∧ v_324.toInt ≤ 2147483647) := ⟨i32_lo _, i32_hi _⟩
          have bv_325 : ((-2147483648) ≤ v_325.toInt ∧ v_325.toInt ≤ 2147483647) := ⟨i32_lo _, i32_hi _⟩
          obtain rfl : a_2 = a_314 := by have hk9 := hrr3_0 o0 ko0; rw [hfo_313, hfo_1] at hk9; exact (Option.some.inj hk9).symm
          obtain rfl : a_5 = a_317 := by have hk9 := hrr3_3 o0 ko0; rw [hfo_313, hfo_1] at hk9; exact (Option.some.inj hk9).symm
          refine tk_getP (D := (dC, dI)) (ci := 3) (v := .int v_319) (C := RX3) (T := TX3) (N := 18) hx hb hU inlX3 hown hK hP mo0 hfo_313 rfl 5 (by decide) (hU _ wd_726) (fun _ h9 => h9) rfl dX3_descend_107 ?_
          have hcut_333 : ∀ (y_332 : Int32), (0 ≤ y_332.toInt ∧ y_332.toInt ≤ 4) → (4 ≤ y_332.toInt ∨ p2.toInt ≤ 7) → ∀ (ls : Array Slot), lv_has ls 18 [(9, .int 8), (8, .int y_308), (7, .int x_23), (6, .int y_20), (0, .ref o0), (1, .int 3), (2, .int p2), (3, .int p3), (4, .int p4), (5, .int p5)] → W p l e (headSpec (wU yX3_descend cX3_descend 18 (some .boolean)) { frames := 9, cells := 0, slots := 0, locals := 309 }).room s m [.ref o0, .int 3, .int p2, .int p3, .int p4, .int p5].toArray below meth c H locs 0 0 (MQ below (va_Qi (fun (r : Int32) (f9 : Nat → va_E) => GI (okc cI cL cZ cR cG cH L kd) kd L f9 ∧ (0 ≤ r.toInt ∧ r.toInt ≤ 1) ∧ (∀ b, kd b ≠ 1 → kd b ≠ 3 → kd b ≠ 10 → kd b ≠ 517 → kd b ≠ 518 → kd b ≠ 519 → kd b ≠ 520 → kd b ≠ 521 → kd b ≠ 522 → kd b ≠ 523 → kd b ≠ 524 → kd b ≠ 525 → kd b ≠ 526 → kd b ≠ 527 → f9 b = f b) ∧ (∀ b, kd b = 1 → fldR (f9 b) 0 = fldR (f b) 0) ∧ (∀ b, kd b = 1 → fldR (f9 b) 1 = fldR (f b) 1) ∧ (∀ b, kd b = 3 → fldR (f9 b) 0 = fldR (f b) 0) ∧ (∀ b, kd b = 3 → fldR (f9 b) 3 = fldR (f b) 3) ∧ (∀ d9, fldR (f9 o0) 3 = some d9 → drel kd 1 521 522 f9 d9)) (qP (dC, dI) cI cL cZ cR cG cH L) (fun q => q ∈ L)) [.ref o0, .int 3, .int p2, .int p3, .int p4, .int p5].toArray s 0 0 (fun q => q ∈ L)) (F0 m 118 ls [.int y_332]) := by
            intro y_332 by_332 hjhcut_333_0 ls hl
            refine lv_istore (lv' := [(10, .int y_332), (9, .int 8), (8, .int y_308), (7, .int x_23), (6, .int y_20), (0, .ref o0), (1, .int 3), (2, .int p2), (3, .int p3), (4, .int p4), (5, .int p5)]) hx hb dX3_descend_118 hl (by decide) rfl (fun ls hl => ?_)
            have hloop_349 : ∀ (n : Nat), ∀ (y_350 : Int32), (0 ≤ y_350.toInt ∧ y_350.toInt ≤ 8) → ∀ (y_351 : Int32), (0 ≤ y_351.toInt ∧ y_351.toInt ≤ 1) → ∀ (f_353 : Nat → va_E), GI (okc cI cL cZ cR cG cH L kd) kd L f_353 → ∀ (H : Heap) (locs : List Loc), va_P (dC, dI) vwCl (va_pl L f_353) H → va_S (fun q => q ∈ L) s.heap H locs → va_D (fun q => q ∈ L) (va_pl L f_353) → (∀ b, kd b ≠ 1 → kd b ≠ 3 → kd b ≠ 10 → kd b ≠ 517 → kd b ≠ 518 → kd b ≠ 519 → kd b ≠ 520 → kd b ≠ 521 → kd b ≠ 522 → kd b ≠ 523 → kd b ≠ 524 → kd b ≠ 525 → kd b ≠ 526 → kd b ≠ 527 → f_353 b = f b) → (∀ b, kd b = 1 → fldR (f_353 b) 0 = fldR (f b) 0) → (∀ b, kd b = 1 → fldR (f_353 b) 1 = fldR (f b) 1) → (∀ b, kd b = 3 → fldR (f_353 b) 0 = fldR (f b) 0) → (∀ b, kd b = 3 → fldR (f_353 b) 3 = fldR (f b) 3) → drel kd 1 521 522 f_353 a_5 → (4 ≤ y_350.toInt ∨ p2.toInt ≤ 7) → 8 - y_350.toInt < (n : Int) → ∀ (ls : Array Slot), lv_has ls 18 [(10, .int y_350), (9, .int 8), (8, .int y_351), (7, .int x_23), (6, .int y_20), (0, .ref o0), (1, .int 3), (2, .int p2), (3, .int p3), (4, .int p4), (5, .int p5)] → W p l e (headSpec (wU yX3_descend cX3_descend 18 (some .boolean)) { frames := 9, cells := 0, slots := 0, locals := 309 }).room s m [.ref o0, .int 3, .int p2, .int p3, .int p4, .int p5].toArray below meth c H locs 0 0 (MQ below (va_Qi (fun (r : Int32) (f9 : Nat → va_E) => GI (okc cI cL cZ cR cG cH L kd) kd L f9 ∧ (0 ≤ r.toInt ∧ r.toInt ≤ 1) ∧ (∀ b, kd b ≠ 1 → kd b ≠ 3 → kd b ≠ 10 → kd b ≠ 517 → kd b ≠ 518 → kd b ≠ 519 → kd b ≠ 520 → kd b ≠ 521 → kd b ≠ 522 → kd b ≠ 523 → kd b ≠ 524 → kd b ≠ 525 → kd b ≠ 526 → kd b ≠ 527 → f9 b = f b) ∧ (∀ b, kd b = 1 → fldR (f9 b) 0 = fldR (f b) 0) ∧ (∀ b, kd b = 1 → fldR (f9 b) 1 = fldR (f b) 1) ∧ (∀ b, kd b = 3 → fldR (f9 b) 0 = fldR (f b) 0) ∧ (∀ b, kd b = 3 → fldR (f9 b) 3 = fldR (f b) 3) ∧ (∀ d9, fldR (f9 o0) 3 = some d9 → drel kd 1 521 522 f9 d9)) (qP (dC, dI) cI cL cZ cR cG cH L) (fun q => q ∈ L)) [.ref o0, .int 3, .int p2, .int p3, .int p4, .int p5].toArray s 0 0 (fun q => q ∈ L)) (F0 m 120 ls []) := by
              intro n
              induction n with
              | zero => intro y_350 by_350 y_351 by_351 f_353 hG H locs hP hS hD hfr0 hrr1_0 hrr1_1 hrr3_0 hrr3_3 hT0 hrelhloop_349_0 hmuhloop_349 ls hl; exfalso; omega
              | succ n ih_hloop_349 =>
                intro y_350 by_350 y_351 by_351 f_353 hG H locs hP hS hD hfr0 hrr1_0 hrr1_1 hrr3_0 hrr3_3 hT0 hrelhloop_349_0 hmuhloop_349 ls hl
                refine lv_iload hx hb dX3_descend_120 (lv_at hl 0 rfl) ?_
                refine lv_iload hx hb dX3_descend_122 (lv_at hl 1 rfl) ?_
                have hcut_354 : ∀ (ls : Array Slot), lv_has ls 18 [(10, .int y_350), (9, .int 8), (8, .int y_351), (7, .int x_23), (6, .int y_20), (0, .ref o0), (1, .int 3), (2, .int p2), (3, .int p3), (4, .int p4), (5, .int p5)] → W p l e (headSpec (wU yX3_descend cX3_descend 18 (some .boolean)) { frames := 9, cells := 0, slots := 0, locals := 309 }).room s m [.ref o0, .int 3, .int p2, .int p3, .int p4, .int p5].toArray below meth c H locs 0 0 (MQ below (va_Qi (fun (r : Int32) (f9 : Nat → va_E) => GI (okc cI cL cZ cR cG cH L kd) kd L f9 ∧ (0 ≤ r.toInt ∧ r.toInt ≤ 1) ∧ (∀ b, kd b ≠ 1 → kd b ≠ 3 → kd b ≠ 10 → kd b ≠ 517 → kd b ≠ 518 → kd b ≠ 519 → kd b ≠ 520 → kd b ≠ 521 → kd b ≠ 522 → kd b ≠ 523 → kd b ≠ 524 → kd b ≠ 525 → kd b ≠ 526 → kd b ≠ 527 → f9 b = f b) ∧ (∀ b, kd b = 1 → fldR (f9 b) 0 = fldR (f b) 0) ∧ (∀ b, kd b = 1 → fldR (f9 b) 1 = fldR (f b) 1) ∧ (∀ b, kd b = 3 → fldR (f9 b) 0 = fldR (f b) 0) ∧ (∀ b, kd b = 3 → fldR (f9 b) 3 = fldR (f b) 3) ∧ (∀ d9, fldR (f9 o0) 3 = some d9 → drel kd 1 521 522 f9 d9)) (qP (dC, dI) cI cL cZ cR cG cH L) (fun q => q ∈ L)) [.ref o0, .int 3, .int p2, .int p3, .int p4, .int p5].toArray s 0 0 (fun q => q ∈ L)) (F0 m 349 ls []) := by
                  intro ls hl
                  refine lv_iload hx hb dX3_descend_349 (lv_at hl 4 rfl) ?_
                  have hcut_357 : ∀ (f_356 : Nat → va_E), GI (okc cI cL cZ cR cG cH L kd) kd L f_356 → ∀ (H : Heap) (locs : List Loc), va_P (dC, dI) vwCl (va_pl L f_356) H → va_S (fun q => q ∈ L) s.heap H locs → va_D (fun q => q ∈ L) (va_pl L f_356) → (∀ b, kd b ≠ 1 → kd b ≠ 3 → kd b ≠ 10 → kd b ≠ 517 → kd b ≠ 518 → kd b ≠ 519 → kd b ≠ 520 → kd b ≠ 521 → kd b ≠ 522 → kd b ≠ 523 → kd b ≠ 524 → kd b ≠ 525 → kd b ≠ 526 → kd b ≠ 527 → f_356 b = f b) → (∀ b, kd b = 1 → fldR (f_356 b) 0 = fldR (f b) 0) → (∀ b, kd b = 1 → fldR (f_356 b) 1 = fldR (f b) 1) → (∀ b, kd b = 3 → fldR (f_356 b) 0 = fldR (f b) 0) → (∀ b, kd b = 3 → fldR (f_356 b) 3 = fldR (f b) 3) → drel kd 1 521 522 f_356 a_5 → ∀ (ls : Array Slot), lv_has ls 18 [(10, .int y_350), (9, .int 8), (8, .int y_351), (7, .int x_23), (6, .int y_20), (0, .ref o0), (1, .int 3), (2, .int p2), (3, .int p3), (4, .int p4), (5, .int p5)] → W p l e (headSpec (wU yX3_descend cX3_descend 18 (some .boolean)) { frames := 9, cells := 0, slots := 0, locals := 309 }).room s m [.ref o0, .int 3, .int p2, .int p3, .int p4, .int p5].toArray below meth c H locs 0 0 (MQ below (va_Qi (fun (r : Int32) (f9 : Nat → va_E) => GI (okc cI cL cZ cR cG cH L kd) kd L f9 ∧ (0 ≤ r.toInt ∧ r.toInt ≤ 1) ∧ (∀ b, kd b ≠ 1 → kd b ≠ 3 → kd b ≠ 10 → kd b ≠ 517 → kd b ≠ 518 → kd b ≠ 519 → kd b ≠ 520 → kd b ≠ 521 → kd b ≠ 522 → kd b ≠ 523 → kd b ≠ 524 → kd b ≠ 525 → kd b ≠ 526 → kd b ≠ 527 → f9 b = f b) ∧ (∀ b, kd b = 1 → fldR (f9 b) 0 = fldR (f b) 0) ∧ (∀ b, kd b = 1 → fldR (f9 b) 1 = fldR (f b) 1) ∧ (∀ b, kd b = 3 → fldR (f9 b) 0 = fldR (f b) 0) ∧ (∀ b, kd b = 3 → fldR (f9 b) 3 = fldR (f b) 3) ∧ (∀ d9, fldR (f9 o0) 3 = some d9 → drel kd 1 521 522 f9 d9)) (qP (dC, dI) cI cL cZ cR cG cH L) (fun q => q ∈ L)) [.ref o0, .int 3, .int p2, .int p3, .int p4, .int p5].toArray s 0 0 (fun q => q ∈ L)) (F0 m 394 ls []) := by
                    intro f_356 hG H locs hP hS hD hfr0 hrr1_0 hrr1_1 hrr3_0 hrr3_3 hT0 ls hl
                    refine lv_iload hx hb dX3_descend_394 (lv_at hl 2 rfl) ?_
                    obtain ⟨a_359, a_360, a_361, a_362, a_363, v_364, v_365, v_366, v_367, v_368, v_369, v_370, a_371, a_372, a_373, v_374, a_375, a_376, hfo_358, ⟨ma_359, ka_359⟩, ⟨ma_360, ka_360⟩, ⟨ma_361, ka_361⟩, ⟨ma_362, ka_362⟩, ⟨ma_363, ka_363⟩, bv_364, bv_365, bv_366, ⟨ma_371, ka_371⟩, ⟨ma_372, ka_372⟩, ⟨ma_373, ka_373⟩, bv_374, ⟨ma_375, ka_375⟩, ⟨ma_376, ka_376⟩⟩ := un_3 (hG _ mo0) ko0
                    have bv_367 : ((-2147483648) ≤ v_367.toInt ∧ v_367.toInt ≤ 2147483647) := ⟨i32_lo _, i32_hi _⟩
                    have bv_368 : ((-2147483648) ≤ v_368.toInt ∧ v_368.toInt ≤ 2147483647) := ⟨i32_lo _, i32_hi _⟩
                    have bv_369 : ((-2147483648) ≤ v_369.toInt ∧ v_369.toInt ≤ 2147483647) := ⟨i32_lo _, i32_hi _⟩
                    have bv_370 : ((-2147483648) ≤ v_370.toInt ∧ v_370.toInt ≤ 2147483647) := ⟨i32_lo _, i32_hi _⟩
                    obtain rfl : a_2 = a_359 := by have hk9 := hrr3_0 o0 ko0; rw [hfo_358, hfo_1] at hk9; exact (Option.some.inj hk9).symm
                    obtain rfl : a_5 = a_362 := by have hk9 := hrr3_3 o0 ko0; rw [hfo_358, hfo_1] at hk9; exact (Option.some.inj hk9).symm
                    exact W.zret (v := y_351) (ty := .boolean) hx hb hr (zb_n (by constructor <;> omega)) (fun t ht hW => ⟨⟨y_351, f_356, rfl, ⟨hG, (by constructor <;> omega), hfr0, hrr1_0, hrr1_1, hrr3_0, hrr3_3, (fun d9 h9 => by rw [hfo_358] at h9; obtain rfl := Option.some.inj h9; exact hT0)⟩, by rw [ht]; exact hP, va_K.moved hW.alike hK, pl_in hD⟩, hS.F ht⟩) hS.2.2 dX3_descend_396
                  refine lv_if_eq (tgt := 394) hx hb dX3_descend_351 (by decide) (fun c_377 => ?_) (fun c_377 => ?_)
                  · skip
                    rw [← Int32.toInt_inj, ti_0] at c_377
                    exfalso
                    omega
                  · skip
                    rw [← Int32.toInt_inj, ti_0] at c_377
                    refine lv_iload hx hb dX3_descend_354 (lv_at hl 2 rfl) ?_
                    refine lv_if_ne (tgt := 394) hx hb dX3_descend_356 (by decide) (fun c_378 => ?_) (fun c_378 => ?_)
                    · skip
                      rw [← Int32.toInt_inj, ti_0] at c_378
                      exact hcut_357 f_353 hG _ _ hP hS hD hfr0 hrr1_0 hrr1_1 hrr3_0 hrr3_3 hT0 ls (lv_sub hl [0, 1, 2, 3, 4, 5, 6, 7, 8, 9, 10] rfl)
                    · skip
                      rw [← Int32.toInt_inj, ti_0] at c_378
                      refine lv_aload_n hx hb dX3_descend_359 rfl (lv_at hl 5 rfl) ?_
                      obtain ⟨a_380, a_381, a_382, a_383, a_384, v_385, v_386, v_387, v_388, v_389, v_390, v_391, a_392, a_393, a_394, v_395, a_396, a_397, hfo_379, ⟨ma_380, ka_380⟩, ⟨ma_381, ka_381⟩, ⟨ma_382, ka_382⟩, ⟨ma_383, ka_383⟩, ⟨ma_384, ka_384⟩, bv_385, bv_386, bv_387, ⟨ma_392, ka_392⟩, ⟨ma_393, ka_393⟩, ⟨ma_394, ka_394⟩, bv_395, ⟨ma_396, ka_396⟩, ⟨ma_397, ka_397⟩⟩ := un_3 (hG _ mo0) ko0
                      have bv_388 : ((-2147483648) ≤ v_388.toInt ∧ v_388.toInt ≤ 2147483647) := ⟨i32_lo _, i32_hi _⟩
                      have bv_389 : ((-2147483648) ≤ v_389.toInt ∧ v_389.toInt ≤ 2147483647) := ⟨i32_lo _, i32_hi _⟩
                      have bv_390 : ((-2147483648) ≤ v_390.toInt ∧ v_390.toInt ≤ 2147483647) := ⟨i32_lo _, i32_hi _⟩
                      have bv_391 : ((-2147483648) ≤ v_391.toInt ∧ v_391.toInt ≤ 2147483647) := ⟨i32_lo _, i32_hi _⟩
                      obtain rfl : a_2 = a_380 := by have hk9 := hrr3_0 o0 ko0; rw [hfo_379, hfo_1] at hk9; exact (Option.some.inj hk9).symm
                      obtain rfl : a_5 = a_383 := by have hk9 := hrr3_3 o0 ko0; rw [hfo_379, hfo_1] at hk9; exact (Option.some.inj hk9).symm
                      refine tk_getP (D := (dC, dI)) (ci := 3) (v := .ref a_381) (C := RX3) (T := TX3) (N := 18) hx hb hU inlX3 hown hK hP mo0 hfo_379 rfl 1 (by decide) (hU _ wd_52) (fun _ h9 => h9) rfl dX3_descend_360 ?_
                      obtain ⟨a_399, v_400, v_401, hfo_398, ⟨ma_399, ka_399⟩, bv_400, bv_401⟩ := un_10 (hG _ ma_381) ka_381
                      refine tk_getP (D := (dC, dI)) (ci := 10) (v := .int v_401) (C := RX10) (T := TX10) (N := 3) hx hb hU inlX10 hown hK hP ma_381 hfo_398 rfl 2 (by decide) (hU _ wd_766) (fun _ h9 => h9) rfl dX3_descend_363 ?_
                      refine lv_if_ne (tgt := 394) hx hb dX3_descend_366 (by decide) (fun c_402 => ?_) (fun c_402 => ?_)
                      · skip
                        rw [← Int32.toInt_inj, ti_0] at c_402
                        exact hcut_357 f_353 hG _ _ hP hS hD hfr0 hrr1_0 hrr1_1 hrr3_0 hrr3_3 hT0 ls (lv_sub hl [0, 1, 2, 3, 4, 5, 6, 7, 8, 9, 10] rfl)
                      · skip
                        rw [← Int32.toInt_inj, ti_0] at c_402
                        refine lv_aload_n hx hb dX3_descend_369 rfl (lv_at hl 5 rfl) ?_
                        refine tk_getP (D := (dC, dI)) (ci := 3) (v := .ref a_5) (C := RX3) (T := TX3) (N := 18) hx hb hU inlX3 hown hK hP mo0 hfo_379 rfl 3 (by decide) (hU _ wd_60) (fun _ h9 => h9) rfl dX3_descend_370 ?_
                        refine lv_aload_n hx hb dX3_descend_373 rfl (lv_at hl 5 rfl) ?_
                        refine tk_getP (D := (dC, dI)) (ci := 3) (v := .ref a_382) (C := RX3) (T := TX3) (N := 18) hx hb hU inlX3 hown hK hP mo0 hfo_379 rfl 2 (by decide) (hU _ wd_56) (fun _ h9 => h9) rfl dX3_descend_374 ?_
                        refine lv_aload_n hx hb dX3_descend_377 rfl (lv_at hl 5 rfl) ?_
                        refine tk_getP (D := (dC, dI)) (ci := 3) (v := .int v_388) (C := RX3) (T := TX3) (N := 18) hx hb hU inlX3 hown hK hP mo0 hfo_379 rfl 8 (by decide) (hU _ wd_734) (fun _ h9 => h9) rfl dX3_descend_378 ?_
                        refine lv_iload_n hx hb dX3_descend_381 rfl (lv_at hl 6 rfl) ?_
                        refine lv_iload hx hb dX3_descend_382 (lv_at hl 3 rfl) ?_
                        obtain ⟨a_404, a_405, a_406, v_407, v_408, v_409, hfo_403, ⟨ma_404, ka_404⟩, ⟨ma_405, ka_405⟩, ⟨ma_406, ka_406⟩, bv_407, bv_408, bv_409⟩ := un_1 (hG _ ma_5) ka_5
                        obtain rfl : a_283 = a_404 := by have hk9 := hrr1_0 a_5 ka_5; rw [hfo_403, hfo_282] at hk9; exact (Option.some.inj hk9).symm
                        obtain rfl : a_284 = a_405 := by have hk9 := hrr1_1 a_5 ka_5; rw [hfo_403, hfo_282] at hk9; exact (Option.some.inj hk9).symm
                        refine tk_VvP (As := [.ref a_382, .int v_388, .int 3, .int x_23]) (rest := []) (n := 4) hx hb hml hown hU hN hZ (s_X1_makeKey_k1_k8 l (dC, dI) cI cL cZ cR cG cH Z kd L f_353 hG a_5 ma_5 ka_5 a_382 ma_382 ka_382 v_388 3 (by decide) x_23) wd_770 wd_771 wd_772 wd_59 wd_773 (by decide +kernel) ⟨Nat.le_of_ble_eq_true rfl, Nat.le_of_ble_eq_true rfl⟩ hK hP hD hS ma_5 hfo_403 1 rfl rfl rfl hl.1 rfl (Nat.le_of_ble_eq_true rfl) dX3_descend_384 ⟨Nat.le_of_ble_eq_true rfl, Nat.le_of_ble_eq_true rfl⟩ (fun f_411 H locs hw hP hD hS => ?_)
                        obtain ⟨hG, hkc_412, hfc_413, hrc_414, hrc_415⟩ := hw
                        have hfo_417 : f_411 o0 = .inr (3, [.ref a_2, .ref a_381, .ref a_382, .ref a_5, .ref a_384, .int v_385, .int v_386, .int v_387, .int v_388, .int v_389, .int v_390, .int v_391, .ref a_392, .ref a_393, .ref a_394, .int v_395, .ref a_396, .ref a_397]) := by rw [hkc_412 o0 (by rw [ko0]; decide) (by rw [ko0]; decide)]; exact hfo_379
                        have hfo_418 : f_411 a_381 = .inr (10, [.ref a_399, .int v_400, .int v_401]) := by rw [hkc_412 a_381 (by rw [ka_381]; decide) (by rw [ka_381]; decide)]; exact hfo_398
                        have hfr0 : ∀ b, kd b ≠ 1 → kd b ≠ 3 → kd b ≠ 10 → kd b ≠ 517 → kd b ≠ 518 → kd b ≠ 519 → kd b ≠ 520 → kd b ≠ 521 → kd b ≠ 522 → kd b ≠ 523 → kd b ≠ 524 → kd b ≠ 525 → kd b ≠ 526 → kd b ≠ 527 → f_411 b = f b := fun b q1 q3 q10 q517 q518 q519 q520 q521 q522 q523 q524 q525 q526 q527 => (hkc_412 b q1 q523).trans (hfr0 b q1 q3 q10 q517 q518 q519 q520 q521 q522 q523 q524 q525 q526 q527)
                        have hrr1_0 : ∀ b, kd b = 1 → fldR (f_411 b) 0 = fldR (f b) 0 := fun b kb => (hrc_414 b kb).trans (hrr1_0 b kb)
                        have hrr1_1 : ∀ b, kd b = 1 → fldR (f_411 b) 1 = fldR (f b) 1 := fun b kb => (hrc_415 b kb).trans (hrr1_1 b kb)
                        have hrr3_0 : ∀ b, kd b = 3 → fldR (f_411 b) 0 = fldR (f b) 0 := fun b kb => (congrArg (fun x => fldR x 0) (hkc_412 b (by rw [kb]; decide) (by rw [kb]; decide))).trans (hrr3_0 b kb)
                        have hrr3_3 : ∀ b, kd b = 3 → fldR (f_411 b) 3 = fldR (f b) 3 := fun b kb => (congrArg (fun x => fldR x 3) (hkc_412 b (by rw [kb]; decide) (by rw [kb]; decide))).trans (hrr3_3 b kb)
                        have hT0 : drel kd 1 521 522 f_411 a_5 := hT0.keep (fun b q => hfc_413 b q) (fun b q => hrc_414 b q) (fun b q => hrc_415 b q) (fun b q => hkc_412 b (by rw [q]; decide) (by rw [q]; decide)) (fun b q => hkc_412 b (by rw [q]; decide) (by rw [q]; decide))
                        obtain ⟨a_420, a_421, a_422, v_423, v_424, v_425, hfo_419, ⟨ma_420, ka_420⟩, ⟨ma_421, ka_421⟩, ⟨ma_422, ka_422⟩, bv_423, bv_424, bv_425⟩ := un_1 (hG _ ma_5) ka_5
                        obtain rfl : a_283 = a_420 := by have hk9 := hrr1_0 a_5 ka_5; rw [hfo_419, hfo_282] at hk9; exact (Option.some.inj hk9).symm
                        obtain rfl : a_284 = a_421 := by have hk9 := hrr1_1 a_5 ka_5; rw [hfo_419, hfo_282] at hk9; exact (Option.some.inj hk9).symm
                        obtain rfl : v_409 = v_425 := by have hk9 := hfc_413 a_5 ka_5; rw [hfo_419, hfo_403] at hk9; exact (Option.some.inj hk9).symm
                        refine lv_aload_n hx hb dX3_descend_387 rfl (lv_at hl 5 rfl) ?_
                        refine tk_getP (D := (dC, dI)) (ci := 3) (v := .ref a_5) (C := RX3) (T := TX3) (N := 18) hx hb hU inlX3 hown hK hP mo0 hfo_417 rfl 3 (by decide) (hU _ wd_60) (fun _ h9 => h9) rfl dX3_descend_388 ?_
                        refine tk_VvP (As := []) (rest := []) (n := 0) hx hb hml hown hU hN hZ (s_X1_addKey_k1 l (dC, dI) cI cL cZ cR cG cH Z kd L f_411 hG a_5 ma_5 ka_5 hT0) wd_850 wd_851 wd_852 wd_59 wd_853 (by decide +kernel) ⟨Nat.le_of_ble_eq_true rfl, Nat.le_of_ble_eq_true rfl⟩ hK hP hD hS ma_5 hfo_419 1 rfl rfl rfl hl.1 rfl (Nat.le_of_ble_eq_true rfl) dX3_descend_391 ⟨Nat.le_of_ble_eq_true rfl, Nat.le_of_ble_eq_true rfl⟩ (fun f_427 H locs hw hP hD hS => ?_)
                        obtain ⟨hG, hkc_428, hrc_429, hrc_430, hTc_431⟩ := hw
                        have hfo_433 : f_427 o0 = .inr (3, [.ref a_2, .ref a_381, .ref a_382, .ref a_5, .ref a_384, .int v_385, .int v_386, .int v_387, .int v_388, .int v_389, .int v_390, .int v_391, .ref a_392, .ref a_393, .ref a_394, .int v_395, .ref a_396, .ref a_397]) := by rw [hkc_428 o0 (by rw [ko0]; decide) (by rw [ko0]; decide) (by rw [ko0]; decide)]; exact hfo_417
                        have hfo_434 : f_427 a_381 = .inr (10, [.ref a_399, .int v_400, .int v_401]) := by rw [hkc_428 a_381 (by rw [ka_381]; decide) (by rw [ka_381]; decide) (by rw [ka_381]; decide)]; exact hfo_418
                        have hfr0 : ∀ b, kd b ≠ 1 → kd b ≠ 3 → kd b ≠ 10 → kd b ≠ 517 → kd b ≠ 518 → kd b ≠ 519 → kd b ≠ 520 → kd b ≠ 521 → kd b ≠ 522 → kd b ≠ 523 → kd b ≠ 524 → kd b ≠ 525 → kd b ≠ 526 → kd b ≠ 527 → f_427 b = f b := fun b q1 q3 q10 q517 q518 q519 q520 q521 q522 q523 q524 q525 q526 q527 => (hkc_428 b q1 q521 q522).trans (hfr0 b q1 q3 q10 q517 q518 q519 q520 q521 q522 q523 q524 q525 q526 q527)
                        have hrr1_0 : ∀ b, kd b = 1 → fldR (f_427 b) 0 = fldR (f b) 0 := fun b kb => (hrc_429 b kb).trans (hrr1_0 b kb)
                        have hrr1_1 : ∀ b, kd b = 1 → fldR (f_427 b) 1 = fldR (f b) 1 := fun b kb => (hrc_430 b kb).trans (hrr1_1 b kb)
                        have hrr3_0 : ∀ b, kd b = 3 → fldR (f_427 b) 0 = fldR (f b) 0 := fun b kb => (congrArg (fun x => fldR x 0) (hkc_428 b (by rw [kb]; decide) (by rw [kb]; decide) (by rw [kb]; decide))).trans (hrr3_0 b kb)
                        have hrr3_3 : ∀ b, kd b = 3 → fldR (f_427 b) 3 = fldR (f b) 3 := fun b kb => (congrArg (fun x => fldR x 3) (hkc_428 b (by rw [kb]; decide) (by rw [kb]; decide) (by rw [kb]; decide))).trans (hrr3_3 b kb)
                        obtain ⟨a_436, a_437, a_438, v_439, v_440, v_441, hfo_435, ⟨ma_436, ka_436⟩, ⟨ma_437, ka_437⟩, ⟨ma_438, ka_438⟩, bv_439, bv_440, bv_441⟩ := un_1 (hG _ ma_5) ka_5
                        obtain rfl : a_283 = a_436 := by have hk9 := hrr1_0 a_5 ka_5; rw [hfo_435, hfo_282] at hk9; exact (Option.some.inj hk9).symm
                        obtain rfl : a_284 = a_437 := by have hk9 := hrr1_1 a_5 ka_5; rw [hfo_435, hfo_282] at hk9; exact (Option.some.inj hk9).symm
                        exact hcut_357 f_427 hG _ _ hP hS hD hfr0 hrr1_0 hrr1_1 hrr3_0 hrr3_3 hTc_431 ls (lv_sub hl [0, 1, 2, 3, 4, 5, 6, 7, 8, 9, 10] rfl)
                refine lv_icmp_ge (tgt := 349) hx hb dX3_descend_124 (by decide) (fun c_442 => ?_) (fun c_442 => ?_)
                · skip
                  rw [Int32.le_iff_toInt_le, ti_8] at c_442
                  exact hcut_354 ls (lv_sub hl [0, 1, 2, 3, 4, 5, 6, 7, 8, 9, 10] rfl)
                · skip
                  rw [Int32.le_iff_toInt_le, ti_8] at c_442
                  refine lv_aload_n hx hb dX3_descend_127 rfl (lv_at hl 5 rfl) ?_
                  obtain ⟨a_444, a_445, a_446, a_447, a_448, v_449, v_450, v_451, v_452, v_453, v_454, v_455, a_456, a_457, a_458, v_459, a_460, a_461, hfo_443, ⟨ma_444, ka_444⟩, ⟨ma_445, ka_445⟩, ⟨ma_446, ka_446⟩, ⟨ma_447, ka_447⟩, ⟨ma_448, ka_448⟩, bv_449, bv_450, bv_451, ⟨ma_456, ka_456⟩, ⟨ma_457, ka_457⟩, ⟨ma_458, ka_458⟩, bv_459, ⟨ma_460, ka_460⟩, ⟨ma_461, ka_461⟩⟩ := un_3 (hG _ mo0) ko0
                  have bv_452 : ((-2147483648) ≤ v_452.toInt ∧ v_452.toInt ≤ 2147483647) := ⟨i32_lo _, i32_hi _⟩
                  have bv_453 : ((-2147483648) ≤ v_453.toInt ∧ v_453.toInt ≤ 2147483647) := ⟨i32_lo _, i32_hi _⟩
                  have bv_454 : ((-2147483648) ≤ v_454.toInt ∧ v_454.toInt ≤ 2147483647) := ⟨i32_lo _, i32_hi _⟩
                  have bv_455 : ((-2147483648) ≤ v_455.toInt ∧ v_455.toInt ≤ 2147483647) := ⟨i32_lo _, i32_hi _⟩
                  obtain rfl : a_2 = a_444 := by have hk9 := hrr3_0 o0 ko0; rw [hfo_443, hfo_1] at hk9; exact (Option.some.inj hk9).symm
                  obtain rfl : a_5 = a_447 := by have hk9 := hrr3_3 o0 ko0; rw [hfo_443, hfo_1] at hk9; exact (Option.some.inj hk9).symm
                  refine tk_getP (D := (dC, dI)) (ci := 3) (v := .ref a_445) (C := RX3) (T := TX3) (N := 18) hx hb hU inlX3 hown hK hP mo0 hfo_443 rfl 1 (by decide) (hU _ wd_52) (fun _ h9 => h9) rfl dX3_descend_128 ?_
                  obtain ⟨a_463, v_464, v_465, hfo_462, ⟨ma_463, ka_463⟩, bv_464, bv_465⟩ := un_10 (hG _ ma_445) ka_445
                  refine tk_getP (D := (dC, dI)) (ci := 10) (v := .int v_465) (C := RX10) (T := TX10) (N := 3) hx hb hU inlX10 hown hK hP ma_445 hfo_462 rfl 2 (by decide) (hU _ wd_766) (fun _ h9 => h9) rfl dX3_descend_131 ?_
                  refine lv_if_ne (tgt := 349) hx hb dX3_descend_134 (by decide) (fun c_466 => ?_) (fun c_466 => ?_)
                  · skip
                    rw [← Int32.toInt_inj, ti_0] at c_466
                    exact hcut_354 ls (lv_sub hl [0, 1, 2, 3, 4, 5, 6, 7, 8, 9, 10] rfl)
                  · skip
                    rw [← Int32.toInt_inj, ti_0] at c_466
                    refine lv_iload hx hb dX3_descend_137 (lv_at hl 0 rfl) ?_
                    refine lv_iconst (v := 4) hx hb dX3_descend_139 (by decide) ?_
                    have hcut_468 : ∀ (y_467 : Int32), (0 ≤ y_467.toInt ∧ y_467.toInt ≤ 8) → (y_467.toInt = 0 ∨ p2.toInt ≤ 7) → ∀ (ls : Array Slot), lv_has ls 18 [(10, .int y_350), (9, .int 8), (8, .int y_351), (7, .int x_23), (6, .int y_20), (0, .ref o0), (1, .int 3), (2, .int p2), (3, .int p3), (4, .int p4), (5, .int p5)] → W p l e (headSpec (wU yX3_descend cX3_descend 18 (some .boolean)) { frames := 9, cells := 0, slots := 0, locals := 309 }).room s m [.ref o0, .int 3, .int p2, .int p3, .int p4, .int p5].toArray below meth c H locs 0 0 (MQ below (va_Qi (fun (r : Int32) (f9 : Nat → va_E) => GI (okc cI cL cZ cR cG cH L kd) kd L f9 ∧ (0 ≤ r.toInt ∧ r.toInt ≤ 1) ∧ (∀ b, kd b ≠ 1 → kd b ≠ 3 → kd b ≠ 10 → kd b ≠ 517 → kd b ≠ 518 → kd b ≠ 519 → kd b ≠ 520 → kd b ≠ 521 → kd b ≠ 522 → kd b ≠ 523 → kd b ≠ 524 → kd b ≠ 525 → kd b ≠ 526 → kd b ≠ 527 → f9 b = f b) ∧ (∀ b, kd b = 1 → fldR (f9 b) 0 = fldR (f b) 0) ∧ (∀ b, kd b = 1 → fldR (f9 b) 1 = fldR (f b) 1) ∧ (∀ b, kd b = 3 → fldR (f9 b) 0 = fldR (f b) 0) ∧ (∀ b, kd b = 3 → fldR (f9 b) 3 = fldR (f b) 3) ∧ (∀ d9, fldR (f9 o0) 3 = some d9 → drel kd 1 521 522 f9 d9)) (qP (dC, dI) cI cL cZ cR cG cH L) (fun q => q ∈ L)) [.ref o0, .int 3, .int p2, .int p3, .int p4, .int p5].toArray s 0 0 (fun q => q ∈ L)) (F0 m 153 ls [.int y_467]) := by
                      intro y_467 by_467 hjhcut_468_0 ls hl
                      refine lv_istore (lv' := [(11, .int y_467), (10, .int y_350), (9, .int 8), (8, .int y_351), (7, .int x_23), (6, .int y_20), (0, .ref o0), (1, .int 3), (2, .int p2), (3, .int p3), (4, .int p4), (5, .int p5)]) hx hb dX3_descend_153 hl (by decide) rfl (fun ls hl => ?_)
                      refine lv_aload_n hx hb dX3_descend_155 rfl (lv_at hl 6 rfl) ?_
                      refine lv_iload hx hb dX3_descend_156 (lv_at hl 0 rfl) ?_
                      refine lv_iload hx hb dX3_descend_158 (lv_at hl 1 rfl) ?_
                      refine lv_iconst (v := 4) hx hb dX3_descend_160 (by decide) ?_
                      refine lv_irem hx hb dX3_descend_161 (by decide) ?_
                      refine lv_topi (fun x_469 ex_469 => ?_)
                      have hx_469 : x_469.toInt = y_350.toInt % 4 := by rw [ex_469, rm_I (by omega) (by rw [ti_4]; omega), ti_4]
                      have bx_469 : (0 ≤ x_469.toInt ∧ x_469.toInt ≤ 3) := by constructor <;> omega
                      refine tk_ViP (As := [.int y_467, .int x_469]) (rest := []) (n := 2) hx hb hml hown hU hN hZ (s_X3_choiceOf_k3 l (dC, dI) cI cL cZ cR cG cH Z kd L f_353 hG o0 mo0 ko0 y_467 (by constructor <;> omega) x_469 (by constructor <;> omega)) wd_819 wd_820 wd_821 wd_16 wd_822 (by decide +kernel) ⟨Nat.le_of_ble_eq_true rfl, Nat.le_of_ble_eq_true rfl⟩ hK hP hD hS mo0 hfo_443 3 rfl rfl rfl hl.1 rfl (Nat.le_of_ble_eq_true rfl) dX3_descend_162 ⟨Nat.le_of_ble_eq_true rfl, Nat.le_of_ble_eq_true rfl⟩ (fun x_470 f_471 H locs hw hP hD hS => ?_)
                      obtain ⟨rfl, bx_470⟩ := hw
                      refine lv_istore (lv' := [(12, .int x_470), (11, .int y_467), (10, .int y_350), (9, .int 8), (8, .int y_351), (7, .int x_23), (6, .int y_20), (0, .ref o0), (1, .int 3), (2, .int p2), (3, .int p3), (4, .int p4), (5, .int p5)]) hx hb dX3_descend_165 hl (by decide) rfl (fun ls hl => ?_)
                      refine lv_iload hx hb dX3_descend_167 (lv_at hl 0 rfl) ?_
                      refine lv_iconst (v := (-1)) hx hb dX3_descend_169 (by decide) ?_
                      have hcut_476 : ∀ (y_473 : Int32), (0 ≤ y_473.toInt ∧ y_473.toInt ≤ 1) → ∀ (f_475 : Nat → va_E), GI (okc cI cL cZ cR cG cH L kd) kd L f_475 → ∀ (H : Heap) (locs : List Loc), va_P (dC, dI) vwCl (va_pl L f_475) H → va_S (fun q => q ∈ L) s.heap H locs → va_D (fun q => q ∈ L) (va_pl L f_475) → (∀ b, kd b ≠ 1 → kd b ≠ 3 → kd b ≠ 10 → kd b ≠ 517 → kd b ≠ 518 → kd b ≠ 519 → kd b ≠ 520 → kd b ≠ 521 → kd b ≠ 522 → kd b ≠ 523 → kd b ≠ 524 → kd b ≠ 525 → kd b ≠ 526 → kd b ≠ 527 → f_475 b = f b) → (∀ b, kd b = 1 → fldR (f_475 b) 0 = fldR (f b) 0) → (∀ b, kd b = 1 → fldR (f_475 b) 1 = fldR (f b) 1) → (∀ b, kd b = 3 → fldR (f_475 b) 0 = fldR (f b) 0) → (∀ b, kd b = 3 → fldR (f_475 b) 3 = fldR (f b) 3) → drel kd 1 521 522 f_475 a_5 → ∀ (ls : Array Slot), lv_has ls 18 [(12, .int x_470), (11, .int y_467), (10, .int y_350), (9, .int 8), (8, .int y_473), (7, .int x_23), (6, .int y_20), (0, .ref o0), (1, .int 3), (2, .int p2), (3, .int p3), (4, .int p4), (5, .int p5)] → W p l e (headSpec (wU yX3_descend cX3_descend 18 (some .boolean)) { frames := 9, cells := 0, slots := 0, locals := 309 }).room s m [.ref o0, .int 3, .int p2, .int p3, .int p4, .int p5].toArray below meth c H locs 0 0 (MQ below (va_Qi (fun (r : Int32) (f9 : Nat → va_E) => GI (okc cI cL cZ cR cG cH L kd) kd L f9 ∧ (0 ≤ r.toInt ∧ r.toInt ≤ 1) ∧ (∀ b, kd b ≠ 1 → kd b ≠ 3 → kd b ≠ 10 → kd b ≠ 517 → kd b ≠ 518 → kd b ≠ 519 → kd b ≠ 520 → kd b ≠ 521 → kd b ≠ 522 → kd b ≠ 523 → kd b ≠ 524 → kd b ≠ 525 → kd b ≠ 526 → kd b ≠ 527 → f9 b = f b) ∧ (∀ b, kd b = 1 → fldR (f9 b) 0 = fldR (f b) 0) ∧ (∀ b, kd b = 1 → fldR (f9 b) 1 = fldR (f b) 1) ∧ (∀ b, kd b = 3 → fldR (f9 b) 0 = fldR (f b) 0) ∧ (∀ b, kd b = 3 → fldR (f9 b) 3 = fldR (f b) 3) ∧ (∀ d9, fldR (f9 o0) 3 = some d9 → drel kd 1 521 522 f9 d9)) (qP (dC, dI) cI cL cZ cR cG cH L) (fun q => q ∈ L)) [.ref o0, .int 3, .int p2, .int p3, .int p4, .int p5].toArray s 0 0 (fun q => q ∈ L)) (F0 m 343 ls []) := by
                        intro y_473 by_473 f_475 hG H locs hP hS hD hfr0 hrr1_0 hrr1_1 hrr3_0 hrr3_3 hT0 ls hl
                        obtain ⟨x_477, ex_477⟩ : ∃ y : Int32, y_350 + 1 = y := ⟨_, rfl⟩
                        have hx_477 : x_477.toInt = y_350.toInt + 1 := by rw [← ex_477, ad_I (by rw [ti_1]; omega) (by rw [ti_1]; omega), ti_1]
                        have bx_477 : (1 ≤ x_477.toInt ∧ x_477.toInt ≤ 8) := by constructor <;> omega
                        refine lv_iinc (v := x_477) (lv' := [(10, .int x_477), (12, .int x_470), (11, .int y_467), (9, .int 8), (8, .int y_473), (7, .int x_23), (6, .int y_20), (0, .ref o0), (1, .int 3), (2, .int p2), (3, .int p3), (4, .int p4), (5, .int p5)]) hx hb dX3_descend_343 hl (k := 2) rfl ex_477 (by decide) rfl (fun ls hl => ?_)
                        refine lv_goto (tgt := 120) hx hb dX3_descend_346 (by decide) ?_
                        exact ih_hloop_349 x_477 (by constructor <;> omega) y_473 (by constructor <;> omega) f_475 hG _ _ hP hS hD hfr0 hrr1_0 hrr1_1 hrr3_0 hrr3_3 hT0 (by (try rw [ti_8]) <;> (try rw [ti_3]) <;> omega) (by (try rw [ti_8]) <;> (try rw [ti_3]) <;> omega) ls (lv_sub hl [0, 3, 4, 5, 6, 7, 8, 9, 10, 11, 12] rfl)
                      refine lv_icmp_ne (tgt := 176) hx hb dX3_descend_170 (by decide) (fun c_478 => ?_) (fun c_478 => ?_)
                      · skip
                        rw [← Int32.toInt_inj, ti_m1] at c_478
                        refine lv_aload_n hx hb dX3_descend_176 rfl (lv_at hl 7 rfl) ?_
                        refine tk_getP (D := (dC, dI)) (ci := 3) (v := .int v_450) (C := RX3) (T := TX3) (N := 18) hx hb hU inlX3 hown hK hP mo0 hfo_443 rfl 6 (by decide) (hU _ wd_732) (fun _ h9 => h9) rfl dX3_descend_177 ?_
                        have hcut_480 : ∀ (y_479 : Int32), (0 ≤ y_479.toInt ∧ y_479.toInt ≤ 8) → ∀ (ls : Array Slot), lv_has ls 18 [(12, .int x_470), (11, .int y_467), (10, .int y_350), (9, .int 8), (8, .int y_351), (7, .int x_23), (6, .int y_20), (0, .ref o0), (1, .int 3), (2, .int p2), (3, .int p3), (4, .int p4), (5, .int p5)] → W p l e (headSpec (wU yX3_descend cX3_descend 18 (some .boolean)) { frames := 9, cells := 0, slots := 0, locals := 309 }).room s m [.ref o0, .int 3, .int p2, .int p3, .int p4, .int p5].toArray below meth c H locs 0 0 (MQ below (va_Qi (fun (r : Int32) (f9 : Nat → va_E) => GI (okc cI cL cZ cR cG cH L kd) kd L f9 ∧ (0 ≤ r.toInt ∧ r.toInt ≤ 1) ∧ (∀ b, kd b ≠ 1 → kd b ≠ 3 → kd b ≠ 10 → kd b ≠ 517 → kd b ≠ 518 → kd b ≠ 519 → kd b ≠ 520 → kd b ≠ 521 → kd b ≠ 522 → kd b ≠ 523 → kd b ≠ 524 → kd b ≠ 525 → kd b ≠ 526 → kd b ≠ 527 → f9 b = f b) ∧ (∀ b, kd b = 1 → fldR (f9 b) 0 = fldR (f b) 0) ∧ (∀ b, kd b = 1 → fldR (f9 b) 1 = fldR (f b) 1) ∧ (∀ b, kd b = 3 → fldR (f9 b) 0 = fldR (f b) 0) ∧ (∀ b, kd b = 3 → fldR (f9 b) 3 = fldR (f b) 3) ∧ (∀ d9, fldR (f9 o0) 3 = some d9 → drel kd 1 521 522 f9 d9)) (qP (dC, dI) cI cL cZ cR cG cH L) (fun q => q ∈ L)) [.ref o0, .int 3, .int p2, .int p3, .int p4, .int p5].toArray s 0 0 (fun q => q ∈ L)) (F0 m 206 ls [.int y_479]) := by
                          intro y_479 by_479 ls hl
                          refine lv_istore (lv' := [(13, .int y_479), (12, .int x_470), (11, .int y_467), (10, .int y_350), (9, .int 8), (8, .int y_351), (7, .int x_23), (6, .int y_20), (0, .ref o0), (1, .int 3), (2, .int p2), (3, .int p3), (4, .int p4), (5, .int p5)]) hx hb dX3_descend_206 hl (by decide) rfl (fun ls hl => ?_)
                          refine lv_iload hx hb dX3_descend_208 (lv_at hl 2 rfl) ?_
                          have hcut_482 : ∀ (y_481 : Int32), (0 ≤ y_481.toInt ∧ y_481.toInt ≤ 1) → ∀ (ls : Array Slot), lv_has ls 18 [(13, .int y_479), (12, .int x_470), (11, .int y_467), (10, .int y_350), (9, .int 8), (8, .int y_351), (7, .int x_23), (6, .int y_20), (0, .ref o0), (1, .int 3), (2, .int p2), (3, .int p3), (4, .int p4), (5, .int p5)] → W p l e (headSpec (wU yX3_descend cX3_descend 18 (some .boolean)) { frames := 9, cells := 0, slots := 0, locals := 309 }).room s m [.ref o0, .int 3, .int p2, .int p3, .int p4, .int p5].toArray below meth c H locs 0 0 (MQ below (va_Qi (fun (r : Int32) (f9 : Nat → va_E) => GI (okc cI cL cZ cR cG cH L kd) kd L f9 ∧ (0 ≤ r.toInt ∧ r.toInt ≤ 1) ∧ (∀ b, kd b ≠ 1 → kd b ≠ 3 → kd b ≠ 10 → kd b ≠ 517 → kd b ≠ 518 → kd b ≠ 519 → kd b ≠ 520 → kd b ≠ 521 → kd b ≠ 522 → kd b ≠ 523 → kd b ≠ 524 → kd b ≠ 525 → kd b ≠ 526 → kd b ≠ 527 → f9 b = f b) ∧ (∀ b, kd b = 1 → fldR (f9 b) 0 = fldR (f b) 0) ∧ (∀ b, kd b = 1 → fldR (f9 b) 1 = fldR (f b) 1) ∧ (∀ b, kd b = 3 → fldR (f9 b) 0 = fldR (f b) 0) ∧ (∀ b, kd b = 3 → fldR (f9 b) 3 = fldR (f b) 3) ∧ (∀ d9, fldR (f9 o0) 3 = some d9 → drel kd 1 521 522 f9 d9)) (qP (dC, dI) cI cL cZ cR cG cH L) (fun q => q ∈ L)) [.ref o0, .int 3, .int p2, .int p3, .int p4, .int p5].toArray s 0 0 (fun q => q ∈ L)) (F0 m 223 ls [.int y_481]) := by
                            intro y_481 by_481 ls hl
                            refine lv_istore (lv' := [(14, .int y_481), (13, .int y_479), (12, .int x_470), (11, .int y_467), (10, .int y_350), (9, .int 8), (8, .int y_351), (7, .int x_23), (6, .int y_20), (0, .ref o0), (1, .int 3), (2, .int p2), (3, .int p3), (4, .int p4), (5, .int p5)]) hx hb dX3_descend_223 hl (by decide) rfl (fun ls hl => ?_)
                            refine lv_iload hx hb dX3_descend_225 (lv_at hl 0 rfl) ?_
                            refine lv_iload_n hx hb dX3_descend_227 rfl (lv_at hl 12 rfl) ?_
                            refine lv_icmp_gt (tgt := 343) hx hb dX3_descend_228 (by decide) (fun c_483 => ?_) (fun c_483 => ?_)
                            · skip
                              rw [Int32.lt_iff_toInt_lt] at c_483
                              exact hcut_476 y_351 (by constructor <;> omega) f_353 hG _ _ hP hS hD hfr0 hrr1_0 hrr1_1 hrr3_0 hrr3_3 hT0 ls (lv_sub hl [2, 3, 4, 5, 6, 7, 8, 9, 10, 11, 12, 13, 14] rfl)
                            · skip
                              rw [Int32.lt_iff_toInt_lt] at c_483
                              refine lv_aload_n hx hb dX3_descend_231 rfl (lv_at hl 9 rfl) ?_
                              refine lv_aload_n hx hb dX3_descend_232 rfl (lv_at hl 9 rfl) ?_
                              refine tk_getP (D := (dC, dI)) (ci := 3) (v := .ref a_446) (C := RX3) (T := TX3) (N := 18) hx hb hU inlX3 hown hK hP mo0 hfo_443 rfl 2 (by decide) (hU _ wd_56) (fun _ h9 => h9) rfl dX3_descend_233 ?_
                              refine lv_aload_n hx hb dX3_descend_236 rfl (lv_at hl 9 rfl) ?_
                              refine tk_getP (D := (dC, dI)) (ci := 3) (v := .ref a_2) (C := RX3) (T := TX3) (N := 18) hx hb hU inlX3 hown hK hP mo0 hfo_443 rfl 0 (by decide) (hU _ wd_48) (fun _ h9 => h9) rfl dX3_descend_237 ?_
                              refine lv_aload_n hx hb dX3_descend_240 rfl (lv_at hl 9 rfl) ?_
                              refine tk_getP (D := (dC, dI)) (ci := 3) (v := .int v_452) (C := RX3) (T := TX3) (N := 18) hx hb hU inlX3 hown hK hP mo0 hfo_443 rfl 8 (by decide) (hU _ wd_734) (fun _ h9 => h9) rfl dX3_descend_241 ?_
                              refine lv_iload_n hx hb dX3_descend_244 rfl (lv_at hl 10 rfl) ?_
                              refine lv_iload hx hb dX3_descend_245 (lv_at hl 2 rfl) ?_
                              obtain ⟨a_485, a_486, a_487, a_488, a_489, hfo_484, ⟨ma_485, ka_485⟩, ⟨ma_486, ka_486⟩, ⟨ma_487, ka_487⟩, ⟨ma_488, ka_488⟩, ⟨ma_489, ka_489⟩⟩ := un_8 (hG _ ma_446) ka_446
                              refine tk_ViP (As := [.ref a_2, .int v_452, .int 3, .int x_470]) (rest := [.ref o0]) (n := 4) hx hb hml hown hU hN hZ (s_X8_step_k8_k7 l (dC, dI) cI cL cZ cR cG cH Z kd L f_353 hG a_446 ma_446 ka_446 a_2 ma_2 ka_2 v_452 3 (by decide) x_470 (by constructor <;> omega)) wd_825 wd_826 wd_827 wd_55 wd_828 (by decide +kernel) ⟨Nat.le_of_ble_eq_true rfl, Nat.le_of_ble_eq_true rfl⟩ hK hP hD hS ma_446 hfo_484 8 rfl rfl rfl hl.1 rfl (Nat.le_of_ble_eq_true rfl) dX3_descend_247 ⟨Nat.le_of_ble_eq_true rfl, Nat.le_of_ble_eq_true rfl⟩ (fun x_490 f_491 H locs hw hP hD hS => ?_)
                              obtain ⟨hG, bx_490, hkc_492⟩ := hw
                              have hfo_494 : f_491 o0 = .inr (3, [.ref a_2, .ref a_445, .ref a_446, .ref a_5, .ref a_448, .int v_449, .int v_450, .int v_451, .int v_452, .int v_453, .int v_454, .int v_455, .ref a_456, .ref a_457, .ref a_458, .int v_459, .ref a_460, .ref a_461]) := by rw [hkc_492 o0 (by rw [ko0]; decide) (by rw [ko0]; decide) (by rw [ko0]; decide) (by rw [ko0]; decide)]; exact hfo_443
                              have hfo_495 : f_491 a_445 = .inr (10, [.ref a_463, .int v_464, .int v_465]) := by rw [hkc_492 a_445 (by rw [ka_445]; decide) (by rw [ka_445]; decide) (by rw [ka_445]; decide) (by rw [ka_445]; decide)]; exact hfo_462
                              have hfo_496 : f_491 a_446 = .inr (8, [.ref a_485, .ref a_486, .ref a_487, .ref a_488, .ref a_489]) := by rw [hkc_492 a_446 (by rw [ka_446]; decide) (by rw [ka_446]; decide) (by rw [ka_446]; decide) (by rw [ka_446]; decide)]; exact hfo_484
                              have hfr0 : ∀ b, kd b ≠ 1 → kd b ≠ 3 → kd b ≠ 10 → kd b ≠ 517 → kd b ≠ 518 → kd b ≠ 519 → kd b ≠ 520 → kd b ≠ 521 → kd b ≠ 522 → kd b ≠ 523 → kd b ≠ 524 → kd b ≠ 525 → kd b ≠ 526 → kd b ≠ 527 → f_491 b = f b := fun b q1 q3 q10 q517 q518 q519 q520 q521 q522 q523 q524 q525 q526 q527 => (hkc_492 b q517 q518 q519 q520).trans (hfr0 b q1 q3 q10 q517 q518 q519 q520 q521 q522 q523 q524 q525 q526 q527)
                              have hrr1_0 : ∀ b, kd b = 1 → fldR (f_491 b) 0 = fldR (f b) 0 := fun b kb => (congrArg (fun x => fldR x 0) (hkc_492 b (by rw [kb]; decide) (by rw [kb]; decide) (by rw [kb]; decide) (by rw [kb]; decide))).trans (hrr1_0 b kb)
                              have hrr1_1 : ∀ b, kd b = 1 → fldR (f_491 b) 1 = fldR (f b) 1 := fun b kb => (congrArg (fun x => fldR x 1) (hkc_492 b (by rw [kb]; decide) (by rw [kb]; decide) (by rw [kb]; decide) (by rw [kb]; decide))).trans (hrr1_1 b kb)
                              have hrr3_0 : ∀ b, kd b = 3 → fldR (f_491 b) 0 = fldR (f b) 0 := fun b kb => (congrArg (fun x => fldR x 0) (hkc_492 b (by rw [kb]; decide) (by rw [kb]; decide) (by rw [kb]; decide) (by rw [kb]; decide))).trans (hrr3_0 b kb)
                              have hrr3_3 : ∀ b, kd b = 3 → fldR (f_491 b) 3 = fldR (f b) 3 := fun b kb => (congrArg (fun x => fldR x 3) (hkc_492 b (by rw [kb]; decide) (by rw [kb]; decide) (by rw [kb]; decide) (by rw [kb]; decide))).trans (hrr3_3 b kb)
                              have hT0 : drel kd 1 521 522 f_491 a_5 := hT0.keep (fun b q => congrArg (fun x => fldI x 5) (hkc_492 b (by rw [q]; decide) (by rw [q]; decide) (by rw [q]; decide) (by rw [q]; decide))) (fun b q => congrArg (fun x => fldR x 0) (hkc_492 b (by rw [q]; decide) (by rw [q]; decide) (by rw [q]; decide) (by rw [q]; decide))) (fun b q => congrArg (fun x => fldR x 1) (hkc_492 b (by rw [q]; decide) (by rw [q]; decide) (by rw [q]; decide) (by rw [q]; decide))) (fun b q => hkc_492 b (by rw [q]; decide) (by rw [q]; decide) (by rw [q]; decide) (by rw [q]; decide)) (fun b q => hkc_492 b (by rw [q]; decide) (by rw [q]; decide) (by rw [q]; decide) (by rw [q]; decide))
                              refine tk_ViP (As := [.int x_490]) (rest := []) (n := 1) hx hb hml hown hU hN hZ (s_X3_isLeft_k3 l (dC, dI) cI cL cZ cR cG cH Z kd L f_491 hG o0 mo0 ko0 x_490) wd_806 wd_807 wd_808 wd_16 wd_809 (by decide +kernel) ⟨Nat.le_of_ble_eq_true rfl, Nat.le_of_ble_eq_true rfl⟩ hK hP hD hS mo0 hfo_494 3 rfl rfl rfl hl.1 rfl (Nat.le_of_ble_eq_true rfl) dX3_descend_250 ⟨Nat.le_of_ble_eq_true rfl, Nat.le_of_ble_eq_true rfl⟩ (fun x_497 f_498 H locs hw hP hD hS => ?_)
                              obtain ⟨rfl, bx_497⟩ := hw
                              refine lv_if_eq (tgt := 259) hx hb dX3_descend_253 (by decide) (fun c_500 => ?_) (fun c_500 => ?_)
                              · skip
                                rw [← Int32.toInt_inj, ti_0] at c_500
                                refine lv_aload_n hx hb dX3_descend_259 rfl (lv_at hl 9 rfl) ?_
                                refine tk_getP (D := (dC, dI)) (ci := 3) (v := .ref a_456) (C := RX3) (T := TX3) (N := 18) hx hb hU inlX3 hown hK hP mo0 hfo_494 rfl 12 (by decide) (hU _ wd_63) (fun _ h9 => h9) rfl dX3_descend_260 ?_
                                refine lv_iload_n hx hb dX3_descend_263 rfl (lv_at hl 10 rfl) ?_
                                refine lv_iload hx hb dX3_descend_264 (lv_at hl 2 rfl) ?_
                                obtain ⟨g_502, hfo_501, hbg_502⟩ := un_525 (hG _ ma_456) ka_456
                                refine tk_istP hx hb hK hP hD hS 0 ma_456 hfo_501 rfl (vp_in_nI (n := 3) (by decide) (by decide)) dX3_descend_266 (fun H locs hP hD hS => ?_)
                                obtain ⟨f_504, ef_504⟩ : ∃ y : Nat → va_E, y = va_up f_491 a_456 (.inl (cI, 9, .inl (upd g_502 (Int32.toNatClampNeg 3) x_470))) := ⟨_, rfl⟩
                                have hP : va_P (dC, dI) vwCl (va_pl L f_504) H := by rw [ef_504]; exact hP
                                have hD : va_D (fun q => q ∈ L) (va_pl L f_504) := by rw [ef_504]; exact hD
                                have hG : GI (okc cI cL cZ cR cG cH L kd) kd L f_504 := by rw [ef_504]; exact hG.set a_456 (mk_525 ka_456 ⟨_, rfl, okI_up hbg_502 (by constructor <;> omega) _⟩)
                                have hfo_505 : f_504 o0 = .inr (3, [.ref a_2, .ref a_445, .ref a_446, .ref a_5, .ref a_448, .int v_449, .int v_450, .int v_451, .int v_452, .int v_453, .int v_454, .int v_455, .ref a_456, .ref a_457, .ref a_458, .int v_459, .ref a_460, .ref a_461]) := by rw [ef_504, up_ne (kd_ne ka_456 ko0 (by decide))]; exact hfo_494
                                have hfo_506 : f_504 a_445 = .inr (10, [.ref a_463, .int v_464, .int v_465]) := by rw [ef_504, up_ne (kd_ne ka_456 ka_445 (by decide))]; exact hfo_495
                                have hfo_507 : f_504 a_446 = .inr (8, [.ref a_485, .ref a_486, .ref a_487, .ref a_488, .ref a_489]) := by rw [ef_504, up_ne (kd_ne ka_456 ka_446 (by decide))]; exact hfo_496
                                have hfr0 : ∀ b, kd b ≠ 1 → kd b ≠ 3 → kd b ≠ 10 → kd b ≠ 517 → kd b ≠ 518 → kd b ≠ 519 → kd b ≠ 520 → kd b ≠ 521 → kd b ≠ 522 → kd b ≠ 523 → kd b ≠ 524 → kd b ≠ 525 → kd b ≠ 526 → kd b ≠ 527 → f_504 b = f b := fun b q1 q3 q10 q517 q518 q519 q520 q521 q522 q523 q524 q525 q526 q527 => (congrFun ef_504 b).trans ((up_ne (fun e9 => q525 (by rw [e9]; exact ka_456))).trans (hfr0 b q1 q3 q10 q517 q518 q519 q520 q521 q522 q523 q524 q525 q526 q527))
                                have hrr1_0 : ∀ b, kd b = 1 → fldR (f_504 b) 0 = fldR (f b) 0 := fun b kb => (congrArg (fun x => fldR x 0) ((congrFun ef_504 b).trans (up_ne (kd_ne ka_456 kb (by decide))))).trans (hrr1_0 b kb)
                                have hrr1_1 : ∀ b, kd b = 1 → fldR (f_504 b) 1 = fldR (f b) 1 := fun b kb => (congrArg (fun x => fldR x 1) ((congrFun ef_504 b).trans (up_ne (kd_ne ka_456 kb (by decide))))).trans (hrr1_1 b kb)
                                have hrr3_0 : ∀ b, kd b = 3 → fldR (f_504 b) 0 = fldR (f b) 0 := fun b kb => (congrArg (fun x => fldR x 0) ((congrFun ef_504 b).trans (up_ne (kd_ne ka_456 kb (by decide))))).trans (hrr3_0 b kb)
                                have hrr3_3 : ∀ b, kd b = 3 → fldR (f_504 b) 3 = fldR (f b) 3 := fun b kb => (congrArg (fun x => fldR x 3) ((congrFun ef_504 b).trans (up_ne (kd_ne ka_456 kb (by decide))))).trans (hrr3_3 b kb)
                                have hT0 : drel kd 1 521 522 f_504 a_5 := by rw [ef_504]; exact hT0.up ka_456 (by decide) (by decide) (by decide)
                                have hfo_508 : f_504 a_456 = .inl (cI, 9, .inl (upd g_502 (Int32.toNatClampNeg 3) x_470)) := by rw [ef_504]; exact up_self
                                refine lv_iload hx hb dX3_descend_267 (lv_at hl 3 rfl) ?_
                                have hcut_510 : ∀ (y_509 : Int32), (0 ≤ y_509.toInt ∧ y_509.toInt ≤ 8) → ∀ (ls : Array Slot), lv_has ls 18 [(14, .int y_481), (13, .int y_479), (12, .int x_470), (11, .int y_467), (10, .int y_350), (9, .int 8), (8, .int y_351), (7, .int x_23), (6, .int y_20), (0, .ref o0), (1, .int 3), (2, .int p2), (3, .int p3), (4, .int p4), (5, .int p5)] → W p l e (headSpec (wU yX3_descend cX3_descend 18 (some .boolean)) { frames := 9, cells := 0, slots := 0, locals := 309 }).room s m [.ref o0, .int 3, .int p2, .int p3, .int p4, .int p5].toArray below meth c H locs 0 0 (MQ below (va_Qi (fun (r : Int32) (f9 : Nat → va_E) => GI (okc cI cL cZ cR cG cH L kd) kd L f9 ∧ (0 ≤ r.toInt ∧ r.toInt ≤ 1) ∧ (∀ b, kd b ≠ 1 → kd b ≠ 3 → kd b ≠ 10 → kd b ≠ 517 → kd b ≠ 518 → kd b ≠ 519 → kd b ≠ 520 → kd b ≠ 521 → kd b ≠ 522 → kd b ≠ 523 → kd b ≠ 524 → kd b ≠ 525 → kd b ≠ 526 → kd b ≠ 527 → f9 b = f b) ∧ (∀ b, kd b = 1 → fldR (f9 b) 0 = fldR (f b) 0) ∧ (∀ b, kd b = 1 → fldR (f9 b) 1 = fldR (f b) 1) ∧ (∀ b, kd b = 3 → fldR (f9 b) 0 = fldR (f b) 0) ∧ (∀ b, kd b = 3 → fldR (f9 b) 3 = fldR (f b) 3) ∧ (∀ d9, fldR (f9 o0) 3 = some d9 → drel kd 1 521 522 f9 d9)) (qP (dC, dI) cI cL cZ cR cG cH L) (fun q => q ∈ L)) [.ref o0, .int 3, .int p2, .int p3, .int p4, .int p5].toArray s 0 0 (fun q => q ∈ L)) (F0 m 279 ls [.int y_509]) := by
                                  intro y_509 by_509 ls hl
                                  refine lv_istore (lv' := [(15, .int y_509), (14, .int y_481), (13, .int y_479), (12, .int x_470), (11, .int y_467), (10, .int y_350), (9, .int 8), (8, .int y_351), (7, .int x_23), (6, .int y_20), (0, .ref o0), (1, .int 3), (2, .int p2), (3, .int p3), (4, .int p4), (5, .int p5)]) hx hb dX3_descend_279 hl (by decide) rfl (fun ls hl => ?_)
                                  refine lv_iload hx hb dX3_descend_281 (lv_at hl 2 rfl) ?_
                                  have hcut_512 : ∀ (y_511 : Int32), (0 ≤ y_511.toInt ∧ y_511.toInt ≤ 387420488) → ((y_479.toInt = 0 ∧ y_511.toInt = p4.toInt) ∨ (1 ≤ y_479.toInt ∧ ((p5.toInt = 0 ∧ y_511.toInt ≤ 344373768) ∨ (p5.toInt = 1 ∧ y_511.toInt ≤ 382637520) ∨ (p5.toInt = 2 ∧ y_511.toInt ≤ 386889048) ∨ (p5.toInt = 3 ∧ y_511.toInt ≤ 387361440)))) → ∀ (ls : Array Slot), lv_has ls 18 [(15, .int y_509), (14, .int y_481), (13, .int y_479), (12, .int x_470), (11, .int y_467), (10, .int y_350), (9, .int 8), (8, .int y_351), (7, .int x_23), (6, .int y_20), (0, .ref o0), (1, .int 3), (2, .int p2), (3, .int p3), (4, .int p4), (5, .int p5)] → W p l e (headSpec (wU yX3_descend cX3_descend 18 (some .boolean)) { frames := 9, cells := 0, slots := 0, locals := 309 }).room s m [.ref o0, .int 3, .int p2, .int p3, .int p4, .int p5].toArray below meth c H locs 0 0 (MQ below (va_Qi (fun (r : Int32) (f9 : Nat → va_E) => GI (okc cI cL cZ cR cG cH L kd) kd L f9 ∧ (0 ≤ r.toInt ∧ r.toInt ≤ 1) ∧ (∀ b, kd b ≠ 1 → kd b ≠ 3 → kd b ≠ 10 → kd b ≠ 517 → kd b ≠ 518 → kd b ≠ 519 → kd b ≠ 520 → kd b ≠ 521 → kd b ≠ 522 → kd b ≠ 523 → kd b ≠ 524 → kd b ≠ 525 → kd b ≠ 526 → kd b ≠ 527 → f9 b = f b) ∧ (∀ b, kd b = 1 → fldR (f9 b) 0 = fldR (f b) 0) ∧ (∀ b, kd b = 1 → fldR (f9 b) 1 = fldR (f b) 1) ∧ (∀ b, kd b = 3 → fldR (f9 b) 0 = fldR (f b) 0) ∧ (∀ b, kd b = 3 → fldR (f9 b) 3 = fldR (f b) 3) ∧ (∀ d9, fldR (f9 o0) 3 = some d9 → drel kd 1 521 522 f9 d9)) (qP (dC, dI) cI cL cZ cR cG cH L) (fun q => q ∈ L)) [.ref o0, .int 3, .int p2, .int p3, .int p4, .int p5].toArray s 0 0 (fun q => q ∈ L)) (F0 m 303 ls [.int y_511]) := by
                                    intro y_511 by_511 hjhcut_512_0 ls hl
                                    refine lv_istore (lv' := [(16, .int y_511), (15, .int y_509), (14, .int y_481), (13, .int y_479), (12, .int x_470), (11, .int y_467), (10, .int y_350), (9, .int 8), (8, .int y_351), (7, .int x_23), (6, .int y_20), (0, .ref o0), (1, .int 3), (2, .int p2), (3, .int p3), (4, .int p4), (5, .int p5)]) hx hb dX3_descend_303 hl (by decide) rfl (fun ls hl => ?_)
                                    refine lv_iload hx hb dX3_descend_305 (lv_at hl 3 rfl) ?_
                                    have hcut_514 : ∀ (y_513 : Int32), (0 ≤ y_513.toInt ∧ y_513.toInt ≤ 4) → ((y_479.toInt = 0 ∧ y_513.toInt = p5.toInt) ∨ (1 ≤ y_479.toInt ∧ y_513.toInt = p5.toInt + 1)) → ∀ (ls : Array Slot), lv_has ls 18 [(16, .int y_511), (15, .int y_509), (14, .int y_481), (13, .int y_479), (12, .int x_470), (11, .int y_467), (10, .int y_350), (9, .int 8), (8, .int y_351), (7, .int x_23), (6, .int y_20), (0, .ref o0), (1, .int 3), (2, .int p2), (3, .int p3), (4, .int p4), (5, .int p5)] → W p l e (headSpec (wU yX3_descend cX3_descend 18 (some .boolean)) { frames := 9, cells := 0, slots := 0, locals := 309 }).room s m [.ref o0, .int 3, .int p2, .int p3, .int p4, .int p5].toArray below meth c H locs 0 0 (MQ below (va_Qi (fun (r : Int32) (f9 : Nat → va_E) => GI (okc cI cL cZ cR cG cH L kd) kd L f9 ∧ (0 ≤ r.toInt ∧ r.toInt ≤ 1) ∧ (∀ b, kd b ≠ 1 → kd b ≠ 3 → kd b ≠ 10 → kd b ≠ 517 → kd b ≠ 518 → kd b ≠ 519 → kd b ≠ 520 → kd b ≠ 521 → kd b ≠ 522 → kd b ≠ 523 → kd b ≠ 524 → kd b ≠ 525 → kd b ≠ 526 → kd b ≠ 527 → f9 b = f b) ∧ (∀ b, kd b = 1 → fldR (f9 b) 0 = fldR (f b) 0) ∧ (∀ b, kd b = 1 → fldR (f9 b) 1 = fldR (f b) 1) ∧ (∀ b, kd b = 3 → fldR (f9 b) 0 = fldR (f b) 0) ∧ (∀ b, kd b = 3 → fldR (f9 b) 3 = fldR (f b) 3) ∧ (∀ d9, fldR (f9 o0) 3 = some d9 → drel kd 1 521 522 f9 d9)) (qP (dC, dI) cI cL cZ cR cG cH L) (fun q => q ∈ L)) [.ref o0, .int 3, .int p2, .int p3, .int p4, .int p5].toArray s 0 0 (fun q => q ∈ L)) (F0 m 319 ls [.int y_513]) := by
                                      intro y_513 by_513 hjhcut_514_0 ls hl
                                      refine lv_istore (lv' := [(17, .int y_513), (16, .int y_511), (15, .int y_509), (14, .int y_481), (13, .int y_479), (12, .int x_470), (11, .int y_467), (10, .int y_350), (9, .int 8), (8, .int y_351), (7, .int x_23), (6, .int y_20), (0, .ref o0), (1, .int 3), (2, .int p2), (3, .int p3), (4, .int p4), (5, .int p5)]) hx hb dX3_descend_319 hl (by decide) rfl (fun ls hl => ?_)
                                      refine lv_iload hx hb dX3_descend_321 (lv_at hl 9 rfl) ?_
                                      refine lv_aload_n hx hb dX3_descend_323 rfl (lv_at hl 12 rfl) ?_
                                      refine lv_iload_n hx hb dX3_descend_324 rfl (lv_at hl 13 rfl) ?_
                                      refine lv_iconst (v := 1) hx hb dX3_descend_325 (by decide) ?_
                                      refine lv_iadd hx hb dX3_descend_326 ?_
                                      refine tk_topi (y := 4) (by decide) ?_
                                      refine lv_iload hx hb dX3_descend_327 (lv_at hl 2 rfl) ?_
                                      refine lv_iload_n hx hb dX3_descend_329 rfl (lv_at hl 15 rfl) ?_
                                      refine lv_iload hx hb dX3_descend_330 (lv_at hl 3 rfl) ?_
                                      refine lv_isub hx hb dX3_descend_332 ?_
                                      refine lv_topi (fun x_515 ex_515 => ?_)
                                      have hx_515 : x_515.toInt = p3.toInt - y_481.toInt := by rw [ex_515, sb_I (by omega) (by omega)]
                                      have bx_515 : ((-1) ≤ x_515.toInt ∧ x_515.toInt ≤ 2147483647) := by constructor <;> omega
                                      refine lv_iload hx hb dX3_descend_333 (lv_at hl 1 rfl) ?_
                                      refine lv_iload hx hb dX3_descend_335 (lv_at hl 0 rfl) ?_
                                      refine tk_ViP (As := [.int 4, .int y_509, .int x_515, .int y_511, .int y_513]) (rest := [.int y_351]) (n := 5) hx hb hml hown hU hN hZ (s_X3_descend_k3_c4 l (dC, dI) cI cL cZ cR cG cH Z kd L f_504 hG o0 mo0 ko0 y_509 (by constructor <;> omega) x_515 y_511 (by constructor <;> omega) y_513 (by constructor <;> omega) (by (try rw [ti_4]) <;> omega) (fun d9 h9 => by rw [hfo_505] at h9; obtain rfl := Option.some.inj h9; exact hT0)) wd_762 wd_763 wd_764 wd_16 wd_765 (by decide +kernel) ⟨Nat.le_of_ble_eq_true rfl, Nat.le_of_ble_eq_true rfl⟩ hK hP hD hS mo0 hfo_505 3 rfl rfl rfl hl.1 rfl (Nat.le_of_ble_eq_true rfl) dX3_descend_337 ⟨Nat.le_of_ble_eq_true rfl, Nat.le_of_ble_eq_true rfl⟩ (fun x_516 f_517 H locs hw hP hD hS => ?_)
                                      obtain ⟨hG, bx_516, hkc_518, hrc_519, hrc_520, hrc_521, hrc_522, hTc_523⟩ := hw
                                      have hfo_525 : f_517 a_446 = .inr (8, [.ref a_485, .ref a_486, .ref a_487, .ref a_488, .ref a_489]) := by rw [hkc_518 a_446 (by rw [ka_446]; decide) (by rw [ka_446]; decide) (by rw [ka_446]; decide) (by rw [ka_446]; decide) (by rw [ka_446]; decide) (by rw [ka_446]; decide) (by rw [ka_446]; decide) (by rw [ka_446]; decide) (by rw [ka_446]; decide) (by rw [ka_446]; decide) (by rw [ka_446]; decide) (by rw [ka_446]; decide) (by rw [ka_446]; decide) (by rw [ka_446]; decide)]; exact hfo_507
                                      have hfr0 : ∀ b, kd b ≠ 1 → kd b ≠ 3 → kd b ≠ 10 → kd b ≠ 517 → kd b ≠ 518 → kd b ≠ 519 → kd b ≠ 520 → kd b ≠ 521 → kd b ≠ 522 → kd b ≠ 523 → kd b ≠ 524 → kd b ≠ 525 → kd b ≠ 526 → kd b ≠ 527 → f_517 b = f b := fun b q1 q3 q10 q517 q518 q519 q520 q521 q522 q523 q524 q525 q526 q527 => (hkc_518 b q1 q3 q10 q517 q518 q519 q520 q521 q522 q523 q524 q525 q526 q527).trans (hfr0 b q1 q3 q10 q517 q518 q519 q520 q521 q522 q523 q524 q525 q526 q527)
                                      have hrr1_0 : ∀ b, kd b = 1 → fldR (f_517 b) 0 = fldR (f b) 0 := fun b kb => (hrc_519 b kb).trans (hrr1_0 b kb)
                                      have hrr1_1 : ∀ b, kd b = 1 → fldR (f_517 b) 1 = fldR (f b) 1 := fun b kb => (hrc_520 b kb).trans (hrr1_1 b kb)
                                      have hrr3_0 : ∀ b, kd b = 3 → fldR (f_517 b) 0 = fldR (f b) 0 := fun b kb => (hrc_521 b kb).trans (hrr3_0 b kb)
                                      have hrr3_3 : ∀ b, kd b = 3 → fldR (f_517 b) 3 = fldR (f b) 3 := fun b kb => (hrc_522 b kb).trans (hrr3_3 b kb)
                                      obtain ⟨a_527, a_528, a_529, a_530, a_531, v_532, v_533, v_534, v_535, v_536, v_537, v_538, a_539, a_540, a_541, v_542, a_543, a_544, hfo_526, ⟨ma_527, ka_527⟩, ⟨ma_528, ka_528⟩, ⟨ma_529, ka_529⟩, ⟨ma_530, ka_530⟩, ⟨ma_531, ka_531⟩, bv_532, bv_533, bv_534, ⟨ma_539, ka_539⟩, ⟨ma_540, ka_540⟩, ⟨ma_541, ka_541⟩, bv_542, ⟨ma_543, ka_543⟩, ⟨ma_544, ka_544⟩⟩ := un_3 (hG _ mo0) ko0
                                      have bv_535 : ((-2147483648) ≤ v_535.toInt ∧ v_535.toInt ≤ 2147483647) := ⟨i32_lo _, i32_hi _⟩
                                      have bv_536 : ((-2147483648) ≤ v_536.toInt ∧ v_536.toInt ≤ 2147483647) := ⟨i32_lo _, i32_hi _⟩
                                      have bv_537 : ((-2147483648) ≤ v_537.toInt ∧ v_537.toInt ≤ 2147483647) := ⟨i32_lo _, i32_hi _⟩
                                      have bv_538 : ((-2147483648) ≤ v_538.toInt ∧ v_538.toInt ≤ 2147483647) := ⟨i32_lo _, i32_hi _⟩
                                      obtain rfl : a_2 = a_527 := by have hk9 := hrr3_0 o0 ko0; rw [hfo_526, hfo_1] at hk9; exact (Option.some.inj hk9).symm
                                      obtain rfl : a_5 = a_530 := by have hk9 := hrr3_3 o0 ko0; rw [hfo_526, hfo_1] at hk9; exact (Option.some.inj hk9).symm
                                      have hT_545 := hTc_523 a_5 (by rw [hfo_526]; rfl)
                                      refine lv_ior hx hb dX3_descend_340 ?_
                                      refine lv_topi (fun x_546 ex_546 => ?_)
                                      have bx_546 : (0 ≤ x_546.toInt ∧ x_546.toInt ≤ 1) := by rw [ex_546]; exact or_K 1 (by decide) (by constructor <;> omega) (by constructor <;> omega)
                                      refine lv_istore (lv' := [(8, .int x_546), (17, .int y_513), (16, .int y_511), (15, .int y_509), (14, .int y_481), (13, .int y_479), (12, .int x_470), (11, .int y_467), (10, .int y_350), (9, .int 8), (7, .int x_23), (6, .int y_20), (0, .ref o0), (1, .int 3), (2, .int p2), (3, .int p3), (4, .int p4), (5, .int p5)]) hx hb dX3_descend_341 hl (by decide) rfl (fun ls hl => ?_)
                                      exact hcut_476 x_546 (by constructor <;> omega) f_517 hG _ _ hP hS hD hfr0 hrr1_0 hrr1_1 hrr3_0 hrr3_3 hT_545 ls (lv_sub hl [6, 7, 8, 9, 0, 10, 11, 12, 13, 14, 15, 16, 17] rfl)
                                    refine lv_if_ne (tgt := 315) hx hb dX3_descend_307 (by decide) (fun c_547 => ?_) (fun c_547 => ?_)
                                    · skip
                                      rw [← Int32.toInt_inj, ti_0] at c_547
                                      refine lv_iload hx hb dX3_descend_315 (lv_at hl 16 rfl) ?_
                                      refine lv_iconst (v := 1) hx hb dX3_descend_317 (by decide) ?_
                                      refine lv_iadd hx hb dX3_descend_318 ?_
                                      refine lv_topi (fun x_548 ex_548 => ?_)
                                      have hx_548 : x_548.toInt = p5.toInt + 1 := by rw [ex_548, ad_I (by rw [ti_1]; omega) (by rw [ti_1]; omega), ti_1]
                                      have bx_548 : (1 ≤ x_548.toInt ∧ x_548.toInt ≤ 4) := by constructor <;> omega
                                      exact hcut_514 x_548 (by constructor <;> omega) (by (try rw [ti_8]) <;> (try rw [ti_3]) <;> omega) ls (lv_sub hl [0, 1, 2, 3, 4, 5, 6, 7, 8, 9, 10, 11, 12, 13, 14, 15, 16] rfl)
                                    · skip
                                      rw [← Int32.toInt_inj, ti_0] at c_547
                                      refine lv_iload hx hb dX3_descend_310 (lv_at hl 16 rfl) ?_
                                      refine lv_goto (tgt := 319) hx hb dX3_descend_312 (by decide) ?_
                                      exact hcut_514 p5 (by constructor <;> omega) (by (try rw [ti_8]) <;> (try rw [ti_3]) <;> omega) ls (lv_sub hl [0, 1, 2, 3, 4, 5, 6, 7, 8, 9, 10, 11, 12, 13, 14, 15, 16] rfl)
                                  refine lv_if_ne (tgt := 291) hx hb dX3_descend_283 (by decide) (fun c_549 => ?_) (fun c_549 => ?_)
                                  · skip
                                    rw [← Int32.toInt_inj, ti_0] at c_549
                                    refine lv_iload hx hb dX3_descend_291 (lv_at hl 14 rfl) ?_
                                    refine lv_iload hx hb dX3_descend_293 (lv_at hl 2 rfl) ?_
                                    refine va_gets hx hb hZ.2.2.1 hS hown (hU _ wd_769) (fun _ h9 => h9) dX3_descend_295 ?_
                                    refine lv_iload hx hb dX3_descend_298 (lv_at hl 15 rfl) ?_
                                    refine va_ti (v := zWt (Int32.toNatClampNeg p5)) hx hb hZ.2.2.2.1 hS (vp_in_iff.mpr (by constructor <;> omega)) rfl dX3_descend_300 ?_
                                    rw [zWt]
                                    refine lv_topi (fun x_550 ex_550 => ?_)
                                    have bx_550 : (1 ≤ x_550.toInt ∧ x_550.toInt ≤ 43046721) := by rw [ex_550]; exact zw_b (vp_in_iff.mpr (by constructor <;> omega))
                                    have htx_550 := zw_t ex_550 (vp_in_iff.mpr (by constructor <;> omega))
                                    refine lv_imul hx hb dX3_descend_301 ?_
                                    refine lv_topi (fun x_551 ex_551 => ?_)
                                    have bx_551 : (0 ≤ x_551.toInt ∧ x_551.toInt ≤ 344373768) := by rw [ex_551]; exact ml_B (a := 8) (b := 43046721) (by constructor <;> omega) (by constructor <;> omega) (by decide)
                                    have hm8 : 0 ≤ x_551.toInt ∧ x_551.toInt ≤ 8 * x_550.toInt := by rw [ex_551]; exact ml_8 (by constructor <;> omega) (by constructor <;> omega)
                                    refine lv_iadd hx hb dX3_descend_302 ?_
                                    refine lv_topi (fun x_552 ex_552 => ?_)
                                    have hx_552 : x_552.toInt = p4.toInt + x_551.toInt := by rw [ex_552, ad_I (by omega) (by omega)]
                                    have bx_552 : (0 ≤ x_552.toInt ∧ x_552.toInt ≤ 731794256) := by constructor <;> omega
                                    exact hcut_512 x_552 (by constructor <;> omega) (by (try rw [ti_8]) <;> (try rw [ti_3]) <;> omega) ls (lv_sub hl [0, 1, 2, 3, 4, 5, 6, 7, 8, 9, 10, 11, 12, 13, 14, 15] rfl)
                                  · skip
                                    rw [← Int32.toInt_inj, ti_0] at c_549
                                    refine lv_iload hx hb dX3_descend_286 (lv_at hl 14 rfl) ?_
                                    refine lv_goto (tgt := 303) hx hb dX3_descend_288 (by decide) ?_
                                    exact hcut_512 p4 (by constructor <;> omega) (by (try rw [ti_8]) <;> (try rw [ti_3]) <;> omega) ls (lv_sub hl [0, 1, 2, 3, 4, 5, 6, 7, 8, 9, 10, 11, 12, 13, 14, 15] rfl)
                                refine lv_if_ne (tgt := 276) hx hb dX3_descend_269 (by decide) (fun c_553 => ?_) (fun c_553 => ?_)
                                · skip
                                  rw [← Int32.toInt_inj, ti_0] at c_553
                                  refine lv_iload_n hx hb dX3_descend_276 rfl (lv_at hl 11 rfl) ?_
                                  refine lv_iconst (v := 1) hx hb dX3_descend_277 (by decide) ?_
                                  refine lv_iadd hx hb dX3_descend_278 ?_
                                  refine lv_topi (fun x_554 ex_554 => ?_)
                                  have hx_554 : x_554.toInt = p2.toInt + 1 := by rw [ex_554, ad_I (by rw [ti_1]; omega) (by rw [ti_1]; omega), ti_1]
                                  have bx_554 : (1 ≤ x_554.toInt ∧ x_554.toInt ≤ 9) := by constructor <;> omega
                                  exact hcut_510 x_554 (by constructor <;> omega) ls (lv_sub hl [0, 1, 2, 3, 4, 5, 6, 7, 8, 9, 10, 11, 12, 13, 14] rfl)
                                · skip
                                  rw [← Int32.toInt_inj, ti_0] at c_553
                                  refine lv_iload_n hx hb dX3_descend_272 rfl (lv_at hl 11 rfl) ?_
                                  refine lv_goto (tgt := 279) hx hb dX3_descend_273 (by decide) ?_
                                  exact hcut_510 p2 (by constructor <;> omega) ls (lv_sub hl [0, 1, 2, 3, 4, 5, 6, 7, 8, 9, 10, 11, 12, 13, 14] rfl)
                              · skip
                                rw [← Int32.toInt_inj, ti_0] at c_500
                                refine lv_goto (tgt := 343) hx hb dX3_descend_256 (by decide) ?_
                                exact hcut_476 y_351 (by constructor <;> omega) f_491 hG _ _ hP hS hD hfr0 hrr1_0 hrr1_1 hrr3_0 hrr3_3 hT0 ls (lv_sub hl [2, 3, 4, 5, 6, 7, 8, 9, 10, 11, 12, 13, 14] rfl)
                          refine lv_if_eq (tgt := 218) hx hb dX3_descend_210 (by decide) (fun c_555 => ?_) (fun c_555 => ?_)
                          · skip
                            rw [← Int32.toInt_inj, ti_0] at c_555
                            refine lv_iconst (v := 1) hx hb dX3_descend_218 (by decide) ?_
                            refine lv_goto (tgt := 223) hx hb dX3_descend_219 (by decide) ?_
                            exact hcut_482 1 (by decide) ls (lv_sub hl [0, 1, 2, 3, 4, 5, 6, 7, 8, 9, 10, 11, 12, 13] rfl)
                          · skip
                            rw [← Int32.toInt_inj, ti_0] at c_555
                            refine lv_iload hx hb dX3_descend_213 (lv_at hl 0 rfl) ?_
                            refine lv_if_ne (tgt := 222) hx hb dX3_descend_215 (by decide) (fun c_556 => ?_) (fun c_556 => ?_)
                            · skip
                              rw [← Int32.toInt_inj, ti_0] at c_556
                              refine lv_iconst (v := 0) hx hb dX3_descend_222 (by decide) ?_
                              exact hcut_482 0 (by decide) ls (lv_sub hl [0, 1, 2, 3, 4, 5, 6, 7, 8, 9, 10, 11, 12, 13] rfl)
                            · skip
                              rw [← Int32.toInt_inj, ti_0] at c_556
                              refine lv_iconst (v := 1) hx hb dX3_descend_218 (by decide) ?_
                              refine lv_goto (tgt := 223) hx hb dX3_descend_219 (by decide) ?_
                              exact hcut_482 1 (by decide) ls (lv_sub hl [0, 1, 2, 3, 4, 5, 6, 7, 8, 9, 10, 11, 12, 13] rfl)
                        refine lv_if_eq (tgt := 196) hx hb dX3_descend_180 (by decide) (fun c_557 => ?_) (fun c_557 => ?_)
                        · skip
                          rw [← Int32.toInt_inj, ti_0] at c_557
                          refine lv_aload_n hx hb dX3_descend_196 rfl (lv_at hl 7 rfl) ?_
                          refine tk_getP (D := (dC, dI)) (ci := 3) (v := .ref a_2) (C := RX3) (T := TX3) (N := 18) hx hb hU inlX3 hown hK hP mo0 hfo_443 rfl 0 (by decide) (hU _ wd_48) (fun _ h9 => h9) rfl dX3_descend_197 ?_
                          obtain ⟨a_559, v_560, a_561, a_562, a_563, a_564, v_565, a_566, a_567, a_568, a_569, a_570, v_571, a_572, a_573, a_574, hfo_558, ⟨ma_559, ka_559⟩, bv_560, ⟨ma_561, ka_561⟩, ⟨ma_562, ka_562⟩, ⟨ma_563, ka_563⟩, ⟨ma_564, ka_564⟩, bv_565, ⟨ma_566, ka_566⟩, ⟨ma_567, ka_567⟩, ⟨ma_568, ka_568⟩, ⟨ma_569, ka_569⟩, ⟨ma_570, ka_570⟩, bv_571, ⟨ma_572, ka_572⟩, ⟨ma_573, ka_573⟩, ⟨ma_574, ka_574⟩⟩ := un_7 (hG _ ma_2) ka_2
                          refine tk_getP (D := (dC, dI)) (ci := 7) (v := .ref a_563) (C := RX7) (T := TX7) (N := 16) hx hb hU inlX7 hown hK hP ma_2 hfo_558 rfl 4 (by decide) (hU _ wd_768) (fun _ h9 => h9) rfl dX3_descend_200 ?_
                          refine lv_iload hx hb dX3_descend_203 (lv_at hl 0 rfl) ?_
                          obtain ⟨g_576, hfo_575, hbg_576⟩ := un_511 (hG _ ma_563) ka_563
                          refine tk_ildP hx hb hK hP 0 ma_563 hfo_575 rfl (vp_in_iff.mpr (by constructor <;> omega)) dX3_descend_205 ?_
                          refine lv_topi (fun x_577 ex_577 => ?_)
                          have bx_577 : (0 ≤ x_577.toInt ∧ x_577.toInt ≤ 8) := by rw [ex_577]; exact hbg_576 _
                          exact hcut_480 x_577 (by constructor <;> omega) ls (lv_sub hl [0, 1, 2, 3, 4, 5, 6, 7, 8, 9, 10, 11, 12] rfl)
                        · skip
                          rw [← Int32.toInt_inj, ti_0] at c_557
                          refine lv_aload_n hx hb dX3_descend_183 rfl (lv_at hl 7 rfl) ?_
                          refine tk_getP (D := (dC, dI)) (ci := 3) (v := .ref a_2) (C := RX3) (T := TX3) (N := 18) hx hb hU inlX3 hown hK hP mo0 hfo_443 rfl 0 (by decide) (hU _ wd_48) (fun _ h9 => h9) rfl dX3_descend_184 ?_
                          obtain ⟨a_579, v_580, a_581, a_582, a_583, a_584, v_585, a_586, a_587, a_588, a_589, a_590, v_591, a_592, a_593, a_594, hfo_578, ⟨ma_579, ka_579⟩, bv_580, ⟨ma_581, ka_581⟩, ⟨ma_582, ka_582⟩, ⟨ma_583, ka_583⟩, ⟨ma_584, ka_584⟩, bv_585, ⟨ma_586, ka_586⟩, ⟨ma_587, ka_587⟩, ⟨ma_588, ka_588⟩, ⟨ma_589, ka_589⟩, ⟨ma_590, ka_590⟩, bv_591, ⟨ma_592, ka_592⟩, ⟨ma_593, ka_593⟩, ⟨ma_594, ka_594⟩⟩ := un_7 (hG _ ma_2) ka_2
                          refine tk_getP (D := (dC, dI)) (ci := 7) (v := .ref a_584) (C := RX7) (T := TX7) (N := 16) hx hb hU inlX7 hown hK hP ma_2 hfo_578 rfl 5 (by decide) (hU _ wd_767) (fun _ h9 => h9) rfl dX3_descend_187 ?_
                          refine lv_iload hx hb dX3_descend_190 (lv_at hl 0 rfl) ?_
                          obtain ⟨g_596, hfo_595, hbg_596⟩ := un_511 (hG _ ma_584) ka_584
                          refine tk_ildP hx hb hK hP 0 ma_584 hfo_595 rfl (vp_in_iff.mpr (by constructor <;> omega)) dX3_descend_192 ?_
                          refine lv_topi (fun x_597 ex_597 => ?_)
                          have bx_597 : (0 ≤ x_597.toInt ∧ x_597.toInt ≤ 8) := by rw [ex_597]; exact hbg_596 _
                          refine lv_goto (tgt := 206) hx hb dX3_descend_193 (by decide) ?_
                          exact hcut_480 x_597 (by constructor <;> omega) ls (lv_sub hl [0, 1, 2, 3, 4, 5, 6, 7, 8, 9, 10, 11, 12] rfl)
                      · skip
                        rw [← Int32.toInt_inj, ti_m1] at c_478
                        refine lv_goto (tgt := 343) hx hb dX3_descend_173 (by decide) ?_
                        exact hcut_476 y_351 (by constructor <;> omega) f_353 hG _ _ hP hS hD hfr0 hrr1_0 hrr1_1 hrr3_0 hrr3_3 hT0 ls (lv_sub hl [0, 1, 2, 3, 4, 5, 6, 7, 8, 9, 10, 11, 12] rfl)
                    refine lv_icmp_ge (tgt := 152) hx hb dX3_descend_140 (by decide) (fun c_598 => ?_) (fun c_598 => ?_)
                    · skip
                      rw [Int32.le_iff_toInt_le, ti_4] at c_598
                      refine lv_iconst (v := 0) hx hb dX3_descend_152 (by decide) ?_
                      exact hcut_468 0 (by decide) (by (try rw [ti_0]) <;> (try rw [ti_8]) <;> (try rw [ti_3]) <;> omega) ls (lv_sub hl [0, 1, 2, 3, 4, 5, 6, 7, 8, 9, 10] rfl)
                    · skip
                      rw [Int32.le_iff_toInt_le, ti_4] at c_598
                      refine lv_aload_n hx hb dX3_descend_143 rfl (lv_at hl 5 rfl) ?_
                      refine tk_getP (D := (dC, dI)) (ci := 3) (v := .ref a_448) (C := RX3) (T := TX3) (N := 18) hx hb hU inlX3 hown hK hP mo0 hfo_443 rfl 4 (by decide) (hU _ wd_61) (fun _ h9 => h9) rfl dX3_descend_144 ?_
                      refine lv_iload_n hx hb dX3_descend_147 rfl (lv_at hl 7 rfl) ?_
                      obtain ⟨g_600, hfo_599, hbg_600⟩ := un_507 (hG _ ma_448) ka_448
                      refine tk_ildP hx hb hK hP 0 ma_448 hfo_599 rfl (vp_in_iff.mpr (by constructor <;> omega)) dX3_descend_148 ?_
                      refine lv_topi (fun x_601 ex_601 => ?_)
                      have bx_601 : (0 ≤ x_601.toInt ∧ x_601.toInt ≤ 8) := by rw [ex_601]; exact hbg_600 _
                      refine lv_goto (tgt := 153) hx hb dX3_descend_149 (by decide) ?_
                      exact hcut_468 x_601 (by constructor <;> omega) (by (try rw [ti_8]) <;> (try rw [ti_3]) <;> omega) ls (lv_sub hl [0, 1, 2, 3, 4, 5, 6, 7, 8, 9, 10] rfl)
            exact hloop_349 9 y_332 (by constructor <;> omega) y_308 (by constructor <;> omega) f_310 hG _ _ hP hS hD hfr0 hrr1_0 hrr1_1 hrr3_0 hrr3_3 hT0 (by (try rw [ti_8]) <;> (try rw [ti_3]) <;> omega) (by (try rw [ti_8]) <;> (try rw [ti_3]) <;> omega) ls hl
          refine lv_icmp_ge (tgt := 117) hx hb dX3_descend_110 (by decide) (fun c_602 => ?_) (fun c_602 => ?_)
          · skip
            rw [Int32.le_iff_toInt_le] at c_602
            refine lv_iconst (v := 4) hx hb dX3_descend_117 (by decide) ?_
            exact hcut_333 4 (by decide) (by (try rw [ti_4]) <;> (try rw [ti_8]) <;> (try rw [ti_3]) <;> omega) ls (lv_sub hl [0, 1, 2, 3, 4, 5, 6, 7, 8, 9] rfl)
          · skip
            rw [Int32.le_iff_toInt_le] at c_602
            refine lv_iconst (v := 0) hx hb dX3_descend_113 (by decide) ?_
            refine lv_goto (tgt := 118) hx hb dX3_descend_114 (by decide) ?_
            exact hcut_333 0 (by decide) (by (try rw [ti_0]) <;> (try rw [ti_8]) <;> (try rw [ti_3]) <;> omega) ls (lv_sub hl [0, 1, 2, 3, 4, 5, 6, 7, 8, 9] rfl)
        refine lv_icmp_ne (tgt := 88) hx hb dX3_descend_71 (by decide) (fun c_603 => ?_) (fun c_603 => ?_)
        · skip
          rw [← Int32.toInt_inj] at c_603
          refine lv_iconst (v := 0) hx hb dX3_descend_88 (by decide) ?_
          exact hcut_312 0 (by decide) f_290 hG _ _ hP hS hD hfr0 hrr1_0 hrr1_1 hrr3_0 hrr3_3 hfo_297 hT0 ls (lv_sub hl [0, 1, 2, 3, 4, 5, 6, 7] rfl)
        · skip
          rw [← Int32.toInt_inj] at c_603
          refine lv_aload_n hx hb dX3_descend_74 rfl (lv_at hl 2 rfl) ?_
          refine lv_iload_n hx hb dX3_descend_75 rfl (lv_at hl 3 rfl) ?_
          refine lv_iload hx hb dX3_descend_76 (lv_at hl 6 rfl) ?_
          refine tk_ViP (As := [.int 3, .int p4]) (rest := []) (n := 2) hx hb hml hown hU hN hZ (s_X3_complete_k3 l (dC, dI) cI cL cZ cR cG cH Z kd L f_290 hG o0 mo0 ko0 3 (by decide) p4 (by constructor <;> omega) (fun d9 h9 => by rw [hfo_296] at h9; obtain rfl := Option.some.inj h9; exact hT0)) wd_792 wd_793 wd_794 wd_16 wd_795 (by decide +kernel) ⟨Nat.le_of_ble_eq_true rfl, Nat.le_of_ble_eq_true rfl⟩ hK hP hD hS mo0 hfo_296 3 rfl rfl rfl hl.1 rfl (Nat.le_of_ble_eq_true rfl) dX3_descend_78 ⟨Nat.le_of_ble_eq_true rfl, Nat.le_of_ble_eq_true rfl⟩ (fun x_604 f_605 H locs hw hP hD hS => ?_)
          obtain ⟨hG, bx_604, hkc_606, hrc_607, hrc_608, hTc_609⟩ := hw
          have hfo_611 : f_605 a_5 = .inr (1, [.ref a_283, .ref a_284, .ref a_300, .int v_301, .int v_302, .int v_288]) := by rw [hkc_606 a_5 (by rw [ka_5]; decide) (by rw [ka_5]; decide) (by rw [ka_5]; decide) (by rw [ka_5]; decide) (by rw [ka_5]; decide)]; exact hfo_297
          have hfr0 : ∀ b, kd b ≠ 1 → kd b ≠ 3 → kd b ≠ 10 → kd b ≠ 517 → kd b ≠ 518 → kd b ≠ 519 → kd b ≠ 520 → kd b ≠ 521 → kd b ≠ 522 → kd b ≠ 523 → kd b ≠ 524 → kd b ≠ 525 → kd b ≠ 526 → kd b ≠ 527 → f_605 b = f b := fun b q1 q3 q10 q517 q518 q519 q520 q521 q522 q523 q524 q525 q526 q527 => (hkc_606 b q3 q10 q524 q526 q527).trans (hfr0 b q1 q3 q10 q517 q518 q519 q520 q521 q522 q523 q524 q525 q526 q527)
          have hrr1_0 : ∀ b, kd b = 1 → fldR (f_605 b) 0 = fldR (f b) 0 := fun b kb => (congrArg (fun x => fldR x 0) (hkc_606 b (by rw [kb]; decide) (by rw [kb]; decide) (by rw [kb]; decide) (by rw [kb]; decide) (by rw [kb]; decide))).trans (hrr1_0 b kb)
          have hrr1_1 : ∀ b, kd b = 1 → fldR (f_605 b) 1 = fldR (f b) 1 := fun b kb => (congrArg (fun x => fldR x 1) (hkc_606 b (by rw [kb]; decide) (by rw [kb]; decide) (by rw [kb]; decide) (by rw [kb]; decide) (by rw [kb]; decide))).trans (hrr1_1 b kb)
          have hrr3_0 : ∀ b, kd b = 3 → fldR (f_605 b) 0 = fldR (f b) 0 := fun b kb => (hrc_607 b kb).trans (hrr3_0 b kb)
          have hrr3_3 : ∀ b, kd b = 3 → fldR (f_605 b) 3 = fldR (f b) 3 := fun b kb => (hrc_608 b kb).trans (hrr3_3 b kb)
          have hT0 : drel kd 1 521 522 f_605 a_5 := hT0.keep (fun b q => congrArg (fun x => fldI x 5) (hkc_606 b (by rw [q]; decide) (by rw [q]; decide) (by rw [q]; decide) (by rw [q]; decide) (by rw [q]; decide))) (fun b q => congrArg (fun x => fldR x 0) (hkc_606 b (by rw [q]; decide) (by rw [q]; decide) (by rw [q]; decide) (by rw [q]; decide) (by rw [q]; decide))) (fun b q => congrArg (fun x => fldR x 1) (hkc_606 b (by rw [q]; decide) (by rw [q]; decide) (by rw [q]; decide) (by rw [q]; decide) (by rw [q]; decide))) (fun b q => hkc_606 b (by rw [q]; decide) (by rw [q]; decide) (by rw [q]; decide) (by rw [q]; decide) (by rw [q]; decide)) (fun b q => hkc_606 b (by rw [q]; decide) (by rw [q]; decide) (by rw [q]; decide) (by rw [q]; decide) (by rw [q]; decide))
          obtain ⟨a_613, a_614, a_615, a_616, a_617, v_618, v_619, v_620, v_621, v_622, v_623, v_624, a_625, a_626, a_627, v_628, a_629, a_630, hfo_612, ⟨ma_613, ka_613⟩, ⟨ma_614, ka_614⟩, ⟨ma_615, ka_615⟩, ⟨ma_616, ka_616⟩, ⟨ma_617, ka_617⟩, bv_618, bv_619, bv_620, ⟨ma_625, ka_625⟩, ⟨ma_626, ka_626⟩, ⟨ma_627, ka_627⟩, bv_628, ⟨ma_629, ka_629⟩, ⟨ma_630, ka_630⟩⟩ := un_3 (hG _ mo0) ko0
          have bv_621 : ((-2147483648) ≤ v_621.toInt ∧ v_621.toInt ≤ 2147483647) := ⟨i32_lo _, i32_hi _⟩
          have bv_622 : ((-2147483648) ≤ v_622.toInt ∧ v_622.toInt ≤ 2147483647) := ⟨i32_lo _, i32_hi _⟩
          have bv_623 : ((-2147483648) ≤ v_623.toInt ∧ v_623.toInt ≤ 2147483647) := ⟨i32_lo _, i32_hi _⟩
          have bv_624 : ((-2147483648) ≤ v_624.toInt ∧ v_624.toInt ≤ 2147483647) := ⟨i32_lo _, i32_hi _⟩
          obtain rfl : a_2 = a_613 := by have hk9 := hrr3_0 o0 ko0; rw [hfo_612, hfo_1] at hk9; exact (Option.some.inj hk9).symm
          obtain rfl : a_5 = a_616 := by have hk9 := hrr3_3 o0 ko0; rw [hfo_612, hfo_1] at hk9; exact (Option.some.inj hk9).symm
          have hT_631 := hTc_609 a_5 (by rw [hfo_612]; rfl)
          refine lv_if_eq (tgt := 88) hx hb dX3_descend_81 (by decide) (fun c_632 => ?_) (fun c_632 => ?_)
          · skip
            rw [← Int32.toInt_inj, ti_0] at c_632
            refine lv_iconst (v := 0) hx hb dX3_descend_88 (by decide) ?_
            exact hcut_312 0 (by decide) f_605 hG _ _ hP hS hD hfr0 hrr1_0 hrr1_1 hrr3_0 hrr3_3 hfo_611 hT_631 ls (lv_sub hl [0, 1, 2, 3, 4, 5, 6, 7] rfl)
          · skip
            rw [← Int32.toInt_inj, ti_0] at c_632
            refine lv_iconst (v := 1) hx hb dX3_descend_84 (by decide) ?_
            refine lv_goto (tgt := 89) hx hb dX3_descend_85 (by decide) ?_
            exact hcut_312 1 (by decide) f_605 hG _ _ hP hS hD hfr0 hrr1_0 hrr1_1 hrr3_0 hrr3_3 hfo_611 hT_631 ls (lv_sub hl [0, 1, 2, 3, 4, 5, 6, 7] rfl)
      · skip
        rw [← Int32.toInt_inj, ti_0] at c_307
        refine lv_iconst (v := 0) hx hb dX3_descend_64 (by decide) ?_
        exact W.zret (v := 0) (ty := .boolean) hx hb hr rfl (fun t ht hW => ⟨⟨0, f_290, rfl, ⟨hG, (by decide), hfr0, hrr1_0, hrr1_1, hrr3_0, hrr3_3, (fun d9 h9 => by rw [hfo_296] at h9; obtain rfl := Option.some.inj h9; exact hT0)⟩, by rw [ht]; exact hP, va_K.moved hW.alike hK, pl_in hD⟩, hS.F ht⟩) hS.2.2 dX3_descend_65
  refine lv_if_eq (tgt := 21) hx hb dX3_descend_4 (by decide) (fun c_633 => ?_) (fun c_633 => ?_)
  · skip
    rw [← Int32.toInt_inj, ti_0] at c_633
    refine lv_iconst (v := 0) hx hb dX3_descend_21 (by decide) ?_
    exact hcut_21 0 (by decide) ls (lv_sub hl [0, 1, 2, 3, 4, 5] rfl)
  · skip
    rw [← Int32.toInt_inj, ti_0] at c_633
    refine lv_aload_n hx hb dX3_descend_7 rfl (lv_at hl 0 rfl) ?_
    refine tk_getP (D := (dC, dI)) (ci := 3) (v := .int v_7) (C := RX3) (T := TX3) (N := 18) hx hb hU inlX3 hown hK hP mo0 hfo_1 rfl 5 (by decide) (hU _ wd_726) (fun _ h9 => h9) rfl dX3_descend_8 ?_
    refine lv_iload_n hx hb dX3_descend_11 rfl (lv_at hl 2 rfl) ?_
    refine lv_isub hx hb dX3_descend_12 ?_
    refine lv_topi (fun x_634 ex_634 => ?_)
    have hx_634 : x_634.toInt = v_7.toInt - p2.toInt := by rw [ex_634, sb_I (by omega) (by omega)]
    have bx_634 : ((-8) ≤ x_634.toInt ∧ x_634.toInt ≤ 8) := by constructor <;> omega
    refine lv_iconst (v := 2) hx hb dX3_descend_13 (by decide) ?_
    refine lv_icmp_lt (tgt := 21) hx hb dX3_descend_14 (by decide) (fun c_635 => ?_) (fun c_635 => ?_)
    · skip
      rw [Int32.lt_iff_toInt_lt, ti_2] at c_635
      refine lv_iconst (v := 0) hx hb dX3_descend_21 (by decide) ?_
      exact hcut_21 0 (by decide) ls (lv_sub hl [0, 1, 2, 3, 4, 5] rfl)
    · skip
      rw [Int32.lt_iff_toInt_lt, ti_2] at c_635
      refine lv_iconst (v := 1) hx hb dX3_descend_17 (by decide) ?_
      refine lv_goto (tgt := 22) hx hb dX3_descend_18 (by decide) ?_
      exact hcut_21 1 (by decide) ls (lv_sub hl [0, 1, 2, 3, 4, 5] rfl)
