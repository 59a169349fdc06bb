set_option maxHeartbeats 8000000 in
set_option maxRecDepth 100000 in
theorem s_X2_readStatement_k2 (l : Launch) (D : va_G) (cI cL cZ cR cG cH : ClassId) (Z : zT) (kd : Nat → Nat) (L : List Nat) (f : Nat → va_E) (hG : GI (okc cI cL cZ cR cG cH L kd) kd L f) (o0 : Nat) (mo0 : o0 ∈ L) (ko0 : kd o0 = 2) (hxtr0 : ∀ d9, fldR (f o0) 0 = some d9 → trel kd 207 566 568 573 204 f d9) : mPI l D cI cL cZ cR cG cH Z yX2_readStatement cX2_readStatement 3 (some .boolean) 7 152 [.ref o0] L f (fun (r : Int32) (f9 : Nat → va_E) => GI (okc cI cL cZ cR cG cH L kd) kd L f9 ∧ (0 ≤ r.toInt ∧ r.toInt ≤ 1) ∧ (∀ b, kd b ≠ 2 → kd b ≠ 204 → kd b ≠ 205 → kd b ≠ 207 → kd b ≠ 209 → kd b ≠ 213 → kd b ≠ 558 → kd b ≠ 559 → kd b ≠ 562 → kd b ≠ 563 → kd b ≠ 564 → kd b ≠ 565 → kd b ≠ 566 → kd b ≠ 567 → kd b ≠ 568 → kd b ≠ 569 → kd b ≠ 570 → kd b ≠ 571 → kd b ≠ 572 → f9 b = f b) ∧ (∀ b, kd b = 2 → fldI (f9 b) 4 = fldI (f b) 4) ∧ (∀ b, kd b = 2 → fldR (f9 b) 0 = fldR (f b) 0) ∧ (∀ b, kd b = 2 → fldR (f9 b) 3 = fldR (f b) 3) ∧ (∀ b, kd b = 207 → fldR (f9 b) 0 = fldR (f b) 0) ∧ (∀ b, kd b = 207 → fldR (f9 b) 3 = fldR (f b) 3) ∧ (∀ b, kd b = 207 → fldR (f9 b) 11 = fldR (f b) 11) ∧ (∀ d9, fldR (f9 o0) 0 = some d9 → trel kd 207 566 568 573 204 f9 d9)) := by
  obtain ⟨dC, dI⟩ := D
  refine Met.ofW (cc := cX2_readStatement) (maxL := 3) (ret := (some .boolean)) (by decide) rfl ?_
  intro p e s m args below meth c s₁ B hml hv
  obtain ⟨rfl, hP, hK, hD0, hN, hZ⟩ := hv
  have hx := B.exec
  have hb := B.bytes
  have hr := B.returns
  have hU : ∀ w ∈ wsU, w.before _ s = true := fun w h => atoms_spec (ws := wU yX2_readStatement cX2_readStatement 3 (some .boolean)) B.pre w (List.mem_cons_of_mem _ h)
  have hown : s.vm.findClass RX2 = some m.cls := findClass_of_methodNamed B.named
  have hlocks := B.notSynchronized
  have hD := pl_in hD0
  have hS : va_S (fun q => q ∈ L) s.heap s.heap [] := va_S.rf
  have hl := lv_entry ([.ref o0]) (n := 3) (Nat.le_of_ble_eq_true rfl)
  rw [lg_entry_eq]
  generalize (lg_sl ([.ref o0]) ++ List.replicate (3 - (lg_sl ([.ref o0])).length) Slot.unset).toArray = ls at hl ⊢
  have hl : lv_has ls 3 [(0, .ref o0)] := hl
  have hfr0 : ∀ b, kd b ≠ 2 → kd b ≠ 204 → kd b ≠ 205 → kd b ≠ 207 → kd b ≠ 209 → kd b ≠ 213 → kd b ≠ 558 → kd b ≠ 559 → kd b ≠ 562 → kd b ≠ 563 → kd b ≠ 564 → kd b ≠ 565 → kd b ≠ 566 → kd b ≠ 567 → kd b ≠ 568 → kd b ≠ 569 → kd b ≠ 570 → kd b ≠ 571 → kd b ≠ 572 → f b = f b := fun _ _ _ _ _ _ _ _ _ _ _ _ _ _ _ _ _ _ _ _ => rfl
  have hfr2_4 : ∀ b, kd b = 2 → fldI (f b) 4 = fldI (f b) 4 := fun _ _ => rfl
  have hrr2_0 : ∀ b, kd b = 2 → fldR (f b) 0 = fldR (f b) 0 := fun _ _ => rfl
  have hrr2_3 : ∀ b, kd b = 2 → fldR (f b) 3 = fldR (f b) 3 := fun _ _ => rfl
  have hrr207_0 : ∀ b, kd b = 207 → fldR (f b) 0 = fldR (f b) 0 := fun _ _ => rfl
  have hrr207_3 : ∀ b, kd b = 207 → fldR (f b) 3 = fldR (f b) 3 := fun _ _ => rfl
  have hrr207_11 : ∀ b, kd b = 207 → fldR (f b) 11 = fldR (f b) 11 := fun _ _ => rfl
  obtain ⟨a_2, v_3, v_4, a_5, v_6, v_7, v_8, v_9, v_10, v_11, hfo_1, ⟨ma_2, ka_2⟩, ⟨ma_5, ka_5⟩, bv_6, bv_7, bv_8, bv_9, bv_10⟩ := un_2 (hG _ mo0) ko0
  have bv_3 : ((-2147483648) ≤ v_3.toInt ∧ v_3.toInt ≤ 2147483647) := ⟨i32_lo _, i32_hi _⟩
  have bv_4 : ((-2147483648) ≤ v_4.toInt ∧ v_4.toInt ≤ 2147483647) := ⟨i32_lo _, i32_hi _⟩
  have bv_11 : ((-2147483648) ≤ v_11.toInt ∧ v_11.toInt ≤ 2147483647) := ⟨i32_lo _, i32_hi _⟩
  have hT0 := hxtr0 a_2 (by rw [hfo_1]; rfl)
  refine lv_aload_n hx hb dX2_readStatement_0 rfl (lv_at hl 0 rfl) ?_
  refine tk_getP (D := (dC, dI)) (ci := 2) (v := .int v_7) (C := RX2) (T := TX2) (N := 10) hx hb hU inlX2 hown hK hP mo0 hfo_1 rfl 5 (by decide) (hU _ wd_256) (fun _ h9 => h9) rfl dX2_readStatement_1 ?_
  refine lv_istore_n (lv' := [(1, .int v_7), (0, .ref o0)]) hx hb dX2_readStatement_4 rfl hl (by decide) rfl (fun ls hl => ?_)
  have hloop_16 : ∀ (n : Nat), ∀ (f_18 : Nat → va_E), GI (okc cI cL cZ cR cG cH L kd) kd L f_18 → ∀ (H : Heap) (locs : List Loc), va_P (dC, dI) vwCl (va_pl L f_18) H → va_S (fun q => q ∈ L) s.heap H locs → va_D (fun q => q ∈ L) (va_pl L f_18) → (∀ b, kd b ≠ 2 → kd b ≠ 204 → kd b ≠ 205 → kd b ≠ 207 → kd b ≠ 209 → kd b ≠ 213 → kd b ≠ 558 → kd b ≠ 559 → kd b ≠ 562 → kd b ≠ 563 → kd b ≠ 564 → kd b ≠ 565 → kd b ≠ 566 → kd b ≠ 567 → kd b ≠ 568 → kd b ≠ 569 → kd b ≠ 570 → kd b ≠ 571 → kd b ≠ 572 → f_18 b = f b) → (∀ b, kd b = 2 → fldI (f_18 b) 4 = fldI (f b) 4) → (∀ b, kd b = 2 → fldR (f_18 b) 0 = fldR (f b) 0) → (∀ b, kd b = 2 → fldR (f_18 b) 3 = fldR (f b) 3) → (∀ b, kd b = 207 → fldR (f_18 b) 0 = fldR (f b) 0) → (∀ b, kd b = 207 → fldR (f_18 b) 3 = fldR (f b) 3) → (∀ b, kd b = 207 → fldR (f_18 b) 11 = fldR (f b) 11) → trel kd 207 566 568 573 204 f_18 a_2 → ∀ (whloop_16_0_5 : Int32), fldI (f_18 o0) 5 = some whloop_16_0_5 → (v_7.toInt ≤ whloop_16_0_5.toInt) → (0 ≤ whloop_16_0_5.toInt ∧ whloop_16_0_5.toInt ≤ 600) → 600 - whloop_16_0_5.toInt < (n : Int) → ∀ (ls : Array Slot), lv_has ls 3 [(1, .int v_7), (0, .ref o0)] → W p l e (headSpec (wU yX2_readStatement cX2_readStatement 3 (some .boolean)) { frames := 7, cells := 0, slots := 0, locals := 152 }).room s m [.ref o0].toArray below meth c H locs 0 0 (MQ below (va_Qi (fun (r : Int32) (f9 : Nat → va_E) => GI (okc cI cL cZ cR cG cH L kd) kd L f9 ∧ (0 ≤ r.toInt ∧ r.toInt ≤ 1) ∧ (∀ b, kd b ≠ 2 → kd b ≠ 204 → kd b ≠ 205 → kd b ≠ 207 → kd b ≠ 209 → kd b ≠ 213 → kd b ≠ 558 → kd b ≠ 559 → kd b ≠ 562 → kd b ≠ 563 → kd b ≠ 564 → kd b ≠ 565 → kd b ≠ 566 → kd b ≠ 567 → kd b ≠ 568 → kd b ≠ 569 → kd b ≠ 570 → kd b ≠ 571 → kd b ≠ 572 → f9 b = f b) ∧ (∀ b, kd b = 2 → fldI (f9 b) 4 = fldI (f b) 4) ∧ (∀ b, kd b = 2 → fldR (f9 b) 0 = fldR (f b) 0) ∧ (∀ b, kd b = 2 → fldR (f9 b) 3 = fldR (f b) 3) ∧ (∀ b, kd b = 207 → fldR (f9 b) 0 = fldR (f b) 0) ∧ (∀ b, kd b = 207 → fldR (f9 b) 3 = fldR (f b) 3) ∧ (∀ b, kd b = 207 → fldR (f9 b) 11 = fldR (f b) 11) ∧ (∀ d9, fldR (f9 o0) 0 = some d9 → trel kd 207 566 568 573 204 f9 d9)) (qP (dC, dI) cI cL cZ cR cG cH L) (fun q => q ∈ L)) [.ref o0].toArray s 0 0 (fun q => q ∈ L)) (F0 m 5 ls []) := by
    intro n
    induction n with
    | zero => intro f_18 hG H locs hP hS hD hfr0 hfr2_4 hrr2_0 hrr2_3 hrr207_0 hrr207_3 hrr207_11 hT0 whloop_16_0_5 hghloop_16_0_5 hrelhloop_16_0 hrelhloop_16_1 hmuhloop_16 ls hl; exfalso; omega
    | succ n ih_hloop_16 =>
      intro f_18 hG H locs hP hS hD hfr0 hfr2_4 hrr2_0 hrr2_3 hrr207_0 hrr207_3 hrr207_11 hT0 whloop_16_0_5 hghloop_16_0_5 hrelhloop_16_0 hrelhloop_16_1 hmuhloop_16 ls hl
      obtain ⟨a_20, v_21, v_22, a_23, v_24, v_25, v_26, v_27, v_28, v_29, hfo_19, ⟨ma_20, ka_20⟩, ⟨ma_23, ka_23⟩, bv_24, bv_25, bv_26, bv_27, bv_28⟩ := un_2 (hG _ mo0) ko0
      have bv_21 : ((-2147483648) ≤ v_21.toInt ∧ v_21.toInt ≤ 2147483647) := ⟨i32_lo _, i32_hi _⟩
      have bv_22 : ((-2147483648) ≤ v_22.toInt ∧ v_22.toInt ≤ 2147483647) := ⟨i32_lo _, i32_hi _⟩
      have bv_29 : ((-2147483648) ≤ v_29.toInt ∧ v_29.toInt ≤ 2147483647) := ⟨i32_lo _, i32_hi _⟩
      obtain rfl : a_2 = a_20 := by have hk9 := hrr2_0 o0 ko0; rw [hfo_19, hfo_1] at hk9; exact (Option.some.inj hk9).symm
      obtain rfl : a_5 = a_23 := by have hk9 := hrr2_3 o0 ko0; rw [hfo_19, hfo_1] at hk9; exact (Option.some.inj hk9).symm
      obtain rfl : v_25 = whloop_16_0_5 := by rw [hfo_19] at hghloop_16_0_5; exact Option.some.inj hghloop_16_0_5
      refine lv_aload_n hx hb dX2_readStatement_5 rfl (lv_at hl 1 rfl) ?_
      refine tk_getP (D := (dC, dI)) (ci := 2) (v := .int v_25) (C := RX2) (T := TX2) (N := 10) hx hb hU inlX2 hown hK hP mo0 hfo_19 rfl 5 (by decide) (hU _ wd_256) (fun _ h9 => h9) rfl dX2_readStatement_6 ?_
      refine lv_aload_n hx hb dX2_readStatement_9 rfl (lv_at hl 1 rfl) ?_
      refine tk_getP (D := (dC, dI)) (ci := 2) (v := .int v_24) (C := RX2) (T := TX2) (N := 10) hx hb hU inlX2 hown hK hP mo0 hfo_19 rfl 4 (by decide) (hU _ wd_251) (fun _ h9 => h9) rfl dX2_readStatement_10 ?_
      have hcut_31 : ∀ (H : Heap) (locs : List Loc), va_P (dC, dI) vwCl (va_pl L f_18) H → va_S (fun q => q ∈ L) s.heap H locs → ∀ (ls : Array Slot), lv_has ls 3 [(1, .int v_7), (0, .ref o0)] → W p l e (headSpec (wU yX2_readStatement cX2_readStatement 3 (some .boolean)) { frames := 7, cells := 0, slots := 0, locals := 152 }).room s m [.ref o0].toArray below meth c H locs 0 0 (MQ below (va_Qi (fun (r : Int32) (f9 : Nat → va_E) => GI (okc cI cL cZ cR cG cH L kd) kd L f9 ∧ (0 ≤ r.toInt ∧ r.toInt ≤ 1) ∧ (∀ b, kd b ≠ 2 → kd b ≠ 204 → kd b ≠ 205 → kd b ≠ 207 → kd b ≠ 209 → kd b ≠ 213 → kd b ≠ 558 → kd b ≠ 559 → kd b ≠ 562 → kd b ≠ 563 → kd b ≠ 564 → kd b ≠ 565 → kd b ≠ 566 → kd b ≠ 567 → kd b ≠ 568 → kd b ≠ 569 → kd b ≠ 570 → kd b ≠ 571 → kd b ≠ 572 → f9 b = f b) ∧ (∀ b, kd b = 2 → fldI (f9 b) 4 = fldI (f b) 4) ∧ (∀ b, kd b = 2 → fldR (f9 b) 0 = fldR (f b) 0) ∧ (∀ b, kd b = 2 → fldR (f9 b) 3 = fldR (f b) 3) ∧ (∀ b, kd b = 207 → fldR (f9 b) 0 = fldR (f b) 0) ∧ (∀ b, kd b = 207 → fldR (f9 b) 3 = fldR (f b) 3) ∧ (∀ b, kd b = 207 → fldR (f9 b) 11 = fldR (f b) 11) ∧ (∀ d9, fldR (f9 o0) 0 = some d9 → trel kd 207 566 568 573 204 f9 d9)) (qP (dC, dI) cI cL cZ cR cG cH L) (fun q => q ∈ L)) [.ref o0].toArray s 0 0 (fun q => q ∈ L)) (F0 m 44 ls []) := by
        intro H locs hP hS ls hl
        refine lv_aload_n hx hb dX2_readStatement_44 rfl (lv_at hl 1 rfl) ?_
        refine va_ldcS hx hb hown hZ.2.2.2.2.2.1 dX2_readStatement_45 ?_
        refine lv_iload_n hx hb dX2_readStatement_47 rfl (lv_at hl 0 rfl) ?_
        refine tk_ViP (As := [.ref (Z.1 0), .int v_7]) (rest := []) (n := 2) hx hb hml hown hU hN hZ (s_X2_isKeyword_k2 l (dC, dI) cI cL cZ cR cG cH Z kd L f_18 hG o0 mo0 ko0 0 (by decide) v_7 (by constructor <;> omega)) wd_287 wd_288 wd_289 wd_33 wd_290 (by decide +kernel) ⟨Nat.le_of_ble_eq_true rfl, Nat.le_of_ble_eq_true rfl⟩ hK hP hD hS mo0 hfo_19 2 rfl rfl rfl hl.1 rfl (Nat.le_of_ble_eq_true rfl) dX2_readStatement_48 ⟨Nat.le_of_ble_eq_true rfl, Nat.le_of_ble_eq_true rfl⟩ (fun x_32 f_33 H locs hw hP hD hS => ?_)
        obtain ⟨rfl, bx_32⟩ := hw
        have hcut_38 : ∀ (y_35 : Int32), (0 ≤ y_35.toInt ∧ y_35.toInt ≤ 1) → ∀ (f_37 : Nat → va_E), GI (okc cI cL cZ cR cG cH L kd) kd L f_37 → ∀ (H : Heap) (locs : List Loc), va_P (dC, dI) vwCl (va_pl L f_37) H → va_S (fun q => q ∈ L) s.heap H locs → va_D (fun q => q ∈ L) (va_pl L f_37) → (∀ b, kd b ≠ 2 → kd b ≠ 204 → kd b ≠ 205 → kd b ≠ 207 → kd b ≠ 209 → kd b ≠ 213 → kd b ≠ 558 → kd b ≠ 559 → kd b ≠ 562 → kd b ≠ 563 → kd b ≠ 564 → kd b ≠ 565 → kd b ≠ 566 → kd b ≠ 567 → kd b ≠ 568 → kd b ≠ 569 → kd b ≠ 570 → kd b ≠ 571 → kd b ≠ 572 → f_37 b = f b) → (∀ b, kd b = 2 → fldI (f_37 b) 4 = fldI (f b) 4) → (∀ b, kd b = 2 → fldR (f_37 b) 0 = fldR (f b) 0) → (∀ b, kd b = 2 → fldR (f_37 b) 3 = fldR (f b) 3) → (∀ b, kd b = 207 → fldR (f_37 b) 0 = fldR (f b) 0) → (∀ b, kd b = 207 → fldR (f_37 b) 3 = fldR (f b) 3) → (∀ b, kd b = 207 → fldR (f_37 b) 11 = fldR (f b) 11) → trel kd 207 566 568 573 204 f_37 a_2 → ∀ (ls : Array Slot), lv_has ls 3 [(2, .int y_35), (1, .int v_7), (0, .ref o0)] → W p l e (headSpec (wU yX2_readStatement cX2_readStatement 3 (some .boolean)) { frames := 7, cells := 0, slots := 0, locals := 152 }).room s m [.ref o0].toArray below meth c H locs 0 0 (MQ below (va_Qi (fun (r : Int32) (f9 : Nat → va_E) => GI (okc cI cL cZ cR cG cH L kd) kd L f9 ∧ (0 ≤ r.toInt ∧ r.toInt ≤ 1) ∧ (∀ b, kd b ≠ 2 → kd b ≠ 204 → kd b ≠ 205 → kd b ≠ 207 → kd b ≠ 209 → kd b ≠ 213 → kd b ≠ 558 → kd b ≠ 559 → kd b ≠ 562 → kd b ≠ 563 → kd b ≠ 564 → kd b ≠ 565 → kd b ≠ 566 → kd b ≠ 567 → kd b ≠ 568 → kd b ≠ 569 → kd b ≠ 570 → kd b ≠ 571 → kd b ≠ 572 → f9 b = f b) ∧ (∀ b, kd b = 2 → fldI (f9 b) 4 = fldI (f b) 4) ∧ (∀ b, kd b = 2 → fldR (f9 b) 0 = fldR (f b) 0) ∧ (∀ b, kd b = 2 → fldR (f9 b) 3 = fldR (f b) 3) ∧ (∀ b, kd b = 207 → fldR (f9 b) 0 = fldR (f b) 0) ∧ (∀ b, kd b = 207 → fldR (f9 b) 3 = fldR (f b) 3) ∧ (∀ b, kd b = 207 → fldR (f9 b) 11 = fldR (f b) 11) ∧ (∀ d9, fldR (f9 o0) 0 = some d9 → trel kd 207 566 568 573 204 f9 d9)) (qP (dC, dI) cI cL cZ cR cG cH L) (fun q => q ∈ L)) [.ref o0].toArray s 0 0 (fun q => q ∈ L)) (F0 m 178 ls []) := by
          intro y_35 by_35 f_37 hG H locs hP hS hD hfr0 hfr2_4 hrr2_0 hrr2_3 hrr207_0 hrr207_3 hrr207_11 hT0 ls hl
          refine lv_iload_n hx hb dX2_readStatement_178 rfl (lv_at hl 0 rfl) ?_
          refine lv_if_eq (tgt := 195) hx hb dX2_readStatement_179 (by decide) (fun c_39 => ?_) (fun c_39 => ?_)
          · skip
            rw [← Int32.toInt_inj, ti_0] at c_39
            refine lv_iconst (v := 0) hx hb dX2_readStatement_195 (by decide) ?_
            obtain ⟨a_41, v_42, v_43, a_44, v_45, v_46, v_47, v_48, v_49, v_50, hfo_40, ⟨ma_41, ka_41⟩, ⟨ma_44, ka_44⟩, bv_45, bv_46, bv_47, bv_48, bv_49⟩ := un_2 (hG _ mo0) ko0
            have bv_42 : ((-2147483648) ≤ v_42.toInt ∧ v_42.toInt ≤ 2147483647) := ⟨i32_lo _, i32_hi _⟩
            have bv_43 : ((-2147483648) ≤ v_43.toInt ∧ v_43.toInt ≤ 2147483647) := ⟨i32_lo _, i32_hi _⟩
            have bv_50 : ((-2147483648) ≤ v_50.toInt ∧ v_50.toInt ≤ 2147483647) := ⟨i32_lo _, i32_hi _⟩
            obtain rfl : a_2 = a_41 := by have hk9 := hrr2_0 o0 ko0; rw [hfo_40, hfo_1] at hk9; exact (Option.some.inj hk9).symm
            obtain rfl : a_5 = a_44 := by have hk9 := hrr2_3 o0 ko0; rw [hfo_40, hfo_1] at hk9; exact (Option.some.inj hk9).symm
            exact W.zret (v := 0) (ty := .boolean) hx hb hr rfl (fun t ht hW => ⟨⟨0, f_37, rfl, ⟨hG, (by decide), hfr0, hfr2_4, hrr2_0, hrr2_3, hrr207_0, hrr207_3, hrr207_11, (fun d9 h9 => by rw [hfo_40] at h9; obtain rfl := Option.some.inj h9; exact hT0)⟩, by rw [ht]; exact hP, va_K.moved hW.alike hK, pl_in hD⟩, hS.F ht⟩) hS.2.2 dX2_readStatement_196
          · skip
            rw [← Int32.toInt_inj, ti_0] at c_39
            refine lv_aload_n hx hb dX2_readStatement_182 rfl (lv_at hl 2 rfl) ?_
            refine lv_bipush (v := 59) hx hb dX2_readStatement_183 (by decide) ?_
            obtain ⟨a_52, v_53, v_54, a_55, v_56, v_57, v_58, v_59, v_60, v_61, hfo_51, ⟨ma_52, ka_52⟩, ⟨ma_55, ka_55⟩, bv_56, bv_57, bv_58, bv_59, bv_60⟩ := un_2 (hG _ mo0) ko0
            have bv_53 : ((-2147483648) ≤ v_53.toInt ∧ v_53.toInt ≤ 2147483647) := ⟨i32_lo _, i32_hi _⟩
            have bv_54 : ((-2147483648) ≤ v_54.toInt ∧ v_54.toInt ≤ 2147483647) := ⟨i32_lo _, i32_hi _⟩
            have bv_61 : ((-2147483648) ≤ v_61.toInt ∧ v_61.toInt ≤ 2147483647) := ⟨i32_lo _, i32_hi _⟩
            obtain rfl : a_2 = a_52 := by have hk9 := hrr2_0 o0 ko0; rw [hfo_51, hfo_1] at hk9; exact (Option.some.inj hk9).symm
            obtain rfl : a_5 = a_55 := by have hk9 := hrr2_3 o0 ko0; rw [hfo_51, hfo_1] at hk9; exact (Option.some.inj hk9).symm
            refine tk_ViP (As := [.int 59]) (rest := []) (n := 1) hx hb hml hown hU hN hZ (s_X2_expect_k2 l (dC, dI) cI cL cZ cR cG cH Z kd L f_37 hG o0 mo0 ko0 59 (by decide)) wd_380 wd_381 wd_382 wd_33 wd_383 (by decide +kernel) ⟨Nat.le_of_ble_eq_true rfl, Nat.le_of_ble_eq_true rfl⟩ hK hP hD hS mo0 hfo_51 2 rfl rfl rfl hl.1 rfl (Nat.le_of_ble_eq_true rfl) dX2_readStatement_185 ⟨Nat.le_of_ble_eq_true rfl, Nat.le_of_ble_eq_true rfl⟩ (fun x_62 f_63 H locs hw hP hD hS => ?_)
            obtain ⟨hG, bx_62, hkc_64, hfc_65, hfc_66, hfc_67, hrc_68, hrc_69, hpost_70⟩ := hw
            have hfr0 : ∀ b, kd b ≠ 2 → kd b ≠ 204 → kd b ≠ 205 → kd b ≠ 207 → kd b ≠ 209 → kd b ≠ 213 → kd b ≠ 558 → kd b ≠ 559 → kd b ≠ 562 → kd b ≠ 563 → kd b ≠ 564 → kd b ≠ 565 → kd b ≠ 566 → kd b ≠ 567 → kd b ≠ 568 → kd b ≠ 569 → kd b ≠ 570 → kd b ≠ 571 → kd b ≠ 572 → f_63 b = f b := fun b q2 q204 q205 q207 q209 q213 q558 q559 q562 q563 q564 q565 q566 q567 q568 q569 q570 q571 q572 => (hkc_64 b q2).trans (hfr0 b q2 q204 q205 q207 q209 q213 q558 q559 q562 q563 q564 q565 q566 q567 q568 q569 q570 q571 q572)
            have hfr2_4 : ∀ b, kd b = 2 → fldI (f_63 b) 4 = fldI (f b) 4 := fun b kb => (hfc_65 b kb).trans (hfr2_4 b kb)
            have hrr2_0 : ∀ b, kd b = 2 → fldR (f_63 b) 0 = fldR (f b) 0 := fun b kb => (hrc_68 b kb).trans (hrr2_0 b kb)
            have hrr2_3 : ∀ b, kd b = 2 → fldR (f_63 b) 3 = fldR (f b) 3 := fun b kb => (hrc_69 b kb).trans (hrr2_3 b kb)
            have hrr207_0 : ∀ b, kd b = 207 → fldR (f_63 b) 0 = fldR (f b) 0 := fun b kb => (congrArg (fun x => fldR x 0) (hkc_64 b (by rw [kb]; decide))).trans (hrr207_0 b kb)
            have hrr207_3 : ∀ b, kd b = 207 → fldR (f_63 b) 3 = fldR (f b) 3 := fun b kb => (congrArg (fun x => fldR x 3) (hkc_64 b (by rw [kb]; decide))).trans (hrr207_3 b kb)
            have hrr207_11 : ∀ b, kd b = 207 → fldR (f_63 b) 11 = fldR (f b) 11 := fun b kb => (congrArg (fun x => fldR x 11) (hkc_64 b (by rw [kb]; decide))).trans (hrr207_11 b kb)
            have hT0 : trel kd 207 566 568 573 204 f_63 a_2 := hT0.keep (fun b q => hkc_64 b (by rw [q]; decide)) (fun b q => hkc_64 b (by rw [q]; decide)) (fun b q => hkc_64 b (by rw [q]; decide)) (fun b q => hkc_64 b (by rw [q]; decide)) (fun b q => congrArg (fun x => fldI x 1) (hkc_64 b (by rw [q]; decide)))
            obtain ⟨a_73, v_74, v_75, a_76, v_77, v_78, v_79, v_80, v_81, v_82, hfo_72, ⟨ma_73, ka_73⟩, ⟨ma_76, ka_76⟩, bv_77, bv_78, bv_79, bv_80, bv_81⟩ := un_2 (hG _ mo0) ko0
            have bv_74 : ((-2147483648) ≤ v_74.toInt ∧ v_74.toInt ≤ 2147483647) := ⟨i32_lo _, i32_hi _⟩
            have bv_75 : ((-2147483648) ≤ v_75.toInt ∧ v_75.toInt ≤ 2147483647) := ⟨i32_lo _, i32_hi _⟩
            have bv_82 : ((-2147483648) ≤ v_82.toInt ∧ v_82.toInt ≤ 2147483647) := ⟨i32_lo _, i32_hi _⟩
            obtain rfl : a_2 = a_73 := by have hk9 := hrr2_0 o0 ko0; rw [hfo_72, hfo_1] at hk9; exact (Option.some.inj hk9).symm
            obtain rfl : a_5 = a_76 := by have hk9 := hrr2_3 o0 ko0; rw [hfo_72, hfo_1] at hk9; exact (Option.some.inj hk9).symm
            obtain rfl : v_56 = v_77 := by have hk9 := hfc_65 o0 ko0; rw [hfo_72, hfo_51] at hk9; exact (Option.some.inj hk9).symm
            obtain rfl : v_59 = v_80 := by have hk9 := hfc_66 o0 ko0; rw [hfo_72, hfo_51] at hk9; exact (Option.some.inj hk9).symm
            obtain rfl : v_60 = v_81 := by have hk9 := hfc_67 o0 ko0; rw [hfo_72, hfo_51] at hk9; exact (Option.some.inj hk9).symm
            have hqhpost_70 := hpost_70 v_57 v_78 (by rw [hfo_51]; rfl) (by rw [hfo_72]; rfl)
            try rw [ti_59] at hqhpost_70
            refine lv_if_eq (tgt := 195) hx hb dX2_readStatement_188 (by decide) (fun c_83 => ?_) (fun c_83 => ?_)
            · skip
              rw [← Int32.toInt_inj, ti_0] at c_83
              refine lv_iconst (v := 0) hx hb dX2_readStatement_195 (by decide) ?_
              exact W.zret (v := 0) (ty := .boolean) hx hb hr rfl (fun t ht hW => ⟨⟨0, f_63, rfl, ⟨hG, (by decide), hfr0, hfr2_4, hrr2_0, hrr2_3, hrr207_0, hrr207_3, hrr207_11, (fun d9 h9 => by rw [hfo_72] at h9; obtain rfl := Option.some.inj h9; exact hT0)⟩, by rw [ht]; exact hP, va_K.moved hW.alike hK, pl_in hD⟩, hS.F ht⟩) hS.2.2 dX2_readStatement_196
            · skip
              rw [← Int32.toInt_inj, ti_0] at c_83
              refine lv_iconst (v := 1) hx hb dX2_readStatement_191 (by decide) ?_
              refine lv_goto (tgt := 196) hx hb dX2_readStatement_192 (by decide) ?_
              exact W.zret (v := 1) (ty := .boolean) hx hb hr rfl (fun t ht hW => ⟨⟨1, f_63, rfl, ⟨hG, (by decide), hfr0, hfr2_4, hrr2_0, hrr2_3, hrr207_0, hrr207_3, hrr207_11, (fun d9 h9 => by rw [hfo_72] at h9; obtain rfl := Option.some.inj h9; exact hT0)⟩, by rw [ht]; exact hP, va_K.moved hW.alike hK, pl_in hD⟩, hS.F ht⟩) hS.2.2 dX2_readStatement_196
        refine lv_if_eq (tgt := 62) hx hb dX2_readStatement_51 (by decide) (fun c_84 => ?_) (fun c_84 => ?_)
        · skip
          rw [← Int32.toInt_inj, ti_0] at c_84
          refine lv_aload_n hx hb dX2_readStatement_62 rfl (lv_at hl 1 rfl) ?_
          refine va_ldcS hx hb hown hZ.2.2.2.2.2.2.1 dX2_readStatement_63 ?_
          refine lv_iload_n hx hb dX2_readStatement_65 rfl (lv_at hl 0 rfl) ?_
          refine tk_ViP (As := [.ref (Z.1 1), .int v_7]) (rest := []) (n := 2) hx hb hml hown hU hN hZ (s_X2_isKeyword_k2 l (dC, dI) cI cL cZ cR cG cH Z kd L f_18 hG o0 mo0 ko0 1 (by decide) v_7 (by constructor <;> omega)) wd_287 wd_288 wd_289 wd_33 wd_290 (by decide +kernel) ⟨Nat.le_of_ble_eq_true rfl, Nat.le_of_ble_eq_true rfl⟩ hK hP hD hS mo0 hfo_19 2 rfl rfl rfl hl.1 rfl (Nat.le_of_ble_eq_true rfl) dX2_readStatement_66 ⟨Nat.le_of_ble_eq_true rfl, Nat.le_of_ble_eq_true rfl⟩ (fun x_85 f_86 H locs hw hP hD hS => ?_)
          obtain ⟨rfl, bx_85⟩ := hw
          refine lv_if_eq (tgt := 80) hx hb dX2_readStatement_69 (by decide) (fun c_88 => ?_) (fun c_88 => ?_)
          · skip
            rw [← Int32.toInt_inj, ti_0] at c_88
            refine lv_aload_n hx hb dX2_readStatement_80 rfl (lv_at hl 1 rfl) ?_
            refine va_ldcS hx hb hown hZ.2.2.2.2.2.2.2.1 dX2_readStatement_81 ?_
            refine lv_iload_n hx hb dX2_readStatement_83 rfl (lv_at hl 0 rfl) ?_
            refine tk_ViP (As := [.ref (Z.1 2), .int v_7]) (rest := []) (n := 2) hx hb hml hown hU hN hZ (s_X2_isKeyword_k2 l (dC, dI) cI cL cZ cR cG cH Z kd L f_18 hG o0 mo0 ko0 2 (by decide) v_7 (by constructor <;> omega)) wd_287 wd_288 wd_289 wd_33 wd_290 (by decide +kernel) ⟨Nat.le_of_ble_eq_true rfl, Nat.le_of_ble_eq_true rfl⟩ hK hP hD hS mo0 hfo_19 2 rfl rfl rfl hl.1 rfl (Nat.le_of_ble_eq_true rfl) dX2_readStatement_84 ⟨Nat.le_of_ble_eq_true rfl, Nat.le_of_ble_eq_true rfl⟩ (fun x_89 f_90 H locs hw hP hD hS => ?_)
            obtain ⟨rfl, bx_89⟩ := hw
            refine lv_if_eq (tgt := 98) hx hb dX2_readStatement_87 (by decide) (fun c_92 => ?_) (fun c_92 => ?_)
            · skip
              rw [← Int32.toInt_inj, ti_0] at c_92
              refine lv_aload_n hx hb dX2_readStatement_98 rfl (lv_at hl 1 rfl) ?_
              refine va_ldcS hx hb hown hZ.2.2.2.2.2.2.2.2.1 dX2_readStatement_99 ?_
              refine lv_iload_n hx hb dX2_readStatement_101 rfl (lv_at hl 0 rfl) ?_
              refine tk_ViP (As := [.ref (Z.1 3), .int v_7]) (rest := []) (n := 2) hx hb hml hown hU hN hZ (s_X2_isKeyword_k2 l (dC, dI) cI cL cZ cR cG cH Z kd L f_18 hG o0 mo0 ko0 3 (by decide) v_7 (by constructor <;> omega)) wd_287 wd_288 wd_289 wd_33 wd_290 (by decide +kernel) ⟨Nat.le_of_ble_eq_true rfl, Nat.le_of_ble_eq_true rfl⟩ hK hP hD hS mo0 hfo_19 2 rfl rfl rfl hl.1 rfl (Nat.le_of_ble_eq_true rfl) dX2_readStatement_102 ⟨Nat.le_of_ble_eq_true rfl, Nat.le_of_ble_eq_true rfl⟩ (fun x_93 f_94 H locs hw hP hD hS => ?_)
              obtain ⟨rfl, bx_93⟩ := hw
              refine lv_if_eq (tgt := 117) hx hb dX2_readStatement_105 (by decide) (fun c_96 => ?_) (fun c_96 => ?_)
              · skip
                rw [← Int32.toInt_inj, ti_0] at c_96
                refine lv_aload_n hx hb dX2_readStatement_117 rfl (lv_at hl 1 rfl) ?_
                refine va_ldcS hx hb hown hZ.2.2.2.2.2.2.2.2.2.1 dX2_readStatement_118 ?_
                refine lv_iload_n hx hb dX2_readStatement_120 rfl (lv_at hl 0 rfl) ?_
                refine tk_ViP (As := [.ref (Z.1 4), .int v_7]) (rest := []) (n := 2) hx hb hml hown hU hN hZ (s_X2_isKeyword_k2 l (dC, dI) cI cL cZ cR cG cH Z kd L f_18 hG o0 mo0 ko0 4 (by decide) v_7 (by constructor <;> omega)) wd_287 wd_288 wd_289 wd_33 wd_290 (by decide +kernel) ⟨Nat.le_of_ble_eq_true rfl, Nat.le_of_ble_eq_true rfl⟩ hK hP hD hS mo0 hfo_19 2 rfl rfl rfl hl.1 rfl (Nat.le_of_ble_eq_true rfl) dX2_readStatement_121 ⟨Nat.le_of_ble_eq_true rfl, Nat.le_of_ble_eq_true rfl⟩ (fun x_97 f_98 H locs hw hP hD hS => ?_)
                obtain ⟨rfl, bx_97⟩ := hw
                refine lv_if_eq (tgt := 144) hx hb dX2_readStatement_124 (by decide) (fun c_100 => ?_) (fun c_100 => ?_)
                · skip
                  rw [← Int32.toInt_inj, ti_0] at c_100
                  refine lv_aload_n hx hb dX2_readStatement_144 rfl (lv_at hl 1 rfl) ?_
                  refine va_ldcS hx hb hown hZ.2.2.2.2.2.2.2.2.2.2.1 dX2_readStatement_145 ?_
                  refine lv_iload_n hx hb dX2_readStatement_147 rfl (lv_at hl 0 rfl) ?_
                  refine tk_ViP (As := [.ref (Z.1 5), .int v_7]) (rest := []) (n := 2) hx hb hml hown hU hN hZ (s_X2_isKeyword_k2 l (dC, dI) cI cL cZ cR cG cH Z kd L f_18 hG o0 mo0 ko0 5 (by decide) v_7 (by constructor <;> omega)) wd_287 wd_288 wd_289 wd_33 wd_290 (by decide +kernel) ⟨Nat.le_of_ble_eq_true rfl, Nat.le_of_ble_eq_true rfl⟩ hK hP hD hS mo0 hfo_19 2 rfl rfl rfl hl.1 rfl (Nat.le_of_ble_eq_true rfl) dX2_readStatement_148 ⟨Nat.le_of_ble_eq_true rfl, Nat.le_of_ble_eq_true rfl⟩ (fun x_101 f_102 H locs hw hP hD hS => ?_)
                  obtain ⟨rfl, bx_101⟩ := hw
                  refine lv_if_eq (tgt := 171) hx hb dX2_readStatement_151 (by decide) (fun c_104 => ?_) (fun c_104 => ?_)
                  · skip
                    rw [← Int32.toInt_inj, ti_0] at c_104
                    refine lv_aload_n hx hb dX2_readStatement_171 rfl (lv_at hl 1 rfl) ?_
                    refine lv_iconst (v := 1) hx hb dX2_readStatement_172 (by decide) ?_
                    refine lv_iload_n hx hb dX2_readStatement_173 rfl (lv_at hl 0 rfl) ?_
                    refine tk_ViP (As := [.int 1, .int v_7]) (rest := []) (n := 2) hx hb hml hown hU hN hZ (s_X2_fail_k2 l (dC, dI) cI cL cZ cR cG cH Z kd L f_18 hG o0 mo0 ko0 1 v_7) wd_349 wd_350 wd_351 wd_33 wd_352 (by decide +kernel) ⟨Nat.le_of_ble_eq_true rfl, Nat.le_of_ble_eq_true rfl⟩ hK hP hD hS mo0 hfo_19 2 rfl rfl rfl hl.1 rfl (Nat.le_of_ble_eq_true rfl) dX2_readStatement_174 ⟨Nat.le_of_ble_eq_true rfl, Nat.le_of_ble_eq_true rfl⟩ (fun x_105 f_106 H locs hw hP hD hS => ?_)
                    obtain ⟨hG, bx_105, hkc_107, hfc_108, hfc_109, hfc_110, hfc_111, hrc_112, hrc_113⟩ := hw
                    have hfr0 : ∀ b, kd b ≠ 2 → kd b ≠ 204 → kd b ≠ 205 → kd b ≠ 207 → kd b ≠ 209 → kd b ≠ 213 → kd b ≠ 558 → kd b ≠ 559 → kd b ≠ 562 → kd b ≠ 563 → kd b ≠ 564 → kd b ≠ 565 → kd b ≠ 566 → kd b ≠ 567 → kd b ≠ 568 → kd b ≠ 569 → kd b ≠ 570 → kd b ≠ 571 → kd b ≠ 572 → f_106 b = f b := fun b q2 q204 q205 q207 q209 q213 q558 q559 q562 q563 q564 q565 q566 q567 q568 q569 q570 q571 q572 => (hkc_107 b q2).trans (hfr0 b q2 q204 q205 q207 q209 q213 q558 q559 q562 q563 q564 q565 q566 q567 q568 q569 q570 q571 q572)
                    have hfr2_4 : ∀ b, kd b = 2 → fldI (f_106 b) 4 = fldI (f b) 4 := fun b kb => (hfc_108 b kb).trans (hfr2_4 b kb)
                    have hrr2_0 : ∀ b, kd b = 2 → fldR (f_106 b) 0 = fldR (f b) 0 := fun b kb => (hrc_112 b kb).trans (hrr2_0 b kb)
                    have hrr2_3 : ∀ b, kd b = 2 → fldR (f_106 b) 3 = fldR (f b) 3 := fun b kb => (hrc_113 b kb).trans (hrr2_3 b kb)
                    have hrr207_0 : ∀ b, kd b = 207 → fldR (f_106 b) 0 = fldR (f b) 0 := fun b kb => (congrArg (fun x => fldR x 0) (hkc_107 b (by rw [kb]; decide))).trans (hrr207_0 b kb)
                    have hrr207_3 : ∀ b, kd b = 207 → fldR (f_106 b) 3 = fldR (f b) 3 := fun b kb => (congrArg (fun x => fldR x 3) (hkc_107 b (by rw [kb]; decide))).trans (hrr207_3 b kb)
                    have hrr207_11 : ∀ b, kd b = 207 → fldR (f_106 b) 11 = fldR (f b) 11 := fun b kb => (congrArg (fun x => fldR x 11) (hkc_107 b (by rw [kb]; decide))).trans (hrr207_11 b kb)
                    have hT0 : trel kd 207 566 568 573 204 f_106 a_2 := hT0.keep (fun b q => hkc_107 b (by rw [q]; decide)) (fun b q => hkc_107 b (by rw [q]; decide)) (fun b q => hkc_107 b (by rw [q]; decide)) (fun b q => hkc_107 b (by rw [q]; decide)) (fun b q => congrArg (fun x => fldI x 1) (hkc_107 b (by rw [q]; decide)))
                    obtain ⟨a_116, v_117, v_118, a_119, v_120, v_121, v_122, v_123, v_124, v_125, hfo_115, ⟨ma_116, ka_116⟩, ⟨ma_119, ka_119⟩, bv_120, bv_121, bv_122, bv_123, bv_124⟩ := un_2 (hG _ mo0) ko0
                    have bv_117 : ((-2147483648) ≤ v_117.toInt ∧ v_117.toInt ≤ 2147483647) := ⟨i32_lo _, i32_hi _⟩
                    have bv_118 : ((-2147483648) ≤ v_118.toInt ∧ v_118.toInt ≤ 2147483647) := ⟨i32_lo _, i32_hi _⟩
                    have bv_125 : ((-2147483648) ≤ v_125.toInt ∧ v_125.toInt ≤ 2147483647) := ⟨i32_lo _, i32_hi _⟩
                    obtain rfl : a_2 = a_116 := by have hk9 := hrr2_0 o0 ko0; rw [hfo_115, hfo_1] at hk9; exact (Option.some.inj hk9).symm
                    obtain rfl : a_5 = a_119 := by have hk9 := hrr2_3 o0 ko0; rw [hfo_115, hfo_1] at hk9; exact (Option.some.inj hk9).symm
                    obtain rfl : v_24 = v_120 := by have hk9 := hfc_108 o0 ko0; rw [hfo_115, hfo_19] at hk9; exact (Option.some.inj hk9).symm
                    obtain rfl : v_25 = v_121 := by have hk9 := hfc_109 o0 ko0; rw [hfo_115, hfo_19] at hk9; exact (Option.some.inj hk9).symm
                    obtain rfl : v_27 = v_123 := by have hk9 := hfc_110 o0 ko0; rw [hfo_115, hfo_19] at hk9; exact (Option.some.inj hk9).symm
                    obtain rfl : v_28 = v_124 := by have hk9 := hfc_111 o0 ko0; rw [hfo_115, hfo_19] at hk9; exact (Option.some.inj hk9).symm
                    refine lv_istore_n (lv' := [(2, .int x_105), (1, .int v_7), (0, .ref o0)]) hx hb dX2_readStatement_177 rfl hl (by decide) rfl (fun ls hl => ?_)
                    exact hcut_38 x_105 (by constructor <;> omega) f_106 hG _ _ hP hS hD hfr0 hfr2_4 hrr2_0 hrr2_3 hrr207_0 hrr207_3 hrr207_11 hT0 ls (lv_sub hl [0, 1, 2] rfl)
                  · skip
                    rw [← Int32.toInt_inj, ti_0] at c_104
                    refine lv_aload_n hx hb dX2_readStatement_154 rfl (lv_at hl 1 rfl) ?_
                    refine lv_aload_n hx hb dX2_readStatement_155 rfl (lv_at hl 1 rfl) ?_
                    refine tk_getP (D := (dC, dI)) (ci := 2) (v := .ref a_2) (C := RX2) (T := TX2) (N := 10) hx hb hU inlX2 hown hK hP mo0 hfo_19 rfl 0 (by decide) (hU _ wd_150) (fun _ h9 => h9) rfl dX2_readStatement_156 ?_
                    obtain ⟨a_127, v_128, a_129, a_130, a_131, a_132, v_133, a_134, a_135, a_136, a_137, a_138, v_139, a_140, a_141, a_142, hfo_126, ⟨ma_127, ka_127⟩, bv_128, ⟨ma_129, ka_129⟩, ⟨ma_130, ka_130⟩, ⟨ma_131, ka_131⟩, ⟨ma_132, ka_132⟩, bv_133, ⟨ma_134, ka_134⟩, ⟨ma_135, ka_135⟩, ⟨ma_136, ka_136⟩, ⟨ma_137, ka_137⟩, ⟨ma_138, ka_138⟩, bv_139, ⟨ma_140, ka_140⟩, ⟨ma_141, ka_141⟩, ⟨ma_142, ka_142⟩⟩ := un_207 (hG _ ma_2) ka_2
                    refine tk_getP (D := (dC, dI)) (ci := 7) (v := .ref a_141) (C := RX7) (T := TX7) (N := 16) hx hb hU inlX7 hown hK hP ma_2 hfo_126 rfl 14 (by decide) (hU _ wd_283) (fun _ h9 => h9) rfl dX2_readStatement_159 ?_
                    refine lv_iload_n hx hb dX2_readStatement_162 rfl (lv_at hl 0 rfl) ?_
                    refine lv_iconst (v := 0) hx hb dX2_readStatement_163 (by decide) ?_
                    refine tk_ViP (As := [.ref a_141, .int v_7, .int 0]) (rest := []) (n := 3) hx hb hml hown hU hN hZ (s_X2_readPart_k2_k213 l (dC, dI) cI cL cZ cR cG cH Z kd L f_18 hG o0 mo0 ko0 a_141 ma_141 ka_141 v_7 0) wd_467 wd_468 wd_469 wd_33 wd_470 (by decide +kernel) ⟨Nat.le_of_ble_eq_true rfl, Nat.le_of_ble_eq_true rfl⟩ hK hP hD hS mo0 hfo_19 2 rfl rfl rfl hl.1 rfl (Nat.le_of_ble_eq_true rfl) dX2_readStatement_164 ⟨Nat.le_of_ble_eq_true rfl, Nat.le_of_ble_eq_true rfl⟩ (fun x_143 f_144 H locs hw hP hD hS => ?_)
                    obtain ⟨hG, bx_143, hkc_145, hfc_146, hfc_147, hfc_148, hrc_149, hrc_150, hpost_151⟩ := hw
                    have hfo_153 : f_144 a_2 = .inr (7, [.ref a_127, .int v_128, .ref a_129, .ref a_130, .ref a_131, .ref a_132, .int v_133, .ref a_134, .ref a_135, .ref a_136, .ref a_137, .ref a_138, .int v_139, .ref a_140, .ref a_141, .ref a_142]) := by rw [hkc_145 a_2 (by rw [ka_2]; decide) (by rw [ka_2]; decide) (by rw [ka_2]; decide) (by rw [ka_2]; decide)]; exact hfo_126
                    have hfr0 : ∀ b, kd b ≠ 2 → kd b ≠ 204 → kd b ≠ 205 → kd b ≠ 207 → kd b ≠ 209 → kd b ≠ 213 → kd b ≠ 558 → kd b ≠ 559 → kd b ≠ 562 → kd b ≠ 563 → kd b ≠ 564 → kd b ≠ 565 → kd b ≠ 566 → kd b ≠ 567 → kd b ≠ 568 → kd b ≠ 569 → kd b ≠ 570 → kd b ≠ 571 → kd b ≠ 572 → f_144 b = f b := fun b q2 q204 q205 q207 q209 q213 q558 q559 q562 q563 q564 q565 q566 q567 q568 q569 q570 q571 q572 => (hkc_145 b q2 q213 q564 q565).trans (hfr0 b q2 q204 q205 q207 q209 q213 q558 q559 q562 q563 q564 q565 q566 q567 q568 q569 q570 q571 q572)
                    have hfr2_4 : ∀ b, kd b = 2 → fldI (f_144 b) 4 = fldI (f b) 4 := fun b kb => (hfc_146 b kb).trans (hfr2_4 b kb)
                    have hrr2_0 : ∀ b, kd b = 2 → fldR (f_144 b) 0 = fldR (f b) 0 := fun b kb => (hrc_149 b kb).trans (hrr2_0 b kb)
                    have hrr2_3 : ∀ b, kd b = 2 → fldR (f_144 b) 3 = fldR (f b) 3 := fun b kb => (hrc_150 b kb).trans (hrr2_3 b kb)
                    have hrr207_0 : ∀ b, kd b = 207 → fldR (f_144 b) 0 = fldR (f b) 0 := fun b kb => (congrArg (fun x => fldR x 0) (hkc_145 b (by rw [kb]; decide) (by rw [kb]; decide) (by rw [kb]; decide) (by rw [kb]; decide))).trans (hrr207_0 b kb)
                    have hrr207_3 : ∀ b, kd b = 207 → fldR (f_144 b) 3 = fldR (f b) 3 := fun b kb => (congrArg (fun x => fldR x 3) (hkc_145 b (by rw [kb]; decide) (by rw [kb]; decide) (by rw [kb]; decide) (by rw [kb]; decide))).trans (hrr207_3 b kb)
                    have hrr207_11 : ∀ b, kd b = 207 → fldR (f_144 b) 11 = fldR (f b) 11 := fun b kb => (congrArg (fun x => fldR x 11) (hkc_145 b (by rw [kb]; decide) (by rw [kb]; decide) (by rw [kb]; decide) (by rw [kb]; decide))).trans (hrr207_11 b kb)
                    have hT0 : trel kd 207 566 568 573 204 f_144 a_2 := hT0.keep (fun b q => hkc_145 b (by rw [q]; decide) (by rw [q]; decide) (by rw [q]; decide) (by rw [q]; decide)) (fun b q => hkc_145 b (by rw [q]; decide) (by rw [q]; decide) (by rw [q]; decide) (by rw [q]; decide)) (fun b q => hkc_145 b (by rw [q]; decide) (by rw [q]; decide) (by rw [q]; decide) (by rw [q]; decide)) (fun b q => hkc_145 b (by rw [q]; decide) (by rw [q]; decide) (by rw [q]; decide) (by rw [q]; decide)) (fun b q => congrArg (fun x => fldI x 1) (hkc_145 b (by rw [q]; decide) (by rw [q]; decide) (by rw [q]; decide) (by rw [q]; decide)))
                    obtain ⟨a_155, v_156, v_157, a_158, v_159, v_160, v_161, v_162, v_163, v_164, hfo_154, ⟨ma_155, ka_155⟩, ⟨ma_158, ka_158⟩, bv_159, bv_160, bv_161, bv_162, bv_163⟩ := un_2 (hG _ mo0) ko0
                    have bv_156 : ((-2147483648) ≤ v_156.toInt ∧ v_156.toInt ≤ 2147483647) := ⟨i32_lo _, i32_hi _⟩
                    have bv_157 : ((-2147483648) ≤ v_157.toInt ∧ v_157.toInt ≤ 2147483647) := ⟨i32_lo _, i32_hi _⟩
                    have bv_164 : ((-2147483648) ≤ v_164.toInt ∧ v_164.toInt ≤ 2147483647) := ⟨i32_lo _, i32_hi _⟩
                    obtain rfl : a_2 = a_155 := by have hk9 := hrr2_0 o0 ko0; rw [hfo_154, hfo_1] at hk9; exact (Option.some.inj hk9).symm
                    obtain rfl : a_5 = a_158 := by have hk9 := hrr2_3 o0 ko0; rw [hfo_154, hfo_1] at hk9; exact (Option.some.inj hk9).symm
                    obtain rfl : v_24 = v_159 := by have hk9 := hfc_146 o0 ko0; rw [hfo_154, hfo_19] at hk9; exact (Option.some.inj hk9).symm
                    obtain rfl : v_27 = v_162 := by have hk9 := hfc_147 o0 ko0; rw [hfo_154, hfo_19] at hk9; exact (Option.some.inj hk9).symm
                    obtain rfl : v_28 = v_163 := by have hk9 := hfc_148 o0 ko0; rw [hfo_154, hfo_19] at hk9; exact (Option.some.inj hk9).symm
                    have hqhpost_151 := hpost_151 v_25 v_160 (by rw [hfo_19]; rfl) (by rw [hfo_154]; rfl)
                    try rw [ti_0] at hqhpost_151
                    refine lv_istore_n (lv' := [(2, .int x_143), (1, .int v_7), (0, .ref o0)]) hx hb dX2_readStatement_167 rfl hl (by decide) rfl (fun ls hl => ?_)
                    refine lv_goto (tgt := 178) hx hb dX2_readStatement_168 (by decide) ?_
                    exact hcut_38 x_143 (by constructor <;> omega) f_144 hG _ _ hP hS hD hfr0 hfr2_4 hrr2_0 hrr2_3 hrr207_0 hrr207_3 hrr207_11 hT0 ls (lv_sub hl [0, 1, 2] rfl)
                · skip
                  rw [← Int32.toInt_inj, ti_0] at c_100
                  refine lv_aload_n hx hb dX2_readStatement_127 rfl (lv_at hl 1 rfl) ?_
                  refine lv_aload_n hx hb dX2_readStatement_128 rfl (lv_at hl 1 rfl) ?_
                  refine tk_getP (D := (dC, dI)) (ci := 2) (v := .ref a_2) (C := RX2) (T := TX2) (N := 10) hx hb hU inlX2 hown hK hP mo0 hfo_19 rfl 0 (by decide) (hU _ wd_150) (fun _ h9 => h9) rfl dX2_readStatement_129 ?_
                  obtain ⟨a_166, v_167, a_168, a_169, a_170, a_171, v_172, a_173, a_174, a_175, a_176, a_177, v_178, a_179, a_180, a_181, hfo_165, ⟨ma_166, ka_166⟩, bv_167, ⟨ma_168, ka_168⟩, ⟨ma_169, ka_169⟩, ⟨ma_170, ka_170⟩, ⟨ma_171, ka_171⟩, bv_172, ⟨ma_173, ka_173⟩, ⟨ma_174, ka_174⟩, ⟨ma_175, ka_175⟩, ⟨ma_176, ka_176⟩, ⟨ma_177, ka_177⟩, bv_178, ⟨ma_179, ka_179⟩, ⟨ma_180, ka_180⟩, ⟨ma_181, ka_181⟩⟩ := un_207 (hG _ ma_2) ka_2
                  refine tk_getP (D := (dC, dI)) (ci := 7) (v := .ref a_179) (C := RX7) (T := TX7) (N := 16) hx hb hU inlX7 hown hK hP ma_2 hfo_165 rfl 13 (by decide) (hU _ wd_282) (fun _ h9 => h9) rfl dX2_readStatement_132 ?_
                  refine lv_iload_n hx hb dX2_readStatement_135 rfl (lv_at hl 0 rfl) ?_
                  refine lv_iconst (v := 1) hx hb dX2_readStatement_136 (by decide) ?_
                  refine tk_ViP (As := [.ref a_179, .int v_7, .int 1]) (rest := []) (n := 3) hx hb hml hown hU hN hZ (s_X2_readPart_k2_k209 l (dC, dI) cI cL cZ cR cG cH Z kd L f_18 hG o0 mo0 ko0 a_179 ma_179 ka_179 v_7 1) wd_467 wd_468 wd_469 wd_33 wd_470 (by decide +kernel) ⟨Nat.le_of_ble_eq_true rfl, Nat.le_of_ble_eq_true rfl⟩ hK hP hD hS mo0 hfo_19 2 rfl rfl rfl hl.1 rfl (Nat.le_of_ble_eq_true rfl) dX2_readStatement_137 ⟨Nat.le_of_ble_eq_true rfl, Nat.le_of_ble_eq_true rfl⟩ (fun x_182 f_183 H locs hw hP hD hS => ?_)
                  obtain ⟨hG, bx_182, hkc_184, hfc_185, hfc_186, hfc_187, hrc_188, hrc_189, hpost_190⟩ := hw
                  have hfo_192 : f_183 a_2 = .inr (7, [.ref a_166, .int v_167, .ref a_168, .ref a_169, .ref a_170, .ref a_171, .int v_172, .ref a_173, .ref a_174, .ref a_175, .ref a_176, .ref a_177, .int v_178, .ref a_179, .ref a_180, .ref a_181]) := by rw [hkc_184 a_2 (by rw [ka_2]; decide) (by rw [ka_2]; decide) (by rw [ka_2]; decide) (by rw [ka_2]; decide)]; exact hfo_165
                  have hfr0 : ∀ b, kd b ≠ 2 → kd b ≠ 204 → kd b ≠ 205 → kd b ≠ 207 → kd b ≠ 209 → kd b ≠ 213 → kd b ≠ 558 → kd b ≠ 559 → kd b ≠ 562 → kd b ≠ 563 → kd b ≠ 564 → kd b ≠ 565 → kd b ≠ 566 → kd b ≠ 567 → kd b ≠ 568 → kd b ≠ 569 → kd b ≠ 570 → kd b ≠ 571 → kd b ≠ 572 → f_183 b = f b := fun b q2 q204 q205 q207 q209 q213 q558 q559 q562 q563 q564 q565 q566 q567 q568 q569 q570 q571 q572 => (hkc_184 b q2 q209 q562 q563).trans (hfr0 b q2 q204 q205 q207 q209 q213 q558 q559 q562 q563 q564 q565 q566 q567 q568 q569 q570 q571 q572)
                  have hfr2_4 : ∀ b, kd b = 2 → fldI (f_183 b) 4 = fldI (f b) 4 := fun b kb => (hfc_185 b kb).trans (hfr2_4 b kb)
                  have hrr2_0 : ∀ b, kd b = 2 → fldR (f_183 b) 0 = fldR (f b) 0 := fun b kb => (hrc_188 b kb).trans (hrr2_0 b kb)
                  have hrr2_3 : ∀ b, kd b = 2 → fldR (f_183 b) 3 = fldR (f b) 3 := fun b kb => (hrc_189 b kb).trans (hrr2_3 b kb)
                  have hrr207_0 : ∀ b, kd b = 207 → fldR (f_183 b) 0 = fldR (f b) 0 := fun b kb => (congrArg (fun x => fldR x 0) (hkc_184 b (by rw [kb]; decide) (by rw [kb]; decide) (by rw [kb]; decide) (by rw [kb]; decide))).trans (hrr207_0 b kb)
                  have hrr207_3 : ∀ b, kd b = 207 → fldR (f_183 b) 3 = fldR (f b) 3 := fun b kb => (congrArg (fun x => fldR x 3) (hkc_184 b (by rw [kb]; decide) (by rw [kb]; decide) (by rw [kb]; decide) (by rw [kb]; decide))).trans (hrr207_3 b kb)
                  have hrr207_11 : ∀ b, kd b = 207 → fldR (f_183 b) 11 = fldR (f b) 11 := fun b kb => (congrArg (fun x => fldR x 11) (hkc_184 b (by rw [kb]; decide) (by rw [kb]; decide) (by rw [kb]; decide) (by rw [kb]; decide))).trans (hrr207_11 b kb)
                  have hT0 : trel kd 207 566 568 573 204 f_183 a_2 := hT0.keep (fun b q => hkc_184 b (by rw [q]; decide) (by rw [q]; decide) (by rw [q]; decide) (by rw [q]; decide)) (fun b q => hkc_184 b (by rw [q]; decide) (by rw [q]; decide) (by rw [q]; decide) (by rw [q]; decide)) (fun b q => hkc_184 b (by rw [q]; decide) (by rw [q]; decide) (by rw [q]; decide) (by rw [q]; decide)) (fun b q => hkc_184 b (by rw [q]; decide) (by rw [q]; decide) (by rw [q]; decide) (by rw [q]; decide)) (fun b q => congrArg (fun x => fldI x 1) (hkc_184 b (by rw [q]; decide) (by rw [q]; decide) (by rw [q]; decide) (by rw [q]; decide)))
                  obtain ⟨a_194, v_195, v_196, a_197, v_198, v_199, v_200, v_201, v_202, v_203, hfo_193, ⟨ma_194, ka_194⟩, ⟨ma_197, ka_197⟩, bv_198, bv_199, bv_200, bv_201, bv_202⟩ := un_2 (hG _ mo0) ko0
                  have bv_195 : ((-2147483648) ≤ v_195.toInt ∧ v_195.toInt ≤ 2147483647) := ⟨i32_lo _, i32_hi _⟩
                  have bv_196 : ((-2147483648) ≤ v_196.toInt ∧ v_196.toInt ≤ 2147483647) := ⟨i32_lo _, i32_hi _⟩
                  have bv_203 : ((-2147483648) ≤ v_203.toInt ∧ v_203.toInt ≤ 2147483647) := ⟨i32_lo _, i32_hi _⟩
                  obtain rfl : a_2 = a_194 := by have hk9 := hrr2_0 o0 ko0; rw [hfo_193, hfo_1] at hk9; exact (Option.some.inj hk9).symm
                  obtain rfl : a_5 = a_197 := by have hk9 := hrr2_3 o0 ko0; rw [hfo_193, hfo_1] at hk9; exact (Option.some.inj hk9).symm
                  obtain rfl : v_24 = v_198 := by have hk9 := hfc_185 o0 ko0; rw [hfo_193, hfo_19] at hk9; exact (Option.some.inj hk9).symm
                  obtain rfl : v_27 = v_201 := by have hk9 := hfc_186 o0 ko0; rw [hfo_193, hfo_19] at hk9; exact (Option.some.inj hk9).symm
                  obtain rfl : v_28 = v_202 := by have hk9 := hfc_187 o0 ko0; rw [hfo_193, hfo_19] at hk9; exact (Option.some.inj hk9).symm
                  have hqhpost_190 := hpost_190 v_25 v_199 (by rw [hfo_19]; rfl) (by rw [hfo_193]; rfl)
                  try rw [ti_1] at hqhpost_190
                  refine lv_istore_n (lv' := [(2, .int x_182), (1, .int v_7), (0, .ref o0)]) hx hb dX2_readStatement_140 rfl hl (by decide) rfl (fun ls hl => ?_)
                  refine lv_goto (tgt := 178) hx hb dX2_readStatement_141 (by decide) ?_
                  exact hcut_38 x_182 (by constructor <;> omega) f_183 hG _ _ hP hS hD hfr0 hfr2_4 hrr2_0 hrr2_3 hrr207_0 hrr207_3 hrr207_11 hT0 ls (lv_sub hl [0, 1, 2] rfl)
              · skip
                rw [← Int32.toInt_inj, ti_0] at c_96
                refine lv_aload_n hx hb dX2_readStatement_108 rfl (lv_at hl 1 rfl) ?_
                refine lv_iload_n hx hb dX2_readStatement_109 rfl (lv_at hl 0 rfl) ?_
                refine tk_ViP (As := [.int v_7]) (rest := []) (n := 1) hx hb hml hown hU hN hZ (s_X2_readRule_k2 l (dC, dI) cI cL cZ cR cG cH Z kd L f_18 hG o0 mo0 ko0 v_7 (fun d9 h9 => by rw [hfo_19] at h9; obtain rfl := Option.some.inj h9; exact hT0)) wd_396 wd_397 wd_398 wd_33 wd_399 (by decide +kernel) ⟨Nat.le_of_ble_eq_true rfl, Nat.le_of_ble_eq_true rfl⟩ hK hP hD hS mo0 hfo_19 2 rfl rfl rfl hl.1 rfl (Nat.le_of_ble_eq_true rfl) dX2_readStatement_110 ⟨Nat.le_of_ble_eq_true rfl, Nat.le_of_ble_eq_true rfl⟩ (fun x_204 f_205 H locs hw hP hD hS => ?_)
                obtain ⟨hG, bx_204, hkc_206, hfc_207, hfc_208, hrc_209, hrc_210, hrc_211, hrc_212, hrc_213, hTc_214⟩ := hw
                have hfr0 : ∀ b, kd b ≠ 2 → kd b ≠ 204 → kd b ≠ 205 → kd b ≠ 207 → kd b ≠ 209 → kd b ≠ 213 → kd b ≠ 558 → kd b ≠ 559 → kd b ≠ 562 → kd b ≠ 563 → kd b ≠ 564 → kd b ≠ 565 → kd b ≠ 566 → kd b ≠ 567 → kd b ≠ 568 → kd b ≠ 569 → kd b ≠ 570 → kd b ≠ 571 → kd b ≠ 572 → f_205 b = f b := fun b q2 q204 q205 q207 q209 q213 q558 q559 q562 q563 q564 q565 q566 q567 q568 q569 q570 q571 q572 => (hkc_206 b q2 q204 q205 q207 q558 q559 q568 q569 q570 q571 q572).trans (hfr0 b q2 q204 q205 q207 q209 q213 q558 q559 q562 q563 q564 q565 q566 q567 q568 q569 q570 q571 q572)
                have hfr2_4 : ∀ b, kd b = 2 → fldI (f_205 b) 4 = fldI (f b) 4 := fun b kb => (hfc_207 b kb).trans (hfr2_4 b kb)
                have hrr2_0 : ∀ b, kd b = 2 → fldR (f_205 b) 0 = fldR (f b) 0 := fun b kb => (hrc_209 b kb).trans (hrr2_0 b kb)
                have hrr2_3 : ∀ b, kd b = 2 → fldR (f_205 b) 3 = fldR (f b) 3 := fun b kb => (hrc_210 b kb).trans (hrr2_3 b kb)
                have hrr207_0 : ∀ b, kd b = 207 → fldR (f_205 b) 0 = fldR (f b) 0 := fun b kb => (hrc_211 b kb).trans (hrr207_0 b kb)
                have hrr207_3 : ∀ b, kd b = 207 → fldR (f_205 b) 3 = fldR (f b) 3 := fun b kb => (hrc_212 b kb).trans (hrr207_3 b kb)
                have hrr207_11 : ∀ b, kd b = 207 → fldR (f_205 b) 11 = fldR (f b) 11 := fun b kb => (hrc_213 b kb).trans (hrr207_11 b kb)
                obtain ⟨a_217, v_218, v_219, a_220, v_221, v_222, v_223, v_224, v_225, v_226, hfo_216, ⟨ma_217, ka_217⟩, ⟨ma_220, ka_220⟩, bv_221, bv_222, bv_223, bv_224, bv_225⟩ := un_2 (hG _ mo0) ko0
                have bv_218 : ((-2147483648) ≤ v_218.toInt ∧ v_218.toInt ≤ 2147483647) := ⟨i32_lo _, i32_hi _⟩
                have bv_219 : ((-2147483648) ≤ v_219.toInt ∧ v_219.toInt ≤ 2147483647) := ⟨i32_lo _, i32_hi _⟩
                have bv_226 : ((-2147483648) ≤ v_226.toInt ∧ v_226.toInt ≤ 2147483647) := ⟨i32_lo _, i32_hi _⟩
                obtain rfl : a_2 = a_217 := by have hk9 := hrr2_0 o0 ko0; rw [hfo_216, hfo_1] at hk9; exact (Option.some.inj hk9).symm
                obtain rfl : a_5 = a_220 := by have hk9 := hrr2_3 o0 ko0; rw [hfo_216, hfo_1] at hk9; exact (Option.some.inj hk9).symm
                obtain rfl : v_24 = v_221 := by have hk9 := hfc_207 o0 ko0; rw [hfo_216, hfo_19] at hk9; exact (Option.some.inj hk9).symm
                have hT_227 := hTc_214 a_2 (by rw [hfo_216]; rfl)
                refine lv_istore_n (lv' := [(2, .int x_204), (1, .int v_7), (0, .ref o0)]) hx hb dX2_readStatement_113 rfl hl (by decide) rfl (fun ls hl => ?_)
                refine lv_goto (tgt := 178) hx hb dX2_readStatement_114 (by decide) ?_
                exact hcut_38 x_204 (by constructor <;> omega) f_205 hG _ _ hP hS hD hfr0 hfr2_4 hrr2_0 hrr2_3 hrr207_0 hrr207_3 hrr207_11 hT_227 ls (lv_sub hl [0, 1, 2] rfl)
            · skip
              rw [← Int32.toInt_inj, ti_0] at c_92
              refine lv_aload_n hx hb dX2_readStatement_90 rfl (lv_at hl 1 rfl) ?_
              refine tk_ViP (As := []) (rest := []) (n := 0) hx hb hml hown hU hN hZ (s_X2_readPair_k2 l (dC, dI) cI cL cZ cR cG cH Z kd L f_18 hG o0 mo0 ko0 (fun d9 h9 => by rw [hfo_19] at h9; obtain rfl := Option.some.inj h9; exact hT0)) wd_369 wd_370 wd_371 wd_33 wd_372 (by decide +kernel) ⟨Nat.le_of_ble_eq_true rfl, Nat.le_of_ble_eq_true rfl⟩ hK hP hD hS mo0 hfo_19 2 rfl rfl rfl hl.1 rfl (Nat.le_of_ble_eq_true rfl) dX2_readStatement_91 ⟨Nat.le_of_ble_eq_true rfl, Nat.le_of_ble_eq_true rfl⟩ (fun x_228 f_229 H locs hw hP hD hS => ?_)
              obtain ⟨hG, bx_228, hkc_230, hfc_231, hfc_232, hfc_233, hrc_234, hrc_235, hrc_236, hrc_237, hrc_238, hpost_239, hxp_240, hTc_241⟩ := hw
              have hfr0 : ∀ b, kd b ≠ 2 → kd b ≠ 204 → kd b ≠ 205 → kd b ≠ 207 → kd b ≠ 209 → kd b ≠ 213 → kd b ≠ 558 → kd b ≠ 559 → kd b ≠ 562 → kd b ≠ 563 → kd b ≠ 564 → kd b ≠ 565 → kd b ≠ 566 → kd b ≠ 567 → kd b ≠ 568 → kd b ≠ 569 → kd b ≠ 570 → kd b ≠ 571 → kd b ≠ 572 → f_229 b = f b := fun b q2 q204 q205 q207 q209 q213 q558 q559 q562 q563 q564 q565 q566 q567 q568 q569 q570 q571 q572 => (hkc_230 b q2 q207 q568 q569 q570 q571 q572).trans (hfr0 b q2 q204 q205 q207 q209 q213 q558 q559 q562 q563 q564 q565 q566 q567 q568 q569 q570 q571 q572)
              have hfr2_4 : ∀ b, kd b = 2 → fldI (f_229 b) 4 = fldI (f b) 4 := fun b kb => (hfc_231 b kb).trans (hfr2_4 b kb)
              have hrr2_0 : ∀ b, kd b = 2 → fldR (f_229 b) 0 = fldR (f b) 0 := fun b kb => (hrc_234 b kb).trans (hrr2_0 b kb)
              have hrr2_3 : ∀ b, kd b = 2 → fldR (f_229 b) 3 = fldR (f b) 3 := fun b kb => (hrc_235 b kb).trans (hrr2_3 b kb)
              have hrr207_0 : ∀ b, kd b = 207 → fldR (f_229 b) 0 = fldR (f b) 0 := fun b kb => (hrc_236 b kb).trans (hrr207_0 b kb)
              have hrr207_3 : ∀ b, kd b = 207 → fldR (f_229 b) 3 = fldR (f b) 3 := fun b kb => (hrc_237 b kb).trans (hrr207_3 b kb)
              have hrr207_11 : ∀ b, kd b = 207 → fldR (f_229 b) 11 = fldR (f b) 11 := fun b kb => (hrc_238 b kb).trans (hrr207_11 b kb)
              obtain ⟨a_244, v_245, v_246, a_247, v_248, v_249, v_250, v_251, v_252, v_253, hfo_243, ⟨ma_244, ka_244⟩, ⟨ma_247, ka_247⟩, bv_248, bv_249, bv_250, bv_251, bv_252⟩ := un_2 (hG _ mo0) ko0
              have bv_245 : ((-2147483648) ≤ v_245.toInt ∧ v_245.toInt ≤ 2147483647) := ⟨i32_lo _, i32_hi _⟩
              have bv_246 : ((-2147483648) ≤ v_246.toInt ∧ v_246.toInt ≤ 2147483647) := ⟨i32_lo _, i32_hi _⟩
              have bv_253 : ((-2147483648) ≤ v_253.toInt ∧ v_253.toInt ≤ 2147483647) := ⟨i32_lo _, i32_hi _⟩
              obtain rfl : a_2 = a_244 := by have hk9 := hrr2_0 o0 ko0; rw [hfo_243, hfo_1] at hk9; exact (Option.some.inj hk9).symm
              obtain rfl : a_5 = a_247 := by have hk9 := hrr2_3 o0 ko0; rw [hfo_243, hfo_1] at hk9; exact (Option.some.inj hk9).symm
              obtain rfl : v_24 = v_248 := by have hk9 := hfc_231 o0 ko0; rw [hfo_243, hfo_19] at hk9; exact (Option.some.inj hk9).symm
              have hqhpost_239 := hpost_239 v_25 v_249 (by rw [hfo_19]; rfl) (by rw [hfo_243]; rfl)
              have hT_254 := hTc_241 a_2 (by rw [hfo_243]; rfl)
              obtain ⟨a_256, v_257, a_258, a_259, a_260, a_261, v_262, a_263, a_264, a_265, a_266, a_267, v_268, a_269, a_270, a_271, hfo_255, ⟨ma_256, ka_256⟩, bv_257, ⟨ma_258, ka_258⟩, ⟨ma_259, ka_259⟩, ⟨ma_260, ka_260⟩, ⟨ma_261, ka_261⟩, bv_262, ⟨ma_263, ka_263⟩, ⟨ma_264, ka_264⟩, ⟨ma_265, ka_265⟩, ⟨ma_266, ka_266⟩, ⟨ma_267, ka_267⟩, bv_268, ⟨ma_269, ka_269⟩, ⟨ma_270, ka_270⟩, ⟨ma_271, ka_271⟩⟩ := un_207 (hG _ ma_2) ka_2
              have hrsx_228 := hxp_240 a_2 v_257 v_252 (by rw [hfo_243]; rfl) (by rw [hfo_255]; rfl) (by rw [hfo_243]; rfl)
              refine lv_istore_n (lv' := [(2, .int x_228), (1, .int v_7), (0, .ref o0)]) hx hb dX2_readStatement_94 rfl hl (by decide) rfl (fun ls hl => ?_)
              refine lv_goto (tgt := 178) hx hb dX2_readStatement_95 (by decide) ?_
              exact hcut_38 x_228 (by constructor <;> omega) f_229 hG _ _ hP hS hD hfr0 hfr2_4 hrr2_0 hrr2_3 hrr207_0 hrr207_3 hrr207_11 hT_254 ls (lv_sub hl [0, 1, 2] rfl)
          · skip
            rw [← Int32.toInt_inj, ti_0] at c_88
            refine lv_aload_n hx hb dX2_readStatement_72 rfl (lv_at hl 1 rfl) ?_
            refine tk_ViP (As := []) (rest := []) (n := 0) hx hb hml hown hU hN hZ (s_X2_readClass_k2 l (dC, dI) cI cL cZ cR cG cH Z kd L f_18 hG o0 mo0 ko0 (fun d9 h9 => by rw [hfo_19] at h9; obtain rfl := Option.some.inj h9; exact hT0)) wd_361 wd_362 wd_363 wd_33 wd_364 (by decide +kernel) ⟨Nat.le_of_ble_eq_true rfl, Nat.le_of_ble_eq_true rfl⟩ hK hP hD hS mo0 hfo_19 2 rfl rfl rfl hl.1 rfl (Nat.le_of_ble_eq_true rfl) dX2_readStatement_73 ⟨Nat.le_of_ble_eq_true rfl, Nat.le_of_ble_eq_true rfl⟩ (fun x_272 f_273 H locs hw hP hD hS => ?_)
            obtain ⟨hG, bx_272, hkc_274, hfc_275, hfc_276, hfc_277, hrc_278, hrc_279, hpost_280, hTc_281⟩ := hw
            have hfr0 : ∀ b, kd b ≠ 2 → kd b ≠ 204 → kd b ≠ 205 → kd b ≠ 207 → kd b ≠ 209 → kd b ≠ 213 → kd b ≠ 558 → kd b ≠ 559 → kd b ≠ 562 → kd b ≠ 563 → kd b ≠ 564 → kd b ≠ 565 → kd b ≠ 566 → kd b ≠ 567 → kd b ≠ 568 → kd b ≠ 569 → kd b ≠ 570 → kd b ≠ 571 → kd b ≠ 572 → f_273 b = f b := fun b q2 q204 q205 q207 q209 q213 q558 q559 q562 q563 q564 q565 q566 q567 q568 q569 q570 q571 q572 => (hkc_274 b q2 q567).trans (hfr0 b q2 q204 q205 q207 q209 q213 q558 q559 q562 q563 q564 q565 q566 q567 q568 q569 q570 q571 q572)
            have hfr2_4 : ∀ b, kd b = 2 → fldI (f_273 b) 4 = fldI (f b) 4 := fun b kb => (hfc_275 b kb).trans (hfr2_4 b kb)
            have hrr2_0 : ∀ b, kd b = 2 → fldR (f_273 b) 0 = fldR (f b) 0 := fun b kb => (hrc_278 b kb).trans (hrr2_0 b kb)
            have hrr2_3 : ∀ b, kd b = 2 → fldR (f_273 b) 3 = fldR (f b) 3 := fun b kb => (hrc_279 b kb).trans (hrr2_3 b kb)
            have hrr207_0 : ∀ b, kd b = 207 → fldR (f_273 b) 0 = fldR (f b) 0 := fun b kb => (congrArg (fun x => fldR x 0) (hkc_274 b (by rw [kb]; decide) (by rw [kb]; decide))).trans (hrr207_0 b kb)
            have hrr207_3 : ∀ b, kd b = 207 → fldR (f_273 b) 3 = fldR (f b) 3 := fun b kb => (congrArg (fun x => fldR x 3) (hkc_274 b (by rw [kb]; decide) (by rw [kb]; decide))).trans (hrr207_3 b kb)
            have hrr207_11 : ∀ b, kd b = 207 → fldR (f_273 b) 11 = fldR (f b) 11 := fun b kb => (congrArg (fun x => fldR x 11) (hkc_274 b (by rw [kb]; decide) (by rw [kb]; decide))).trans (hrr207_11 b kb)
            have hT0 : trel kd 207 566 568 573 204 f_273 a_2 := hT0.keep (fun b q => hkc_274 b (by rw [q]; decide) (by rw [q]; decide)) (fun b q => hkc_274 b (by rw [q]; decide) (by rw [q]; decide)) (fun b q => hkc_274 b (by rw [q]; decide) (by rw [q]; decide)) (fun b q => hkc_274 b (by rw [q]; decide) (by rw [q]; decide)) (fun b q => congrArg (fun x => fldI x 1) (hkc_274 b (by rw [q]; decide) (by rw [q]; decide)))
            obtain ⟨a_284, v_285, v_286, a_287, v_288, v_289, v_290, v_291, v_292, v_293, hfo_283, ⟨ma_284, ka_284⟩, ⟨ma_287, ka_287⟩, bv_288, bv_289, bv_290, bv_291, bv_292⟩ := un_2 (hG _ mo0) ko0
            have bv_285 : ((-2147483648) ≤ v_285.toInt ∧ v_285.toInt ≤ 2147483647) := ⟨i32_lo _, i32_hi _⟩
            have bv_286 : ((-2147483648) ≤ v_286.toInt ∧ v_286.toInt ≤ 2147483647) := ⟨i32_lo _, i32_hi _⟩
            have bv_293 : ((-2147483648) ≤ v_293.toInt ∧ v_293.toInt ≤ 2147483647) := ⟨i32_lo _, i32_hi _⟩
            obtain rfl : a_2 = a_284 := by have hk9 := hrr2_0 o0 ko0; rw [hfo_283, hfo_1] at hk9; exact (Option.some.inj hk9).symm
            obtain rfl : a_5 = a_287 := by have hk9 := hrr2_3 o0 ko0; rw [hfo_283, hfo_1] at hk9; exact (Option.some.inj hk9).symm
            obtain rfl : v_24 = v_288 := by have hk9 := hfc_275 o0 ko0; rw [hfo_283, hfo_19] at hk9; exact (Option.some.inj hk9).symm
            obtain rfl : v_27 = v_291 := by have hk9 := hfc_276 o0 ko0; rw [hfo_283, hfo_19] at hk9; exact (Option.some.inj hk9).symm
            obtain rfl : v_28 = v_292 := by have hk9 := hfc_277 o0 ko0; rw [hfo_283, hfo_19] at hk9; exact (Option.some.inj hk9).symm
            have hqhpost_280 := hpost_280 v_25 v_289 (by rw [hfo_19]; rfl) (by rw [hfo_283]; rfl)
            have hT_294 := hTc_281 a_2 (by rw [hfo_283]; rfl)
            refine lv_istore_n (lv' := [(2, .int x_272), (1, .int v_7), (0, .ref o0)]) hx hb dX2_readStatement_76 rfl hl (by decide) rfl (fun ls hl => ?_)
            refine lv_goto (tgt := 178) hx hb dX2_readStatement_77 (by decide) ?_
            exact hcut_38 x_272 (by constructor <;> omega) f_273 hG _ _ hP hS hD hfr0 hfr2_4 hrr2_0 hrr2_3 hrr207_0 hrr207_3 hrr207_11 hT_294 ls (lv_sub hl [0, 1, 2] rfl)
        · skip
          rw [← Int32.toInt_inj, ti_0] at c_84
          refine lv_aload_n hx hb dX2_readStatement_54 rfl (lv_at hl 1 rfl) ?_
          refine tk_ViP (As := []) (rest := []) (n := 0) hx hb hml hown hU hN hZ (s_X2_readLetters_k2 l (dC, dI) cI cL cZ cR cG cH Z kd L f_18 hG o0 mo0 ko0 (fun d9 h9 => by rw [hfo_19] at h9; obtain rfl := Option.some.inj h9; exact hT0)) wd_340 wd_341 wd_342 wd_33 wd_343 (by decide +kernel) ⟨Nat.le_of_ble_eq_true rfl, Nat.le_of_ble_eq_true rfl⟩ hK hP hD hS mo0 hfo_19 2 rfl rfl rfl hl.1 rfl (Nat.le_of_ble_eq_true rfl) dX2_readStatement_55 ⟨Nat.le_of_ble_eq_true rfl, Nat.le_of_ble_eq_true rfl⟩ (fun x_295 f_296 H locs hw hP hD hS => ?_)
          obtain ⟨hG, bx_295, hkc_297, hfc_298, hfc_299, hfc_300, hfc_301, hrc_302, hrc_303, hrc_304, hrc_305, hrc_306, hpost_307, hTc_308⟩ := hw
          have hfr0 : ∀ b, kd b ≠ 2 → kd b ≠ 204 → kd b ≠ 205 → kd b ≠ 207 → kd b ≠ 209 → kd b ≠ 213 → kd b ≠ 558 → kd b ≠ 559 → kd b ≠ 562 → kd b ≠ 563 → kd b ≠ 564 → kd b ≠ 565 → kd b ≠ 566 → kd b ≠ 567 → kd b ≠ 568 → kd b ≠ 569 → kd b ≠ 570 → kd b ≠ 571 → kd b ≠ 572 → f_296 b = f b := fun b q2 q204 q205 q207 q209 q213 q558 q559 q562 q563 q564 q565 q566 q567 q568 q569 q570 q571 q572 => (hkc_297 b q2 q207 q566 q568 q569 q572).trans (hfr0 b q2 q204 q205 q207 q209 q213 q558 q559 q562 q563 q564 q565 q566 q567 q568 q569 q570 q571 q572)
          have hfr2_4 : ∀ b, kd b = 2 → fldI (f_296 b) 4 = fldI (f b) 4 := fun b kb => (hfc_298 b kb).trans (hfr2_4 b kb)
          have hrr2_0 : ∀ b, kd b = 2 → fldR (f_296 b) 0 = fldR (f b) 0 := fun b kb => (hrc_302 b kb).trans (hrr2_0 b kb)
          have hrr2_3 : ∀ b, kd b = 2 → fldR (f_296 b) 3 = fldR (f b) 3 := fun b kb => (hrc_303 b kb).trans (hrr2_3 b kb)
          have hrr207_0 : ∀ b, kd b = 207 → fldR (f_296 b) 0 = fldR (f b) 0 := fun b kb => (hrc_304 b kb).trans (hrr207_0 b kb)
          have hrr207_3 : ∀ b, kd b = 207 → fldR (f_296 b) 3 = fldR (f b) 3 := fun b kb => (hrc_305 b kb).trans (hrr207_3 b kb)
          have hrr207_11 : ∀ b, kd b = 207 → fldR (f_296 b) 11 = fldR (f b) 11 := fun b kb => (hrc_306 b kb).trans (hrr207_11 b kb)
          obtain ⟨a_311, v_312, v_313, a_314, v_315, v_316, v_317, v_318, v_319, v_320, hfo_310, ⟨ma_311, ka_311⟩, ⟨ma_314, ka_314⟩, bv_315, bv_316, bv_317, bv_318, bv_319⟩ := un_2 (hG _ mo0) ko0
          have bv_312 : ((-2147483648) ≤ v_312.toInt ∧ v_312.toInt ≤ 2147483647) := ⟨i32_lo _, i32_hi _⟩
          have bv_313 : ((-2147483648) ≤ v_313.toInt ∧ v_313.toInt ≤ 2147483647) := ⟨i32_lo _, i32_hi _⟩
          have bv_320 : ((-2147483648) ≤ v_320.toInt ∧ v_320.toInt ≤ 2147483647) := ⟨i32_lo _, i32_hi _⟩
          obtain rfl : a_2 = a_311 := by have hk9 := hrr2_0 o0 ko0; rw [hfo_310, hfo_1] at hk9; exact (Option.some.inj hk9).symm
          obtain rfl : a_5 = a_314 := by have hk9 := hrr2_3 o0 ko0; rw [hfo_310, hfo_1] at hk9; exact (Option.some.inj hk9).symm
          obtain rfl : v_24 = v_315 := by have hk9 := hfc_298 o0 ko0; rw [hfo_310, hfo_19] at hk9; exact (Option.some.inj hk9).symm
          obtain rfl : v_27 = v_318 := by have hk9 := hfc_299 o0 ko0; rw [hfo_310, hfo_19] at hk9; exact (Option.some.inj hk9).symm
          obtain rfl : v_28 = v_319 := by have hk9 := hfc_300 o0 ko0; rw [hfo_310, hfo_19] at hk9; exact (Option.some.inj hk9).symm
          have hqhpost_307 := hpost_307 v_25 v_316 (by rw [hfo_19]; rfl) (by rw [hfo_310]; rfl)
          have hT_321 := hTc_308 a_2 (by rw [hfo_310]; rfl)
          refine lv_istore_n (lv' := [(2, .int x_295), (1, .int v_7), (0, .ref o0)]) hx hb dX2_readStatement_58 rfl hl (by decide) rfl (fun ls hl => ?_)
          refine lv_goto (tgt := 178) hx hb dX2_readStatement_59 (by decide) ?_
          exact hcut_38 x_295 (by constructor <;> omega) f_296 hG _ _ hP hS hD hfr0 hfr2_4 hrr2_0 hrr2_3 hrr207_0 hrr207_3 hrr207_11 hT_321 ls (lv_sub hl [0, 1, 2] rfl)
      refine lv_icmp_ge (tgt := 44) hx hb dX2_readStatement_13 (by decide) (fun c_322 => ?_) (fun c_322 => ?_)
      · skip
        rw [Int32.le_iff_toInt_le] at c_322
        exact hcut_31 _ _ hP hS ls (lv_sub hl [0, 1] rfl)
      · skip
        rw [Int32.le_iff_toInt_le] at c_322
        refine lv_aload_n hx hb dX2_readStatement_16 rfl (lv_at hl 1 rfl) ?_
        refine tk_getP (D := (dC, dI)) (ci := 2) (v := .ref a_5) (C := RX2) (T := TX2) (N := 10) hx hb hU inlX2 hown hK hP mo0 hfo_19 rfl 3 (by decide) (hU _ wd_152) (fun _ h9 => h9) rfl dX2_readStatement_17 ?_
        refine lv_aload_n hx hb dX2_readStatement_20 rfl (lv_at hl 1 rfl) ?_
        refine tk_getP (D := (dC, dI)) (ci := 2) (v := .int v_25) (C := RX2) (T := TX2) (N := 10) hx hb hU inlX2 hown hK hP mo0 hfo_19 rfl 5 (by decide) (hU _ wd_256) (fun _ h9 => h9) rfl dX2_readStatement_21 ?_
        obtain ⟨g_324, hfo_323, hbg_324⟩ := un_533 (hG _ ma_5) ka_5
        refine tk_ildP hx hb hK hP 0 ma_5 hfo_323 rfl (vp_in_iff.mpr (by constructor <;> omega)) dX2_readStatement_24 ?_
        refine lv_topi (fun x_325 ex_325 => ?_)
        have bx_325 : ((-2147483648) ≤ x_325.toInt ∧ x_325.toInt ≤ 2147483647) := ⟨i32_lo _, i32_hi _⟩
        refine tk_SiP (As := [.int x_325]) (rest := []) (n := 1) hx hb hml hown hU hN hZ (s_X2_isSmall l (dC, dI) cI cL cZ cR cG cH Z kd L f_18 hG x_325) wd_284 wd_285 wd_33 wd_286 (by decide +kernel) ⟨Nat.le_of_ble_eq_true rfl, Nat.le_of_ble_eq_true rfl⟩ hK hP hD hS rfl hl.1 rfl (Nat.le_of_ble_eq_true rfl) dX2_readStatement_25 ⟨Nat.le_of_ble_eq_true rfl, Nat.le_of_ble_eq_true rfl⟩ (fun x_326 f_327 H locs hw hP hD hS => ?_)
        obtain ⟨rfl, bx_326, relx_326⟩ := hw
        refine lv_if_eq (tgt := 44) hx hb dX2_readStatement_28 (by decide) (fun c_329 => ?_) (fun c_329 => ?_)
        · skip
          rw [← Int32.toInt_inj, ti_0] at c_329
          exact hcut_31 _ _ hP hS ls (lv_sub hl [0, 1] rfl)
        · skip
          rw [← Int32.toInt_inj, ti_0] at c_329
          refine lv_aload_n hx hb dX2_readStatement_31 rfl (lv_at hl 1 rfl) ?_
          refine lv_dup hx hb dX2_readStatement_32 rfl ?_
          refine tk_getP (D := (dC, dI)) (ci := 2) (v := .int v_25) (C := RX2) (T := TX2) (N := 10) hx hb hU inlX2 hown hK hP mo0 hfo_19 rfl 5 (by decide) (hU _ wd_256) (fun _ h9 => h9) rfl dX2_readStatement_33 ?_
          refine lv_iconst (v := 1) hx hb dX2_readStatement_36 (by decide) ?_
          refine lv_iadd hx hb dX2_readStatement_37 ?_
          refine lv_topi (fun x_330 ex_330 => ?_)
          have hx_330 : x_330.toInt = v_25.toInt + 1 := by rw [ex_330, ad_I (by rw [ti_1]; omega) (by rw [ti_1]; omega), ti_1]
          have bx_330 : (1 ≤ x_330.toInt ∧ x_330.toInt ≤ 600) := by constructor <;> omega
          refine tk_putP (D := (dC, dI)) (ci := 2) (v := .int x_330) (ty := .int) (C := RX2) (T := TX2) (N := 10) hx hb hU inlX2 tyX2 tyX2_ok nmX2 hown hK hP hD hS mo0 hfo_19 rfl 5 (by decide) (hU _ wd_256) (fun _ h9 => h9) rfl (by decide +kernel) rfl rfl (Nat.le_of_ble_eq_true rfl) dX2_readStatement_38 (fun H locs hP hD hS => ?_)
          obtain ⟨f_332, ef_332⟩ : ∃ y : Nat → va_E, y = va_up f_18 o0 (.inr (2, [.ref a_2, .int v_21, .int v_22, .ref a_5, .int v_24, .int x_330, .int v_26, .int v_27, .int v_28, .int v_29])) := ⟨_, rfl⟩
          have hP : va_P (dC, dI) vwCl (va_pl L f_332) H := by rw [ef_332]; exact hP
          have hD : va_D (fun q => q ∈ L) (va_pl L f_332) := by rw [ef_332]; exact hD
          have hG : GI (okc cI cL cZ cR cG cH L kd) kd L f_332 := by rw [ef_332]; exact hG.set o0 (mk_2 ko0 ⟨a_2, v_21, v_22, a_5, v_24, x_330, v_26, v_27, v_28, v_29, rfl, ⟨ma_2, ka_2⟩, ⟨ma_5, ka_5⟩, (by constructor <;> omega), (by constructor <;> omega), (by constructor <;> omega), (by constructor <;> omega), (by constructor <;> omega)⟩)
          have hfo_333 : f_332 a_5 = .inl (cI, 600, .inl g_324) := by rw [ef_332, up_ne (kd_ne ko0 ka_5 (by decide))]; exact hfo_323
          have hfr0 : ∀ b, kd b ≠ 2 → kd b ≠ 204 → kd b ≠ 205 → kd b ≠ 207 → kd b ≠ 209 → kd b ≠ 213 → kd b ≠ 558 → kd b ≠ 559 → kd b ≠ 562 → kd b ≠ 563 → kd b ≠ 564 → kd b ≠ 565 → kd b ≠ 566 → kd b ≠ 567 → kd b ≠ 568 → kd b ≠ 569 → kd b ≠ 570 → kd b ≠ 571 → kd b ≠ 572 → f_332 b = f b := fun b q2 q204 q205 q207 q209 q213 q558 q559 q562 q563 q564 q565 q566 q567 q568 q569 q570 q571 q572 => (congrFun ef_332 b).trans ((up_ne (fun e9 => q2 (by rw [e9]; exact ko0))).trans (hfr0 b q2 q204 q205 q207 q209 q213 q558 q559 q562 q563 q564 q565 q566 q567 q568 q569 q570 q571 q572))
          have hfr2_4 : ∀ b, kd b = 2 → fldI (f_332 b) 4 = fldI (f b) 4 := fun b kb => ((congrArg (fun x => fldI x 4) (congrFun ef_332 b)).trans (fk_up (by rw [hfo_19]; rfl) b)).trans (hfr2_4 b kb)
          have hrr2_0 : ∀ b, kd b = 2 → fldR (f_332 b) 0 = fldR (f b) 0 := fun b kb => ((congrArg (fun x => fldR x 0) (congrFun ef_332 b)).trans (fr_up (by rw [hfo_19]; rfl) b)).trans (hrr2_0 b kb)
          have hrr2_3 : ∀ b, kd b = 2 → fldR (f_332 b) 3 = fldR (f b) 3 := fun b kb => ((congrArg (fun x => fldR x 3) (congrFun ef_332 b)).trans (fr_up (by rw [hfo_19]; rfl) b)).trans (hrr2_3 b kb)
          have hrr207_0 : ∀ b, kd b = 207 → fldR (f_332 b) 0 = fldR (f b) 0 := fun b kb => (congrArg (fun x => fldR x 0) ((congrFun ef_332 b).trans (up_ne (kd_ne ko0 kb (by decide))))).trans (hrr207_0 b kb)
          have hrr207_3 : ∀ b, kd b = 207 → fldR (f_332 b) 3 = fldR (f b) 3 := fun b kb => (congrArg (fun x => fldR x 3) ((congrFun ef_332 b).trans (up_ne (kd_ne ko0 kb (by decide))))).trans (hrr207_3 b kb)
          have hrr207_11 : ∀ b, kd b = 207 → fldR (f_332 b) 11 = fldR (f b) 11 := fun b kb => (congrArg (fun x => fldR x 11) ((congrFun ef_332 b).trans (up_ne (kd_ne ko0 kb (by decide))))).trans (hrr207_11 b kb)
          have hT0 : trel kd 207 566 568 573 204 f_332 a_2 := by rw [ef_332]; exact hT0.up ko0 (by decide) (by decide) (by decide) (by decide) (by decide)
          have hfo_334 : f_332 o0 = .inr (2, [.ref a_2, .int v_21, .int v_22, .ref a_5, .int v_24, .int x_330, .int v_26, .int v_27, .int v_28, .int v_29]) := by rw [ef_332]; exact up_self
          refine lv_goto (tgt := 5) hx hb dX2_readStatement_41 (by decide) ?_
          exact ih_hloop_16 f_332 hG _ _ hP hS hD hfr0 hfr2_4 hrr2_0 hrr2_3 hrr207_0 hrr207_3 hrr207_11 hT0 x_330 (by rw [hfo_334]; rfl) (by omega) (by omega) (by omega) ls (lv_sub hl [0, 1] rfl)
  exact hloop_16 601 f hG _ _ hP hS hD hfr0 hfr2_4 hrr2_0 hrr2_3 hrr207_0 hrr207_3 hrr207_11 hT0 v_7 (by rw [hfo_1]; rfl) (by omega) (by omega) (by omega) ls hl
