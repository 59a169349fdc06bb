set_option maxHeartbeats 8000000 in
set_option maxRecDepth 100000 in
theorem s_X2_readPart_k2_k209 (l : Launch) (D : va_G) (cI cL cZ cR cG cH : ClassId) (Z : zT) (kd : Nat → Nat) (L : List Nat) (f : Nat → va_E) (hG : GI (okc cI cL cZ cR cG cH L kd) kd L f) (o0 : Nat) (mo0 : o0 ∈ L) (ko0 : kd o0 = 2) (o1 : Nat) (mo1 : o1 ∈ L) (ko1 : kd o1 = 209) (p2 : Int32) (p3 : Int32) : mPI l D cI cL cZ cR cG cH Z yX2_readPart cX2_readPart 6 (some .boolean) 1 22 [.ref o0, .ref o1, .int p2, .int p3] L f (fun (r : Int32) (f9 : Nat → va_E) => GI (okc cI cL cZ cR cG cH L kd) kd L f9 ∧ (0 ≤ r.toInt ∧ r.toInt ≤ 1) ∧ (∀ b, kd b ≠ 2 → kd b ≠ 209 → kd b ≠ 562 → kd b ≠ 563 → f9 b = f b) ∧ (∀ b, kd b = 2 → fldI (f9 b) 4 = fldI (f b) 4) ∧ (∀ b, kd b = 2 → fldI (f9 b) 7 = fldI (f b) 7) ∧ (∀ b, kd b = 2 → fldI (f9 b) 8 = fldI (f b) 8) ∧ (∀ b, kd b = 2 → fldR (f9 b) 0 = fldR (f b) 0) ∧ (∀ b, kd b = 2 → fldR (f9 b) 3 = fldR (f b) 3) ∧ (∀ (w5 z5 : Int32), fldI (f o0) 5 = some w5 → fldI (f9 o0) 5 = some z5 → w5.toInt ≤ z5.toInt)) := by
  obtain ⟨dC, dI⟩ := D
  refine Met.ofW (cc := cX2_readPart) (maxL := 6) (ret := (some .boolean)) (by decide) rfl ?_
  intro p e s m args below meth c s₁ B hml hv
  obtain ⟨rfl, hP, hK, hD0, hN, hZ⟩ := hv
  have hx := B.exec
  have hb := B.bytes
  have hr := B.returns
  have hU : ∀ w ∈ wsU, w.before _ s = true := fun w h => atoms_spec (ws := wU yX2_readPart cX2_readPart 6 (some .boolean)) B.pre w (List.mem_cons_of_mem _ h)
  have hown : s.vm.findClass RX2 = some m.cls := findClass_of_methodNamed B.named
  have hlocks := B.notSynchronized
  have hD := pl_in hD0
  have hS : va_S (fun q => q ∈ L) s.heap s.heap [] := va_S.rf
  have hl := lv_entry ([.ref o0, .ref o1, .int p2, .int p3]) (n := 6) (Nat.le_of_ble_eq_true rfl)
  rw [lg_entry_eq]
  generalize (lg_sl ([.ref o0, .ref o1, .int p2, .int p3]) ++ List.replicate (6 - (lg_sl ([.ref o0, .ref o1, .int p2, .int p3])).length) Slot.unset).toArray = ls at hl ⊢
  have hl : lv_has ls 6 [(0, .ref o0), (1, .ref o1), (2, .int p2), (3, .int p3)] := hl
  have bp2 : ((-2147483648) ≤ p2.toInt ∧ p2.toInt ≤ 2147483647) := ⟨i32_lo _, i32_hi _⟩
  have bp3 : ((-2147483648) ≤ p3.toInt ∧ p3.toInt ≤ 2147483647) := ⟨i32_lo _, i32_hi _⟩
  have hfr0 : ∀ b, kd b ≠ 2 → kd b ≠ 209 → kd b ≠ 562 → kd b ≠ 563 → f b = f b := fun _ _ _ _ _ => rfl
  have hfr2_4 : ∀ b, kd b = 2 → fldI (f b) 4 = fldI (f b) 4 := fun _ _ => rfl
  have hfr2_7 : ∀ b, kd b = 2 → fldI (f b) 7 = fldI (f b) 7 := fun _ _ => rfl
  have hfr2_8 : ∀ b, kd b = 2 → fldI (f b) 8 = fldI (f b) 8 := fun _ _ => rfl
  have hrr2_0 : ∀ b, kd b = 2 → fldR (f b) 0 = fldR (f b) 0 := fun _ _ => rfl
  have hrr2_3 : ∀ b, kd b = 2 → fldR (f b) 3 = fldR (f b) 3 := fun _ _ => rfl
  obtain ⟨a_2, v_3, v_4, a_5, v_6, v_7, v_8, v_9, v_10, v_11, hfo_1, ⟨ma_2, ka_2⟩, ⟨ma_5, ka_5⟩, bv_6, bv_7, bv_8, bv_9, bv_10⟩ := un_2 (hG _ mo0) ko0
  have bv_3 : ((-2147483648) ≤ v_3.toInt ∧ v_3.toInt ≤ 2147483647) := ⟨i32_lo _, i32_hi _⟩
  have bv_4 : ((-2147483648) ≤ v_4.toInt ∧ v_4.toInt ≤ 2147483647) := ⟨i32_lo _, i32_hi _⟩
  have bv_11 : ((-2147483648) ≤ v_11.toInt ∧ v_11.toInt ≤ 2147483647) := ⟨i32_lo _, i32_hi _⟩
  refine lv_aload_n hx hb dX2_readPart_0 rfl (lv_at hl 1 rfl) ?_
  obtain ⟨a_13, a_14, v_15, hfo_12, ⟨ma_13, ka_13⟩, ⟨ma_14, ka_14⟩, bv_15⟩ := un_209 (hG _ mo1) ko1
  refine tk_getP (D := (dC, dI)) (ci := 9) (v := .int v_15) (C := RX9) (T := TX9) (N := 3) hx hb hU inlX9 hown hK hP mo1 hfo_12 rfl 2 (by decide) (hU _ wd_471) (fun _ h9 => h9) rfl dX2_readPart_1 ?_
  refine lv_aload_n hx hb dX2_readPart_4 rfl (lv_at hl 1 rfl) ?_
  refine tk_getP (D := (dC, dI)) (ci := 9) (v := .ref a_14) (C := RX9) (T := TX9) (N := 3) hx hb hU inlX9 hown hK hP mo1 hfo_12 rfl 1 (by decide) (hU _ wd_472) (fun _ h9 => h9) rfl dX2_readPart_5 ?_
  obtain ⟨g_17, hfo_16, hbg_17⟩ := un_563 (hG _ ma_14) ka_14
  refine tk_alenP (v := 12) hx hb hK hP 0 ma_14 hfo_16 rfl rfl dX2_readPart_8 ?_
  refine lv_icmp_ne (tgt := 19) hx hb dX2_readPart_9 (by decide) (fun c_18 => ?_) (fun c_18 => ?_)
  · skip
    rw [← Int32.toInt_inj, ti_12] at c_18
    refine lv_aload_n hx hb dX2_readPart_19 rfl (lv_at hl 1 rfl) ?_
    refine tk_VvP (As := []) (rest := []) (n := 0) hx hb hml hown hU hN hZ (s_X9_open_k209 l (dC, dI) cI cL cZ cR cG cH Z kd L f hG o1 mo1 ko1) wd_473 wd_474 wd_475 wd_85 wd_476 (by decide +kernel) ⟨Nat.le_of_ble_eq_true rfl, Nat.le_of_ble_eq_true rfl⟩ hK hP hD hS mo1 hfo_12 9 rfl rfl rfl hl.1 rfl (Nat.le_of_ble_eq_true rfl) dX2_readPart_20 ⟨Nat.le_of_ble_eq_true rfl, Nat.le_of_ble_eq_true rfl⟩ (fun f_20 H locs hw hP hD hS => ?_)
    obtain ⟨hG, hkc_21⟩ := hw
    have hfo_23 : f_20 o0 = .inr (2, [.ref a_2, .int v_3, .int v_4, .ref a_5, .int v_6, .int v_7, .int v_8, .int v_9, .int v_10, .int v_11]) := by rw [hkc_21 o0 (by rw [ko0]; decide) (by rw [ko0]; decide)]; exact hfo_1
    have hfr0 : ∀ b, kd b ≠ 2 → kd b ≠ 209 → kd b ≠ 562 → kd b ≠ 563 → f_20 b = f b := fun b q2 q209 q562 q563 => (hkc_21 b q209 q563).trans (hfr0 b q2 q209 q562 q563)
    have hfr2_4 : ∀ b, kd b = 2 → fldI (f_20 b) 4 = fldI (f b) 4 := fun b kb => (congrArg (fun x => fldI x 4) (hkc_21 b (by rw [kb]; decide) (by rw [kb]; decide))).trans (hfr2_4 b kb)
    have hfr2_7 : ∀ b, kd b = 2 → fldI (f_20 b) 7 = fldI (f b) 7 := fun b kb => (congrArg (fun x => fldI x 7) (hkc_21 b (by rw [kb]; decide) (by rw [kb]; decide))).trans (hfr2_7 b kb)
    have hfr2_8 : ∀ b, kd b = 2 → fldI (f_20 b) 8 = fldI (f b) 8 := fun b kb => (congrArg (fun x => fldI x 8) (hkc_21 b (by rw [kb]; decide) (by rw [kb]; decide))).trans (hfr2_8 b kb)
    have hrr2_0 : ∀ b, kd b = 2 → fldR (f_20 b) 0 = fldR (f b) 0 := fun b kb => (congrArg (fun x => fldR x 0) (hkc_21 b (by rw [kb]; decide) (by rw [kb]; decide))).trans (hrr2_0 b kb)
    have hrr2_3 : ∀ b, kd b = 2 → fldR (f_20 b) 3 = fldR (f b) 3 := fun b kb => (congrArg (fun x => fldR x 3) (hkc_21 b (by rw [kb]; decide) (by rw [kb]; decide))).trans (hrr2_3 b kb)
    refine lv_iconst (v := 0) hx hb dX2_readPart_23 (by decide) ?_
    refine lv_istore (lv' := [(4, .int 0), (0, .ref o0), (1, .ref o1), (2, .int p2), (3, .int p3)]) hx hb dX2_readPart_24 hl (by decide) rfl (fun ls hl => ?_)
    have hloop_29 : ∀ (n : Nat), ∀ (y_30 : Int32), (0 ≤ y_30.toInt ∧ y_30.toInt ≤ 6) → ∀ (f_32 : Nat → va_E), GI (okc cI cL cZ cR cG cH L kd) kd L f_32 → ∀ (H : Heap) (locs : List Loc), va_P (dC, dI) vwCl (va_pl L f_32) H → va_S (fun q => q ∈ L) s.heap H locs → va_D (fun q => q ∈ L) (va_pl L f_32) → (∀ b, kd b ≠ 2 → kd b ≠ 209 → kd b ≠ 562 → kd b ≠ 563 → f_32 b = f b) → (∀ b, kd b = 2 → fldI (f_32 b) 4 = fldI (f b) 4) → (∀ b, kd b = 2 → fldI (f_32 b) 7 = fldI (f b) 7) → (∀ b, kd b = 2 → fldI (f_32 b) 8 = fldI (f b) 8) → (∀ b, kd b = 2 → fldR (f_32 b) 0 = fldR (f b) 0) → (∀ b, kd b = 2 → fldR (f_32 b) 3 = fldR (f b) 3) → ∀ (whloop_29_0_5 : Int32), fldI (f_32 o0) 5 = some whloop_29_0_5 → (v_7.toInt ≤ whloop_29_0_5.toInt) → (0 ≤ whloop_29_0_5.toInt ∧ whloop_29_0_5.toInt ≤ 600) → 600 - whloop_29_0_5.toInt < (n : Int) → ∀ (ls : Array Slot), lv_has ls 6 [(4, .int y_30), (0, .ref o0), (1, .ref o1), (2, .int p2), (3, .int p3)] → W p l e (headSpec (wU yX2_readPart cX2_readPart 6 (some .boolean)) { frames := 1, cells := 0, slots := 0, locals := 22 }).room s m [.ref o0, .ref o1, .int p2, .int p3].toArray below meth c H locs 0 0 (MQ below (va_Qi (fun (r : Int32) (f9 : Nat → va_E) => GI (okc cI cL cZ cR cG cH L kd) kd L f9 ∧ (0 ≤ r.toInt ∧ r.toInt ≤ 1) ∧ (∀ b, kd b ≠ 2 → kd b ≠ 209 → kd b ≠ 562 → kd b ≠ 563 → f9 b = f b) ∧ (∀ b, kd b = 2 → fldI (f9 b) 4 = fldI (f b) 4) ∧ (∀ b, kd b = 2 → fldI (f9 b) 7 = fldI (f b) 7) ∧ (∀ b, kd b = 2 → fldI (f9 b) 8 = fldI (f b) 8) ∧ (∀ b, kd b = 2 → fldR (f9 b) 0 = fldR (f b) 0) ∧ (∀ b, kd b = 2 → fldR (f9 b) 3 = fldR (f b) 3) ∧ (∀ (w5 z5 : Int32), fldI (f o0) 5 = some w5 → fldI (f9 o0) 5 = some z5 → w5.toInt ≤ z5.toInt)) (qP (dC, dI) cI cL cZ cR cG cH L) (fun q => q ∈ L)) [.ref o0, .ref o1, .int p2, .int p3].toArray s 0 0 (fun q => q ∈ L)) (F0 m 26 ls []) := by
      intro n
      induction n with
      | zero => intro y_30 by_30 f_32 hG H locs hP hS hD hfr0 hfr2_4 hfr2_7 hfr2_8 hrr2_0 hrr2_3 whloop_29_0_5 hghloop_29_0_5 hrelhloop_29_0 hrelhloop_29_1 hmuhloop_29 ls hl; exfalso; omega
      | succ n ih_hloop_29 =>
        intro y_30 by_30 f_32 hG H locs hP hS hD hfr0 hfr2_4 hfr2_7 hfr2_8 hrr2_0 hrr2_3 whloop_29_0_5 hghloop_29_0_5 hrelhloop_29_0 hrelhloop_29_1 hmuhloop_29 ls hl
        obtain ⟨a_34, v_35, v_36, a_37, v_38, v_39, v_40, v_41, v_42, v_43, hfo_33, ⟨ma_34, ka_34⟩, ⟨ma_37, ka_37⟩, bv_38, bv_39, bv_40, bv_41, bv_42⟩ := un_2 (hG _ mo0) ko0
        have bv_35 : ((-2147483648) ≤ v_35.toInt ∧ v_35.toInt ≤ 2147483647) := ⟨i32_lo _, i32_hi _⟩
        have bv_36 : ((-2147483648) ≤ v_36.toInt ∧ v_36.toInt ≤ 2147483647) := ⟨i32_lo _, i32_hi _⟩
        have bv_43 : ((-2147483648) ≤ v_43.toInt ∧ v_43.toInt ≤ 2147483647) := ⟨i32_lo _, i32_hi _⟩
        obtain rfl : a_2 = a_34 := by have hk9 := hrr2_0 o0 ko0; rw [hfo_33, hfo_1] at hk9; exact (Option.some.inj hk9).symm
        obtain rfl : a_5 = a_37 := by have hk9 := hrr2_3 o0 ko0; rw [hfo_33, hfo_1] at hk9; exact (Option.some.inj hk9).symm
        obtain rfl : v_39 = whloop_29_0_5 := by rw [hfo_33] at hghloop_29_0_5; exact Option.some.inj hghloop_29_0_5
        refine lv_aload_n hx hb dX2_readPart_26 rfl (lv_at hl 1 rfl) ?_
        refine tk_getP (D := (dC, dI)) (ci := 2) (v := .int v_39) (C := RX2) (T := TX2) (N := 10) hx hb hU inlX2 hown hK hP mo0 hfo_33 rfl 5 (by decide) (hU _ wd_256) (fun _ h9 => h9) rfl dX2_readPart_27 ?_
        refine lv_aload_n hx hb dX2_readPart_30 rfl (lv_at hl 1 rfl) ?_
        refine tk_getP (D := (dC, dI)) (ci := 2) (v := .int v_38) (C := RX2) (T := TX2) (N := 10) hx hb hU inlX2 hown hK hP mo0 hfo_33 rfl 4 (by decide) (hU _ wd_251) (fun _ h9 => h9) rfl dX2_readPart_31 ?_
        refine lv_icmp_ge (tgt := 119) hx hb dX2_readPart_34 (by decide) (fun c_44 => ?_) (fun c_44 => ?_)
        · skip
          rw [Int32.le_iff_toInt_le] at c_44
          refine lv_iload hx hb dX2_readPart_119 (lv_at hl 0 rfl) ?_
          refine lv_iload_n hx hb dX2_readPart_121 rfl (lv_at hl 4 rfl) ?_
          refine lv_icmp_ge (tgt := 137) hx hb dX2_readPart_122 (by decide) (fun c_45 => ?_) (fun c_45 => ?_)
          · skip
            rw [Int32.le_iff_toInt_le] at c_45
            refine lv_iconst (v := 1) hx hb dX2_readPart_137 (by decide) ?_
            refine lv_goto (tgt := 142) hx hb dX2_readPart_138 (by decide) ?_
            exact W.zret (v := 1) (ty := .boolean) hx hb hr rfl (fun t ht hW => ⟨⟨1, f_32, rfl, ⟨hG, (by decide), hfr0, hfr2_4, hfr2_7, hfr2_8, hrr2_0, hrr2_3, (by intro w5 z5 e5 d5; rw [hfo_1] at e5; rw [hfo_33] at d5; obtain rfl := Option.some.inj e5; obtain rfl := Option.some.inj d5; (try rw [ti_1]) <;> omega)⟩, by rw [ht]; exact hP, va_K.moved hW.alike hK, pl_in hD⟩, hS.F ht⟩) hS.2.2 dX2_readPart_142
          · skip
            rw [Int32.le_iff_toInt_le] at c_45
            refine lv_aload_n hx hb dX2_readPart_125 rfl (lv_at hl 1 rfl) ?_
            refine lv_iconst (v := 1) hx hb dX2_readPart_126 (by decide) ?_
            refine lv_aload_n hx hb dX2_readPart_127 rfl (lv_at hl 1 rfl) ?_
            refine tk_getP (D := (dC, dI)) (ci := 2) (v := .int v_39) (C := RX2) (T := TX2) (N := 10) hx hb hU inlX2 hown hK hP mo0 hfo_33 rfl 5 (by decide) (hU _ wd_256) (fun _ h9 => h9) rfl dX2_readPart_128 ?_
            refine tk_ViP (As := [.int 1, .int v_39]) (rest := []) (n := 2) hx hb hml hown hU hN hZ (s_X2_fail_k2 l (dC, dI) cI cL cZ cR cG cH Z kd L f_32 hG o0 mo0 ko0 1 v_39) wd_349 wd_350 wd_351 wd_33 wd_352 (by decide +kernel) ⟨Nat.le_of_ble_eq_true rfl, Nat.le_of_ble_eq_true rfl⟩ hK hP hD hS mo0 hfo_33 2 rfl rfl rfl hl.1 rfl (Nat.le_of_ble_eq_true rfl) dX2_readPart_131 ⟨Nat.le_of_ble_eq_true rfl, Nat.le_of_ble_eq_true rfl⟩ (fun x_46 f_47 H locs hw hP hD hS => ?_)
            obtain ⟨hG, bx_46, hkc_48, hfc_49, hfc_50, hfc_51, hfc_52, hrc_53, hrc_54⟩ := hw
            have hfr0 : ∀ b, kd b ≠ 2 → kd b ≠ 209 → kd b ≠ 562 → kd b ≠ 563 → f_47 b = f b := fun b q2 q209 q562 q563 => (hkc_48 b q2).trans (hfr0 b q2 q209 q562 q563)
            have hfr2_4 : ∀ b, kd b = 2 → fldI (f_47 b) 4 = fldI (f b) 4 := fun b kb => (hfc_49 b kb).trans (hfr2_4 b kb)
            have hfr2_7 : ∀ b, kd b = 2 → fldI (f_47 b) 7 = fldI (f b) 7 := fun b kb => (hfc_51 b kb).trans (hfr2_7 b kb)
            have hfr2_8 : ∀ b, kd b = 2 → fldI (f_47 b) 8 = fldI (f b) 8 := fun b kb => (hfc_52 b kb).trans (hfr2_8 b kb)
            have hrr2_0 : ∀ b, kd b = 2 → fldR (f_47 b) 0 = fldR (f b) 0 := fun b kb => (hrc_53 b kb).trans (hrr2_0 b kb)
            have hrr2_3 : ∀ b, kd b = 2 → fldR (f_47 b) 3 = fldR (f b) 3 := fun b kb => (hrc_54 b kb).trans (hrr2_3 b kb)
            obtain ⟨a_57, v_58, v_59, a_60, v_61, v_62, v_63, v_64, v_65, v_66, hfo_56, ⟨ma_57, ka_57⟩, ⟨ma_60, ka_60⟩, bv_61, bv_62, bv_63, bv_64, bv_65⟩ := un_2 (hG _ mo0) ko0
            have bv_58 : ((-2147483648) ≤ v_58.toInt ∧ v_58.toInt ≤ 2147483647) := ⟨i32_lo _, i32_hi _⟩
            have bv_59 : ((-2147483648) ≤ v_59.toInt ∧ v_59.toInt ≤ 2147483647) := ⟨i32_lo _, i32_hi _⟩
            have bv_66 : ((-2147483648) ≤ v_66.toInt ∧ v_66.toInt ≤ 2147483647) := ⟨i32_lo _, i32_hi _⟩
            obtain rfl : a_2 = a_57 := by have hk9 := hrr2_0 o0 ko0; rw [hfo_56, hfo_1] at hk9; exact (Option.some.inj hk9).symm
            obtain rfl : a_5 = a_60 := by have hk9 := hrr2_3 o0 ko0; rw [hfo_56, hfo_1] at hk9; exact (Option.some.inj hk9).symm
            obtain rfl : v_38 = v_61 := by have hk9 := hfc_49 o0 ko0; rw [hfo_56, hfo_33] at hk9; exact (Option.some.inj hk9).symm
            obtain rfl : v_39 = v_62 := by have hk9 := hfc_50 o0 ko0; rw [hfo_56, hfo_33] at hk9; exact (Option.some.inj hk9).symm
            obtain rfl : v_41 = v_64 := by have hk9 := hfc_51 o0 ko0; rw [hfo_56, hfo_33] at hk9; exact (Option.some.inj hk9).symm
            obtain rfl : v_42 = v_65 := by have hk9 := hfc_52 o0 ko0; rw [hfo_56, hfo_33] at hk9; exact (Option.some.inj hk9).symm
            refine lv_if_eq (tgt := 141) hx hb dX2_readPart_134 (by decide) (fun c_67 => ?_) (fun c_67 => ?_)
            · skip
              rw [← Int32.toInt_inj, ti_0] at c_67
              refine lv_iconst (v := 0) hx hb dX2_readPart_141 (by decide) ?_
              exact W.zret (v := 0) (ty := .boolean) hx hb hr rfl (fun t ht hW => ⟨⟨0, f_47, rfl, ⟨hG, (by decide), hfr0, hfr2_4, hfr2_7, hfr2_8, hrr2_0, hrr2_3, (by intro w5 z5 e5 d5; rw [hfo_1] at e5; rw [hfo_56] at d5; obtain rfl := Option.some.inj e5; obtain rfl := Option.some.inj d5; (try rw [ti_0]) <;> omega)⟩, by rw [ht]; exact hP, va_K.moved hW.alike hK, pl_in hD⟩, hS.F ht⟩) hS.2.2 dX2_readPart_142
            · skip
              rw [← Int32.toInt_inj, ti_0] at c_67
              exfalso
              omega
        · skip
          rw [Int32.le_iff_toInt_le] at c_44
          refine lv_aload_n hx hb dX2_readPart_37 rfl (lv_at hl 1 rfl) ?_
          refine tk_ViP (As := []) (rest := []) (n := 0) hx hb hml hown hU hN hZ (s_X2_peek_k2 l (dC, dI) cI cL cZ cR cG cH Z kd L f_32 hG o0 mo0 ko0) wd_274 wd_275 wd_276 wd_33 wd_277 (by decide +kernel) ⟨Nat.le_of_ble_eq_true rfl, Nat.le_of_ble_eq_true rfl⟩ hK hP hD hS mo0 hfo_33 2 rfl rfl rfl hl.1 rfl (Nat.le_of_ble_eq_true rfl) dX2_readPart_38 ⟨Nat.le_of_ble_eq_true rfl, Nat.le_of_ble_eq_true rfl⟩ (fun x_68 f_69 H locs hw hP hD hS => ?_)
          obtain ⟨hG, bx_68, hkc_70, hfc_71, hfc_72, hfc_73, hrc_74, hrc_75, hpost_76, hxp_77⟩ := hw
          have hfr0 : ∀ b, kd b ≠ 2 → kd b ≠ 209 → kd b ≠ 562 → kd b ≠ 563 → f_69 b = f b := fun b q2 q209 q562 q563 => (hkc_70 b q2).trans (hfr0 b q2 q209 q562 q563)
          have hfr2_4 : ∀ b, kd b = 2 → fldI (f_69 b) 4 = fldI (f b) 4 := fun b kb => (hfc_71 b kb).trans (hfr2_4 b kb)
          have hfr2_7 : ∀ b, kd b = 2 → fldI (f_69 b) 7 = fldI (f b) 7 := fun b kb => (hfc_72 b kb).trans (hfr2_7 b kb)
          have hfr2_8 : ∀ b, kd b = 2 → fldI (f_69 b) 8 = fldI (f b) 8 := fun b kb => (hfc_73 b kb).trans (hfr2_8 b kb)
          have hrr2_0 : ∀ b, kd b = 2 → fldR (f_69 b) 0 = fldR (f b) 0 := fun b kb => (hrc_74 b kb).trans (hrr2_0 b kb)
          have hrr2_3 : ∀ b, kd b = 2 → fldR (f_69 b) 3 = fldR (f b) 3 := fun b kb => (hrc_75 b kb).trans (hrr2_3 b kb)
          obtain ⟨a_80, v_81, v_82, a_83, v_84, v_85, v_86, v_87, v_88, v_89, hfo_79, ⟨ma_80, ka_80⟩, ⟨ma_83, ka_83⟩, bv_84, bv_85, bv_86, bv_87, bv_88⟩ := un_2 (hG _ mo0) ko0
          have bv_81 : ((-2147483648) ≤ v_81.toInt ∧ v_81.toInt ≤ 2147483647) := ⟨i32_lo _, i32_hi _⟩
          have bv_82 : ((-2147483648) ≤ v_82.toInt ∧ v_82.toInt ≤ 2147483647) := ⟨i32_lo _, i32_hi _⟩
          have bv_89 : ((-2147483648) ≤ v_89.toInt ∧ v_89.toInt ≤ 2147483647) := ⟨i32_lo _, i32_hi _⟩
          obtain rfl : a_2 = a_80 := by have hk9 := hrr2_0 o0 ko0; rw [hfo_79, hfo_1] at hk9; exact (Option.some.inj hk9).symm
          obtain rfl : a_5 = a_83 := by have hk9 := hrr2_3 o0 ko0; rw [hfo_79, hfo_1] at hk9; exact (Option.some.inj hk9).symm
          obtain rfl : v_38 = v_84 := by have hk9 := hfc_71 o0 ko0; rw [hfo_79, hfo_33] at hk9; exact (Option.some.inj hk9).symm
          obtain rfl : v_41 = v_87 := by have hk9 := hfc_72 o0 ko0; rw [hfo_79, hfo_33] at hk9; exact (Option.some.inj hk9).symm
          obtain rfl : v_42 = v_88 := by have hk9 := hfc_73 o0 ko0; rw [hfo_79, hfo_33] at hk9; exact (Option.some.inj hk9).symm
          have hqhpost_76 := hpost_76 v_39 v_85 (by rw [hfo_33]; rfl) (by rw [hfo_79]; rfl)
          obtain ⟨g_91, hfo_90, hbg_91⟩ := un_533 (hG _ ma_5) ka_5
          have hpkx_68 := hxp_77 a_5 g_91 v_85 (by rw [hfo_79]; rfl) hfo_90 (by rw [hfo_79]; rfl)
          refine tk_SiP (As := [.int x_68]) (rest := []) (n := 1) hx hb hml hown hU hN hZ (s_X2_isSmall l (dC, dI) cI cL cZ cR cG cH Z kd L f_69 hG x_68) wd_284 wd_285 wd_33 wd_286 (by decide +kernel) ⟨Nat.le_of_ble_eq_true rfl, Nat.le_of_ble_eq_true rfl⟩ hK hP hD hS rfl hl.1 rfl (Nat.le_of_ble_eq_true rfl) dX2_readPart_41 ⟨Nat.le_of_ble_eq_true rfl, Nat.le_of_ble_eq_true rfl⟩ (fun x_92 f_93 H locs hw hP hD hS => ?_)
          obtain ⟨rfl, bx_92, relx_92⟩ := hw
          refine lv_if_eq (tgt := 119) hx hb dX2_readPart_44 (by decide) (fun c_95 => ?_) (fun c_95 => ?_)
          · skip
            rw [← Int32.toInt_inj, ti_0] at c_95
            refine lv_iload hx hb dX2_readPart_119 (lv_at hl 0 rfl) ?_
            refine lv_iload_n hx hb dX2_readPart_121 rfl (lv_at hl 4 rfl) ?_
            refine lv_icmp_ge (tgt := 137) hx hb dX2_readPart_122 (by decide) (fun c_96 => ?_) (fun c_96 => ?_)
            · skip
              rw [Int32.le_iff_toInt_le] at c_96
              refine lv_iconst (v := 1) hx hb dX2_readPart_137 (by decide) ?_
              refine lv_goto (tgt := 142) hx hb dX2_readPart_138 (by decide) ?_
              exact W.zret (v := 1) (ty := .boolean) hx hb hr rfl (fun t ht hW => ⟨⟨1, f_69, rfl, ⟨hG, (by decide), hfr0, hfr2_4, hfr2_7, hfr2_8, hrr2_0, hrr2_3, (by intro w5 z5 e5 d5; rw [hfo_1] at e5; rw [hfo_79] at d5; obtain rfl := Option.some.inj e5; obtain rfl := Option.some.inj d5; (try rw [ti_1]) <;> omega)⟩, by rw [ht]; exact hP, va_K.moved hW.alike hK, pl_in hD⟩, hS.F ht⟩) hS.2.2 dX2_readPart_142
            · skip
              rw [Int32.le_iff_toInt_le] at c_96
              refine lv_aload_n hx hb dX2_readPart_125 rfl (lv_at hl 1 rfl) ?_
              refine lv_iconst (v := 1) hx hb dX2_readPart_126 (by decide) ?_
              refine lv_aload_n hx hb dX2_readPart_127 rfl (lv_at hl 1 rfl) ?_
              refine tk_getP (D := (dC, dI)) (ci := 2) (v := .int v_85) (C := RX2) (T := TX2) (N := 10) hx hb hU inlX2 hown hK hP mo0 hfo_79 rfl 5 (by decide) (hU _ wd_256) (fun _ h9 => h9) rfl dX2_readPart_128 ?_
              refine tk_ViP (As := [.int 1, .int v_85]) (rest := []) (n := 2) hx hb hml hown hU hN hZ (s_X2_fail_k2 l (dC, dI) cI cL cZ cR cG cH Z kd L f_69 hG o0 mo0 ko0 1 v_85) wd_349 wd_350 wd_351 wd_33 wd_352 (by decide +kernel) ⟨Nat.le_of_ble_eq_true rfl, Nat.le_of_ble_eq_true rfl⟩ hK hP hD hS mo0 hfo_79 2 rfl rfl rfl hl.1 rfl (Nat.le_of_ble_eq_true rfl) dX2_readPart_131 ⟨Nat.le_of_ble_eq_true rfl, Nat.le_of_ble_eq_true rfl⟩ (fun x_97 f_98 H locs hw hP hD hS => ?_)
              obtain ⟨hG, bx_97, hkc_99, hfc_100, hfc_101, hfc_102, hfc_103, hrc_104, hrc_105⟩ := hw
              have hfo_107 : f_98 a_5 = .inl (cI, 600, .inl g_91) := by rw [hkc_99 a_5 (by rw [ka_5]; decide)]; exact hfo_90
              have hfr0 : ∀ b, kd b ≠ 2 → kd b ≠ 209 → kd b ≠ 562 → kd b ≠ 563 → f_98 b = f b := fun b q2 q209 q562 q563 => (hkc_99 b q2).trans (hfr0 b q2 q209 q562 q563)
              have hfr2_4 : ∀ b, kd b = 2 → fldI (f_98 b) 4 = fldI (f b) 4 := fun b kb => (hfc_100 b kb).trans (hfr2_4 b kb)
              have hfr2_7 : ∀ b, kd b = 2 → fldI (f_98 b) 7 = fldI (f b) 7 := fun b kb => (hfc_102 b kb).trans (hfr2_7 b kb)
              have hfr2_8 : ∀ b, kd b = 2 → fldI (f_98 b) 8 = fldI (f b) 8 := fun b kb => (hfc_103 b kb).trans (hfr2_8 b kb)
              have hrr2_0 : ∀ b, kd b = 2 → fldR (f_98 b) 0 = fldR (f b) 0 := fun b kb => (hrc_104 b kb).trans (hrr2_0 b kb)
              have hrr2_3 : ∀ b, kd b = 2 → fldR (f_98 b) 3 = fldR (f b) 3 := fun b kb => (hrc_105 b kb).trans (hrr2_3 b kb)
              obtain ⟨a_109, v_110, v_111, a_112, v_113, v_114, v_115, v_116, v_117, v_118, hfo_108, ⟨ma_109, ka_109⟩, ⟨ma_112, ka_112⟩, bv_113, bv_114, bv_115, bv_116, bv_117⟩ := un_2 (hG _ mo0) ko0
              have bv_110 : ((-2147483648) ≤ v_110.toInt ∧ v_110.toInt ≤ 2147483647) := ⟨i32_lo _, i32_hi _⟩
              have bv_111 : ((-2147483648) ≤ v_111.toInt ∧ v_111.toInt ≤ 2147483647) := ⟨i32_lo _, i32_hi _⟩
              have bv_118 : ((-2147483648) ≤ v_118.toInt ∧ v_118.toInt ≤ 2147483647) := ⟨i32_lo _, i32_hi _⟩
              obtain rfl : a_2 = a_109 := by have hk9 := hrr2_0 o0 ko0; rw [hfo_108, hfo_1] at hk9; exact (Option.some.inj hk9).symm
              obtain rfl : a_5 = a_112 := by have hk9 := hrr2_3 o0 ko0; rw [hfo_108, hfo_1] at hk9; exact (Option.some.inj hk9).symm
              obtain rfl : v_38 = v_113 := by have hk9 := hfc_100 o0 ko0; rw [hfo_108, hfo_79] at hk9; exact (Option.some.inj hk9).symm
              obtain rfl : v_85 = v_114 := by have hk9 := hfc_101 o0 ko0; rw [hfo_108, hfo_79] at hk9; exact (Option.some.inj hk9).symm
              obtain rfl : v_41 = v_116 := by have hk9 := hfc_102 o0 ko0; rw [hfo_108, hfo_79] at hk9; exact (Option.some.inj hk9).symm
              obtain rfl : v_42 = v_117 := by have hk9 := hfc_103 o0 ko0; rw [hfo_108, hfo_79] at hk9; exact (Option.some.inj hk9).symm
              refine lv_if_eq (tgt := 141) hx hb dX2_readPart_134 (by decide) (fun c_119 => ?_) (fun c_119 => ?_)
              · skip
                rw [← Int32.toInt_inj, ti_0] at c_119
                refine lv_iconst (v := 0) hx hb dX2_readPart_141 (by decide) ?_
                exact W.zret (v := 0) (ty := .boolean) hx hb hr rfl (fun t ht hW => ⟨⟨0, f_98, rfl, ⟨hG, (by decide), hfr0, hfr2_4, hfr2_7, hfr2_8, hrr2_0, hrr2_3, (by intro w5 z5 e5 d5; rw [hfo_1] at e5; rw [hfo_108] at d5; obtain rfl := Option.some.inj e5; obtain rfl := Option.some.inj d5; (try rw [ti_0]) <;> omega)⟩, by rw [ht]; exact hP, va_K.moved hW.alike hK, pl_in hD⟩, hS.F ht⟩) hS.2.2 dX2_readPart_142
              · skip
                rw [← Int32.toInt_inj, ti_0] at c_119
                exfalso
                omega
          · skip
            rw [← Int32.toInt_inj, ti_0] at c_95
            have hclc_120 : (0 ≤ v_85.toInt ∧ v_85.toInt ≤ 599) := by constructor <;> omega
            rcases hpkx_68 with hs9 | ex_68
            · exfalso; omega
            refine lv_aload_n hx hb dX2_readPart_47 rfl (lv_at hl 1 rfl) ?_
            refine tk_getP (D := (dC, dI)) (ci := 2) (v := .ref a_2) (C := RX2) (T := TX2) (N := 10) hx hb hU inlX2 hown hK hP mo0 hfo_79 rfl 0 (by decide) (hU _ wd_150) (fun _ h9 => h9) rfl dX2_readPart_48 ?_
            refine lv_aload_n hx hb dX2_readPart_51 rfl (lv_at hl 1 rfl) ?_
            refine tk_getP (D := (dC, dI)) (ci := 2) (v := .ref a_5) (C := RX2) (T := TX2) (N := 10) hx hb hU inlX2 hown hK hP mo0 hfo_79 rfl 3 (by decide) (hU _ wd_152) (fun _ h9 => h9) rfl dX2_readPart_52 ?_
            refine lv_aload_n hx hb dX2_readPart_55 rfl (lv_at hl 1 rfl) ?_
            refine tk_getP (D := (dC, dI)) (ci := 2) (v := .int v_85) (C := RX2) (T := TX2) (N := 10) hx hb hU inlX2 hown hK hP mo0 hfo_79 rfl 5 (by decide) (hU _ wd_256) (fun _ h9 => h9) rfl dX2_readPart_56 ?_
            refine tk_ildP hx hb hK hP 0 ma_5 hfo_90 rfl (vp_in_iff.mpr (by constructor <;> omega)) dX2_readPart_59 ?_
            refine tk_topi (y := x_68) ex_68.symm ?_
            obtain ⟨a_122, v_123, a_124, a_125, a_126, a_127, v_128, a_129, a_130, a_131, a_132, a_133, v_134, a_135, a_136, a_137, hfo_121, ⟨ma_122, ka_122⟩, bv_123, ⟨ma_124, ka_124⟩, ⟨ma_125, ka_125⟩, ⟨ma_126, ka_126⟩, ⟨ma_127, ka_127⟩, bv_128, ⟨ma_129, ka_129⟩, ⟨ma_130, ka_130⟩, ⟨ma_131, ka_131⟩, ⟨ma_132, ka_132⟩, ⟨ma_133, ka_133⟩, bv_134, ⟨ma_135, ka_135⟩, ⟨ma_136, ka_136⟩, ⟨ma_137, ka_137⟩⟩ := un_207 (hG _ ma_2) ka_2
            refine tk_ViP (As := [.int x_68]) (rest := []) (n := 1) hx hb hml hown hU hN hZ (s_X7_signOf_k207 l (dC, dI) cI cL cZ cR cG cH Z kd L f_69 hG a_2 ma_2 ka_2 x_68) wd_345 wd_346 wd_347 wd_28 wd_348 (by decide +kernel) ⟨Nat.le_of_ble_eq_true rfl, Nat.le_of_ble_eq_true rfl⟩ hK hP hD hS ma_2 hfo_121 7 rfl rfl rfl hl.1 rfl (Nat.le_of_ble_eq_true rfl) dX2_readPart_60 ⟨Nat.le_of_ble_eq_true rfl, Nat.le_of_ble_eq_true rfl⟩ (fun x_138 f_139 H locs hw hP hD hS => ?_)
            obtain ⟨rfl, bx_138⟩ := hw
            refine lv_istore (lv' := [(5, .int x_138), (4, .int y_30), (0, .ref o0), (1, .ref o1), (2, .int p2), (3, .int p3)]) hx hb dX2_readPart_63 hl (by decide) rfl (fun ls hl => ?_)
            refine lv_iload hx hb dX2_readPart_65 (lv_at hl 0 rfl) ?_
            refine lv_if_ne (tgt := 80) hx hb dX2_readPart_67 (by decide) (fun c_141 => ?_) (fun c_141 => ?_)
            · skip
              rw [← Int32.toInt_inj, ti_0] at c_141
              refine lv_iload hx hb dX2_readPart_80 (lv_at hl 1 rfl) ?_
              refine lv_bipush (v := 6) hx hb dX2_readPart_82 (by decide) ?_
              refine lv_icmp_ne (tgt := 97) hx hb dX2_readPart_84 (by decide) (fun c_142 => ?_) (fun c_142 => ?_)
              · skip
                rw [← Int32.toInt_inj, ti_6] at c_142
                refine lv_aload_n hx hb dX2_readPart_97 rfl (lv_at hl 3 rfl) ?_
                refine lv_iload hx hb dX2_readPart_98 (lv_at hl 0 rfl) ?_
                obtain ⟨a_144, a_145, v_146, hfo_143, ⟨ma_144, ka_144⟩, ⟨ma_145, ka_145⟩, bv_146⟩ := un_209 (hG _ mo1) ko1
                refine tk_VvP (As := [.int x_138]) (rest := []) (n := 1) hx hb hml hown hU hN hZ (s_X9_push_k209 l (dC, dI) cI cL cZ cR cG cH Z kd L f_69 hG o1 mo1 ko1 x_138 (by constructor <;> omega)) wd_477 wd_478 wd_479 wd_85 wd_480 (by decide +kernel) ⟨Nat.le_of_ble_eq_true rfl, Nat.le_of_ble_eq_true rfl⟩ hK hP hD hS mo1 hfo_143 9 rfl rfl rfl hl.1 rfl (Nat.le_of_ble_eq_true rfl) dX2_readPart_100 ⟨Nat.le_of_ble_eq_true rfl, Nat.le_of_ble_eq_true rfl⟩ (fun f_148 H locs hw hP hD hS => ?_)
                obtain ⟨hG, hkc_149⟩ := hw
                have hfo_151 : f_148 o0 = .inr (2, [.ref a_2, .int v_81, .int v_82, .ref a_5, .int v_38, .int v_85, .int v_86, .int v_41, .int v_42, .int v_89]) := by rw [hkc_149 o0 (by rw [ko0]; decide) (by rw [ko0]; decide)]; exact hfo_79
                have hfo_152 : f_148 a_5 = .inl (cI, 600, .inl g_91) := by rw [hkc_149 a_5 (by rw [ka_5]; decide) (by rw [ka_5]; decide)]; exact hfo_90
                have hfo_153 : f_148 a_2 = .inr (7, [.ref a_122, .int v_123, .ref a_124, .ref a_125, .ref a_126, .ref a_127, .int v_128, .ref a_129, .ref a_130, .ref a_131, .ref a_132, .ref a_133, .int v_134, .ref a_135, .ref a_136, .ref a_137]) := by rw [hkc_149 a_2 (by rw [ka_2]; decide) (by rw [ka_2]; decide)]; exact hfo_121
                have hfo_154 : f_148 o1 = .inr (9, [.ref a_144, .ref a_145, .int v_146]) := by rw [hkc_149 o1 (by rw [ko1]; decide) (by rw [ko1]; decide)]; exact hfo_143
                have hfr0 : ∀ b, kd b ≠ 2 → kd b ≠ 209 → kd b ≠ 562 → kd b ≠ 563 → f_148 b = f b := fun b q2 q209 q562 q563 => (hkc_149 b q562 q563).trans (hfr0 b q2 q209 q562 q563)
                have hfr2_4 : ∀ b, kd b = 2 → fldI (f_148 b) 4 = fldI (f b) 4 := fun b kb => (congrArg (fun x => fldI x 4) (hkc_149 b (by rw [kb]; decide) (by rw [kb]; decide))).trans (hfr2_4 b kb)
                have hfr2_7 : ∀ b, kd b = 2 → fldI (f_148 b) 7 = fldI (f b) 7 := fun b kb => (congrArg (fun x => fldI x 7) (hkc_149 b (by rw [kb]; decide) (by rw [kb]; decide))).trans (hfr2_7 b kb)
                have hfr2_8 : ∀ b, kd b = 2 → fldI (f_148 b) 8 = fldI (f b) 8 := fun b kb => (congrArg (fun x => fldI x 8) (hkc_149 b (by rw [kb]; decide) (by rw [kb]; decide))).trans (hfr2_8 b kb)
                have hrr2_0 : ∀ b, kd b = 2 → fldR (f_148 b) 0 = fldR (f b) 0 := fun b kb => (congrArg (fun x => fldR x 0) (hkc_149 b (by rw [kb]; decide) (by rw [kb]; decide))).trans (hrr2_0 b kb)
                have hrr2_3 : ∀ b, kd b = 2 → fldR (f_148 b) 3 = fldR (f b) 3 := fun b kb => (congrArg (fun x => fldR x 3) (hkc_149 b (by rw [kb]; decide) (by rw [kb]; decide))).trans (hrr2_3 b kb)
                refine lv_aload_n hx hb dX2_readPart_103 rfl (lv_at hl 2 rfl) ?_
                refine lv_dup hx hb dX2_readPart_104 rfl ?_
                refine tk_getP (D := (dC, dI)) (ci := 2) (v := .int v_85) (C := RX2) (T := TX2) (N := 10) hx hb hU inlX2 hown hK hP mo0 hfo_151 rfl 5 (by decide) (hU _ wd_256) (fun _ h9 => h9) rfl dX2_readPart_105 ?_
                refine lv_iconst (v := 1) hx hb dX2_readPart_108 (by decide) ?_
                refine lv_iadd hx hb dX2_readPart_109 ?_
                refine lv_topi (fun x_155 ex_155 => ?_)
                have hx_155 : x_155.toInt = v_85.toInt + 1 := by rw [ex_155, ad_I (by rw [ti_1]; omega) (by rw [ti_1]; omega), ti_1]
                have bx_155 : (1 ≤ x_155.toInt ∧ x_155.toInt ≤ 600) := by constructor <;> omega
                refine tk_putP (D := (dC, dI)) (ci := 2) (v := .int x_155) (ty := .int) (C := RX2) (T := TX2) (N := 10) hx hb hU inlX2 tyX2 tyX2_ok nmX2 hown hK hP hD hS mo0 hfo_151 rfl 5 (by decide) (hU _ wd_256) (fun _ h9 => h9) rfl (by decide +kernel) rfl rfl (Nat.le_of_ble_eq_true rfl) dX2_readPart_110 (fun H locs hP hD hS => ?_)
                obtain ⟨f_157, ef_157⟩ : ∃ y : Nat → va_E, y = va_up f_148 o0 (.inr (2, [.ref a_2, .int v_81, .int v_82, .ref a_5, .int v_38, .int x_155, .int v_86, .int v_41, .int v_42, .int v_89])) := ⟨_, rfl⟩
                have hP : va_P (dC, dI) vwCl (va_pl L f_157) H := by rw [ef_157]; exact hP
                have hD : va_D (fun q => q ∈ L) (va_pl L f_157) := by rw [ef_157]; exact hD
                have hG : GI (okc cI cL cZ cR cG cH L kd) kd L f_157 := by rw [ef_157]; exact hG.set o0 (mk_2 ko0 ⟨a_2, v_81, v_82, a_5, v_38, x_155, v_86, v_41, v_42, v_89, rfl, ⟨ma_2, ka_2⟩, ⟨ma_5, ka_5⟩, (by constructor <;> omega), (by constructor <;> omega), (by constructor <;> omega), (by constructor <;> omega), (by constructor <;> omega)⟩)
                have hfo_158 : f_157 a_5 = .inl (cI, 600, .inl g_91) := by rw [ef_157, up_ne (kd_ne ko0 ka_5 (by decide))]; exact hfo_152
                have hfo_159 : f_157 a_2 = .inr (7, [.ref a_122, .int v_123, .ref a_124, .ref a_125, .ref a_126, .ref a_127, .int v_128, .ref a_129, .ref a_130, .ref a_131, .ref a_132, .ref a_133, .int v_134, .ref a_135, .ref a_136, .ref a_137]) := by rw [ef_157, up_ne (kd_ne ko0 ka_2 (by decide))]; exact hfo_153
                have hfo_160 : f_157 o1 = .inr (9, [.ref a_144, .ref a_145, .int v_146]) := by rw [ef_157, up_ne (kd_ne ko0 ko1 (by decide))]; exact hfo_154
                have hfr0 : ∀ b, kd b ≠ 2 → kd b ≠ 209 → kd b ≠ 562 → kd b ≠ 563 → f_157 b = f b := fun b q2 q209 q562 q563 => (congrFun ef_157 b).trans ((up_ne (fun e9 => q2 (by rw [e9]; exact ko0))).trans (hfr0 b q2 q209 q562 q563))
                have hfr2_4 : ∀ b, kd b = 2 → fldI (f_157 b) 4 = fldI (f b) 4 := fun b kb => ((congrArg (fun x => fldI x 4) (congrFun ef_157 b)).trans (fk_up (by rw [hfo_151]; rfl) b)).trans (hfr2_4 b kb)
                have hfr2_7 : ∀ b, kd b = 2 → fldI (f_157 b) 7 = fldI (f b) 7 := fun b kb => ((congrArg (fun x => fldI x 7) (congrFun ef_157 b)).trans (fk_up (by rw [hfo_151]; rfl) b)).trans (hfr2_7 b kb)
                have hfr2_8 : ∀ b, kd b = 2 → fldI (f_157 b) 8 = fldI (f b) 8 := fun b kb => ((congrArg (fun x => fldI x 8) (congrFun ef_157 b)).trans (fk_up (by rw [hfo_151]; rfl) b)).trans (hfr2_8 b kb)
                have hrr2_0 : ∀ b, kd b = 2 → fldR (f_157 b) 0 = fldR (f b) 0 := fun b kb => ((congrArg (fun x => fldR x 0) (congrFun ef_157 b)).trans (fr_up (by rw [hfo_151]; rfl) b)).trans (hrr2_0 b kb)
                have hrr2_3 : ∀ b, kd b = 2 → fldR (f_157 b) 3 = fldR (f b) 3 := fun b kb => ((congrArg (fun x => fldR x 3) (congrFun ef_157 b)).trans (fr_up (by rw [hfo_151]; rfl) b)).trans (hrr2_3 b kb)
                have hfo_161 : f_157 o0 = .inr (2, [.ref a_2, .int v_81, .int v_82, .ref a_5, .int v_38, .int x_155, .int v_86, .int v_41, .int v_42, .int v_89]) := by rw [ef_157]; exact up_self
                obtain ⟨x_162, ex_162⟩ : ∃ y : Int32, y_30 + 1 = y := ⟨_, rfl⟩
                have hx_162 : x_162.toInt = y_30.toInt + 1 := by rw [← ex_162, ad_I (by rw [ti_1]; omega) (by rw [ti_1]; omega), ti_1]
                have bx_162 : (1 ≤ x_162.toInt ∧ x_162.toInt ≤ 6) := by constructor <;> omega
                refine lv_iinc (v := x_162) (lv' := [(4, .int x_162), (5, .int x_138), (0, .ref o0), (1, .ref o1), (2, .int p2), (3, .int p3)]) hx hb dX2_readPart_113 hl (k := 1) rfl ex_162 (by decide) rfl (fun ls hl => ?_)
                refine lv_goto (tgt := 26) hx hb dX2_readPart_116 (by decide) ?_
                exact ih_hloop_29 x_162 (by constructor <;> omega) f_157 hG _ _ hP hS hD hfr0 hfr2_4 hfr2_7 hfr2_8 hrr2_0 hrr2_3 x_155 (by rw [hfo_161]; rfl) (by omega) (by omega) (by omega) ls (lv_sub hl [0, 2, 3, 4, 5] rfl)
              · skip
                rw [← Int32.toInt_inj, ti_6] at c_142
                refine lv_aload_n hx hb dX2_readPart_87 rfl (lv_at hl 2 rfl) ?_
                refine lv_iconst (v := 3) hx hb dX2_readPart_88 (by decide) ?_
                refine lv_aload_n hx hb dX2_readPart_89 rfl (lv_at hl 2 rfl) ?_
                refine tk_getP (D := (dC, dI)) (ci := 2) (v := .int v_85) (C := RX2) (T := TX2) (N := 10) hx hb hU inlX2 hown hK hP mo0 hfo_79 rfl 5 (by decide) (hU _ wd_256) (fun _ h9 => h9) rfl dX2_readPart_90 ?_
                refine tk_ViP (As := [.int 3, .int v_85]) (rest := []) (n := 2) hx hb hml hown hU hN hZ (s_X2_fail_k2 l (dC, dI) cI cL cZ cR cG cH Z kd L f_69 hG o0 mo0 ko0 3 v_85) wd_349 wd_350 wd_351 wd_33 wd_352 (by decide +kernel) ⟨Nat.le_of_ble_eq_true rfl, Nat.le_of_ble_eq_true rfl⟩ hK hP hD hS mo0 hfo_79 2 rfl rfl rfl hl.1 rfl (Nat.le_of_ble_eq_true rfl) dX2_readPart_93 ⟨Nat.le_of_ble_eq_true rfl, Nat.le_of_ble_eq_true rfl⟩ (fun x_163 f_164 H locs hw hP hD hS => ?_)
                obtain ⟨hG, bx_163, hkc_165, hfc_166, hfc_167, hfc_168, hfc_169, hrc_170, hrc_171⟩ := hw
                have hfo_173 : f_164 a_5 = .inl (cI, 600, .inl g_91) := by rw [hkc_165 a_5 (by rw [ka_5]; decide)]; exact hfo_90
                have hfo_174 : f_164 a_2 = .inr (7, [.ref a_122, .int v_123, .ref a_124, .ref a_125, .ref a_126, .ref a_127, .int v_128, .ref a_129, .ref a_130, .ref a_131, .ref a_132, .ref a_133, .int v_134, .ref a_135, .ref a_136, .ref a_137]) := by rw [hkc_165 a_2 (by rw [ka_2]; decide)]; exact hfo_121
                have hfr0 : ∀ b, kd b ≠ 2 → kd b ≠ 209 → kd b ≠ 562 → kd b ≠ 563 → f_164 b = f b := fun b q2 q209 q562 q563 => (hkc_165 b q2).trans (hfr0 b q2 q209 q562 q563)
                have hfr2_4 : ∀ b, kd b = 2 → fldI (f_164 b) 4 = fldI (f b) 4 := fun b kb => (hfc_166 b kb).trans (hfr2_4 b kb)
                have hfr2_7 : ∀ b, kd b = 2 → fldI (f_164 b) 7 = fldI (f b) 7 := fun b kb => (hfc_168 b kb).trans (hfr2_7 b kb)
                have hfr2_8 : ∀ b, kd b = 2 → fldI (f_164 b) 8 = fldI (f b) 8 := fun b kb => (hfc_169 b kb).trans (hfr2_8 b kb)
                have hrr2_0 : ∀ b, kd b = 2 → fldR (f_164 b) 0 = fldR (f b) 0 := fun b kb => (hrc_170 b kb).trans (hrr2_0 b kb)
                have hrr2_3 : ∀ b, kd b = 2 → fldR (f_164 b) 3 = fldR (f b) 3 := fun b kb => (hrc_171 b kb).trans (hrr2_3 b kb)
                obtain ⟨a_176, v_177, v_178, a_179, v_180, v_181, v_182, v_183, v_184, v_185, hfo_175, ⟨ma_176, ka_176⟩, ⟨ma_179, ka_179⟩, bv_180, bv_181, bv_182, bv_183, bv_184⟩ := un_2 (hG _ mo0) ko0
                have bv_177 : ((-2147483648) ≤ v_177.toInt ∧ v_177.toInt ≤ 2147483647) := ⟨i32_lo _, i32_hi _⟩
                have bv_178 : ((-2147483648) ≤ v_178.toInt ∧ v_178.toInt ≤ 2147483647) := ⟨i32_lo _, i32_hi _⟩
                have bv_185 : ((-2147483648) ≤ v_185.toInt ∧ v_185.toInt ≤ 2147483647) := ⟨i32_lo _, i32_hi _⟩
                obtain rfl : a_2 = a_176 := by have hk9 := hrr2_0 o0 ko0; rw [hfo_175, hfo_1] at hk9; exact (Option.some.inj hk9).symm
                obtain rfl : a_5 = a_179 := by have hk9 := hrr2_3 o0 ko0; rw [hfo_175, hfo_1] at hk9; exact (Option.some.inj hk9).symm
                obtain rfl : v_38 = v_180 := by have hk9 := hfc_166 o0 ko0; rw [hfo_175, hfo_79] at hk9; exact (Option.some.inj hk9).symm
                obtain rfl : v_85 = v_181 := by have hk9 := hfc_167 o0 ko0; rw [hfo_175, hfo_79] at hk9; exact (Option.some.inj hk9).symm
                obtain rfl : v_41 = v_183 := by have hk9 := hfc_168 o0 ko0; rw [hfo_175, hfo_79] at hk9; exact (Option.some.inj hk9).symm
                obtain rfl : v_42 = v_184 := by have hk9 := hfc_169 o0 ko0; rw [hfo_175, hfo_79] at hk9; exact (Option.some.inj hk9).symm
                exact W.zret (v := x_163) (ty := .boolean) hx hb hr (zb_n (by constructor <;> omega)) (fun t ht hW => ⟨⟨x_163, f_164, rfl, ⟨hG, (by constructor <;> omega), hfr0, hfr2_4, hfr2_7, hfr2_8, hrr2_0, hrr2_3, (by intro w5 z5 e5 d5; rw [hfo_1] at e5; rw [hfo_175] at d5; obtain rfl := Option.some.inj e5; obtain rfl := Option.some.inj d5; omega)⟩, by rw [ht]; exact hP, va_K.moved hW.alike hK, pl_in hD⟩, hS.F ht⟩) hS.2.2 dX2_readPart_96
            · skip
              rw [← Int32.toInt_inj, ti_0] at c_141
              refine lv_aload_n hx hb dX2_readPart_70 rfl (lv_at hl 2 rfl) ?_
              refine lv_iconst (v := 2) hx hb dX2_readPart_71 (by decide) ?_
              refine lv_aload_n hx hb dX2_readPart_72 rfl (lv_at hl 2 rfl) ?_
              refine tk_getP (D := (dC, dI)) (ci := 2) (v := .int v_85) (C := RX2) (T := TX2) (N := 10) hx hb hU inlX2 hown hK hP mo0 hfo_79 rfl 5 (by decide) (hU _ wd_256) (fun _ h9 => h9) rfl dX2_readPart_73 ?_
              refine tk_ViP (As := [.int 2, .int v_85]) (rest := []) (n := 2) hx hb hml hown hU hN hZ (s_X2_fail_k2 l (dC, dI) cI cL cZ cR cG cH Z kd L f_69 hG o0 mo0 ko0 2 v_85) wd_349 wd_350 wd_351 wd_33 wd_352 (by decide +kernel) ⟨Nat.le_of_ble_eq_true rfl, Nat.le_of_ble_eq_true rfl⟩ hK hP hD hS mo0 hfo_79 2 rfl rfl rfl hl.1 rfl (Nat.le_of_ble_eq_true rfl) dX2_readPart_76 ⟨Nat.le_of_ble_eq_true rfl, Nat.le_of_ble_eq_true rfl⟩ (fun x_186 f_187 H locs hw hP hD hS => ?_)
              obtain ⟨hG, bx_186, hkc_188, hfc_189, hfc_190, hfc_191, hfc_192, hrc_193, hrc_194⟩ := hw
              have hfo_196 : f_187 a_5 = .inl (cI, 600, .inl g_91) := by rw [hkc_188 a_5 (by rw [ka_5]; decide)]; exact hfo_90
              have hfo_197 : f_187 a_2 = .inr (7, [.ref a_122, .int v_123, .ref a_124, .ref a_125, .ref a_126, .ref a_127, .int v_128, .ref a_129, .ref a_130, .ref a_131, .ref a_132, .ref a_133, .int v_134, .ref a_135, .ref a_136, .ref a_137]) := by rw [hkc_188 a_2 (by rw [ka_2]; decide)]; exact hfo_121
              have hfr0 : ∀ b, kd b ≠ 2 → kd b ≠ 209 → kd b ≠ 562 → kd b ≠ 563 → f_187 b = f b := fun b q2 q209 q562 q563 => (hkc_188 b q2).trans (hfr0 b q2 q209 q562 q563)
              have hfr2_4 : ∀ b, kd b = 2 → fldI (f_187 b) 4 = fldI (f b) 4 := fun b kb => (hfc_189 b kb).trans (hfr2_4 b kb)
              have hfr2_7 : ∀ b, kd b = 2 → fldI (f_187 b) 7 = fldI (f b) 7 := fun b kb => (hfc_191 b kb).trans (hfr2_7 b kb)
              have hfr2_8 : ∀ b, kd b = 2 → fldI (f_187 b) 8 = fldI (f b) 8 := fun b kb => (hfc_192 b kb).trans (hfr2_8 b kb)
              have hrr2_0 : ∀ b, kd b = 2 → fldR (f_187 b) 0 = fldR (f b) 0 := fun b kb => (hrc_193 b kb).trans (hrr2_0 b kb)
              have hrr2_3 : ∀ b, kd b = 2 → fldR (f_187 b) 3 = fldR (f b) 3 := fun b kb => (hrc_194 b kb).trans (hrr2_3 b kb)
              obtain ⟨a_199, v_200, v_201, a_202, v_203, v_204, v_205, v_206, v_207, v_208, hfo_198, ⟨ma_199, ka_199⟩, ⟨ma_202, ka_202⟩, bv_203, bv_204, bv_205, bv_206, bv_207⟩ := un_2 (hG _ mo0) ko0
              have bv_200 : ((-2147483648) ≤ v_200.toInt ∧ v_200.toInt ≤ 2147483647) := ⟨i32_lo _, i32_hi _⟩
              have bv_201 : ((-2147483648) ≤ v_201.toInt ∧ v_201.toInt ≤ 2147483647) := ⟨i32_lo _, i32_hi _⟩
              have bv_208 : ((-2147483648) ≤ v_208.toInt ∧ v_208.toInt ≤ 2147483647) := ⟨i32_lo _, i32_hi _⟩
              obtain rfl : a_2 = a_199 := by have hk9 := hrr2_0 o0 ko0; rw [hfo_198, hfo_1] at hk9; exact (Option.some.inj hk9).symm
              obtain rfl : a_5 = a_202 := by have hk9 := hrr2_3 o0 ko0; rw [hfo_198, hfo_1] at hk9; exact (Option.some.inj hk9).symm
              obtain rfl : v_38 = v_203 := by have hk9 := hfc_189 o0 ko0; rw [hfo_198, hfo_79] at hk9; exact (Option.some.inj hk9).symm
              obtain rfl : v_85 = v_204 := by have hk9 := hfc_190 o0 ko0; rw [hfo_198, hfo_79] at hk9; exact (Option.some.inj hk9).symm
              obtain rfl : v_41 = v_206 := by have hk9 := hfc_191 o0 ko0; rw [hfo_198, hfo_79] at hk9; exact (Option.some.inj hk9).symm
              obtain rfl : v_42 = v_207 := by have hk9 := hfc_192 o0 ko0; rw [hfo_198, hfo_79] at hk9; exact (Option.some.inj hk9).symm
              exact W.zret (v := x_186) (ty := .boolean) hx hb hr (zb_n (by constructor <;> omega)) (fun t ht hW => ⟨⟨x_186, f_187, rfl, ⟨hG, (by constructor <;> omega), hfr0, hfr2_4, hfr2_7, hfr2_8, hrr2_0, hrr2_3, (by intro w5 z5 e5 d5; rw [hfo_1] at e5; rw [hfo_198] at d5; obtain rfl := Option.some.inj e5; obtain rfl := Option.some.inj d5; omega)⟩, by rw [ht]; exact hP, va_K.moved hW.alike hK, pl_in hD⟩, hS.F ht⟩) hS.2.2 dX2_readPart_79
    exact hloop_29 601 0 (by decide) f_20 hG _ _ hP hS hD hfr0 hfr2_4 hfr2_7 hfr2_8 hrr2_0 hrr2_3 v_7 (by rw [hfo_23]; rfl) (by (try rw [ti_0]) <;> omega) (by (try rw [ti_0]) <;> omega) (by (try rw [ti_0]) <;> omega) ls hl
  · skip
    rw [← Int32.toInt_inj, ti_12] at c_18
    refine lv_aload_n hx hb dX2_readPart_12 rfl (lv_at hl 0 rfl) ?_
    refine lv_iconst (v := 3) hx hb dX2_readPart_13 (by decide) ?_
    refine lv_iload_n hx hb dX2_readPart_14 rfl (lv_at hl 2 rfl) ?_
    refine tk_ViP (As := [.int 3, .int p2]) (rest := []) (n := 2) hx hb hml hown hU hN hZ (s_X2_fail_k2 l (dC, dI) cI cL cZ cR cG cH Z kd L f hG o0 mo0 ko0 3 p2) wd_349 wd_350 wd_351 wd_33 wd_352 (by decide +kernel) ⟨Nat.le_of_ble_eq_true rfl, Nat.le_of_ble_eq_true rfl⟩ hK hP hD hS mo0 hfo_1 2 rfl rfl rfl hl.1 rfl (Nat.le_of_ble_eq_true rfl) dX2_readPart_15 ⟨Nat.le_of_ble_eq_true rfl, Nat.le_of_ble_eq_true rfl⟩ (fun x_209 f_210 H locs hw hP hD hS => ?_)
    obtain ⟨hG, bx_209, hkc_211, hfc_212, hfc_213, hfc_214, hfc_215, hrc_216, hrc_217⟩ := hw
    have hfo_219 : f_210 o1 = .inr (9, [.ref a_13, .ref a_14, .int v_15]) := by rw [hkc_211 o1 (by rw [ko1]; decide)]; exact hfo_12
    have hfo_220 : f_210 a_14 = .inl (cI, 12, .inl g_17) := by rw [hkc_211 a_14 (by rw [ka_14]; decide)]; exact hfo_16
    have hfr0 : ∀ b, kd b ≠ 2 → kd b ≠ 209 → kd b ≠ 562 → kd b ≠ 563 → f_210 b = f b := fun b q2 q209 q562 q563 => (hkc_211 b q2).trans (hfr0 b q2 q209 q562 q563)
    have hfr2_4 : ∀ b, kd b = 2 → fldI (f_210 b) 4 = fldI (f b) 4 := fun b kb => (hfc_212 b kb).trans (hfr2_4 b kb)
    have hfr2_7 : ∀ b, kd b = 2 → fldI (f_210 b) 7 = fldI (f b) 7 := fun b kb => (hfc_214 b kb).trans (hfr2_7 b kb)
    have hfr2_8 : ∀ b, kd b = 2 → fldI (f_210 b) 8 = fldI (f b) 8 := fun b kb => (hfc_215 b kb).trans (hfr2_8 b kb)
    have hrr2_0 : ∀ b, kd b = 2 → fldR (f_210 b) 0 = fldR (f b) 0 := fun b kb => (hrc_216 b kb).trans (hrr2_0 b kb)
    have hrr2_3 : ∀ b, kd b = 2 → fldR (f_210 b) 3 = fldR (f b) 3 := fun b kb => (hrc_217 b kb).trans (hrr2_3 b kb)
    obtain ⟨a_222, v_223, v_224, a_225, v_226, v_227, v_228, v_229, v_230, v_231, hfo_221, ⟨ma_222, ka_222⟩, ⟨ma_225, ka_225⟩, bv_226, bv_227, bv_228, bv_229, bv_230⟩ := un_2 (hG _ mo0) ko0
    have bv_223 : ((-2147483648) ≤ v_223.toInt ∧ v_223.toInt ≤ 2147483647) := ⟨i32_lo _, i32_hi _⟩
    have bv_224 : ((-2147483648) ≤ v_224.toInt ∧ v_224.toInt ≤ 2147483647) := ⟨i32_lo _, i32_hi _⟩
    have bv_231 : ((-2147483648) ≤ v_231.toInt ∧ v_231.toInt ≤ 2147483647) := ⟨i32_lo _, i32_hi _⟩
    obtain rfl : a_2 = a_222 := by have hk9 := hrr2_0 o0 ko0; rw [hfo_221, hfo_1] at hk9; exact (Option.some.inj hk9).symm
    obtain rfl : a_5 = a_225 := by have hk9 := hrr2_3 o0 ko0; rw [hfo_221, hfo_1] at hk9; exact (Option.some.inj hk9).symm
    obtain rfl : v_6 = v_226 := by have hk9 := hfc_212 o0 ko0; rw [hfo_221, hfo_1] at hk9; exact (Option.some.inj hk9).symm
    obtain rfl : v_7 = v_227 := by have hk9 := hfc_213 o0 ko0; rw [hfo_221, hfo_1] at hk9; exact (Option.some.inj hk9).symm
    obtain rfl : v_9 = v_229 := by have hk9 := hfc_214 o0 ko0; rw [hfo_221, hfo_1] at hk9; exact (Option.some.inj hk9).symm
    obtain rfl : v_10 = v_230 := by have hk9 := hfc_215 o0 ko0; rw [hfo_221, hfo_1] at hk9; exact (Option.some.inj hk9).symm
    exact W.zret (v := x_209) (ty := .boolean) hx hb hr (zb_n (by constructor <;> omega)) (fun t ht hW => ⟨⟨x_209, f_210, rfl, ⟨hG, (by constructor <;> omega), hfr0, hfr2_4, hfr2_7, hfr2_8, hrr2_0, hrr2_3, (by intro w5 z5 e5 d5; rw [hfo_1] at e5; rw [hfo_221] at d5; obtain rfl := Option.some.inj e5; obtain rfl := Option.some.inj d5; omega)⟩, by rw [ht]; exact hP, va_K.moved hW.alike hK, pl_in hD⟩, hS.F ht⟩) hS.2.2 dX2_readPart_18
set_option maxHeartbeats 8000000 in
set_option maxRecDepth 100000 in
theorem s_X2_readPart_k2_k213 (l : Launch) (D : va_G) (cI cL cZ cR cG cH : ClassId) (Z : zT) (kd : Nat → Nat) (L : List Nat) (f : Nat → va_E) (hG : GI (okc cI cL cZ cR cG cH L kd) kd L f) (o0 : Nat) (mo0 : o0 ∈ L) (ko0 : kd o0 = 2) (o1 : Nat) (mo1 : o1 ∈ L) (ko1 : kd o1 = 213) (p2 : Int32) (p3 : Int32) : mPI l D cI cL cZ cR cG cH Z yX2_readPart cX2_readPart 6 (some .boolean) 1 22 [.ref o0, .ref o1, .int p2, .int p3] L f (fun (r : Int32) (f9 : Nat → va_E) => GI (okc cI cL cZ cR cG cH L kd) kd L f9 ∧ (0 ≤ r.toInt ∧ r.toInt ≤ 1) ∧ (∀ b, kd b ≠ 2 → kd b ≠ 213 → kd b ≠ 564 → kd b ≠ 565 → f9 b = f b) ∧ (∀ b, kd b = 2 → fldI (f9 b) 4 = fldI (f b) 4) ∧ (∀ b, kd b = 2 → fldI (f9 b) 7 = fldI (f b) 7) ∧ (∀ b, kd b = 2 → fldI (f9 b) 8 = fldI (f b) 8) ∧ (∀ b, kd b = 2 → fldR (f9 b) 0 = fldR (f b) 0) ∧ (∀ b, kd b = 2 → fldR (f9 b) 3 = fldR (f b) 3) ∧ (∀ (w5 z5 : Int32), fldI (f o0) 5 = some w5 → fldI (f9 o0) 5 = some z5 → w5.toInt ≤ z5.toInt)) := by
  obtain ⟨dC, dI⟩ := D
  refine Met.ofW (cc := cX2_readPart) (maxL := 6) (ret := (some .boolean)) (by decide) rfl ?_
  intro p e s m args below meth c s₁ B hml hv
  obtain ⟨rfl, hP, hK, hD0, hN, hZ⟩ := hv
  have hx := B.exec
  have hb := B.bytes
  have hr := B.returns
  have hU : ∀ w ∈ wsU, w.before _ s = true := fun w h => atoms_spec (ws := wU yX2_readPart cX2_readPart 6 (some .boolean)) B.pre w (List.mem_cons_of_mem _ h)
  have hown : s.vm.findClass RX2 = some m.cls := findClass_of_methodNamed B.named
  have hlocks := B.notSynchronized
  have hD := pl_in hD0
  have hS : va_S (fun q => q ∈ L) s.heap s.heap [] := va_S.rf
  have hl := lv_entry ([.ref o0, .ref o1, .int p2, .int p3]) (n := 6) (Nat.le_of_ble_eq_true rfl)
  rw [lg_entry_eq]
  generalize (lg_sl ([.ref o0, .ref o1, .int p2, .int p3]) ++ List.replicate (6 - (lg_sl ([.ref o0, .ref o1, .int p2, .int p3])).length) Slot.unset).toArray = ls at hl ⊢
  have hl : lv_has ls 6 [(0, .ref o0), (1, .ref o1), (2, .int p2), (3, .int p3)] := hl
  have bp2 : ((-2147483648) ≤ p2.toInt ∧ p2.toInt ≤ 2147483647) := ⟨i32_lo _, i32_hi _⟩
  have bp3 : ((-2147483648) ≤ p3.toInt ∧ p3.toInt ≤ 2147483647) := ⟨i32_lo _, i32_hi _⟩
  have hfr0 : ∀ b, kd b ≠ 2 → kd b ≠ 213 → kd b ≠ 564 → kd b ≠ 565 → f b = f b := fun _ _ _ _ _ => rfl
  have hfr2_4 : ∀ b, kd b = 2 → fldI (f b) 4 = fldI (f b) 4 := fun _ _ => rfl
  have hfr2_7 : ∀ b, kd b = 2 → fldI (f b) 7 = fldI (f b) 7 := fun _ _ => rfl
  have hfr2_8 : ∀ b, kd b = 2 → fldI (f b) 8 = fldI (f b) 8 := fun _ _ => rfl
  have hrr2_0 : ∀ b, kd b = 2 → fldR (f b) 0 = fldR (f b) 0 := fun _ _ => rfl
  have hrr2_3 : ∀ b, kd b = 2 → fldR (f b) 3 = fldR (f b) 3 := fun _ _ => rfl
  obtain ⟨a_2, v_3, v_4, a_5, v_6, v_7, v_8, v_9, v_10, v_11, hfo_1, ⟨ma_2, ka_2⟩, ⟨ma_5, ka_5⟩, bv_6, bv_7, bv_8, bv_9, bv_10⟩ := un_2 (hG _ mo0) ko0
  have bv_3 : ((-2147483648) ≤ v_3.toInt ∧ v_3.toInt ≤ 2147483647) := ⟨i32_lo _, i32_hi _⟩
  have bv_4 : ((-2147483648) ≤ v_4.toInt ∧ v_4.toInt ≤ 2147483647) := ⟨i32_lo _, i32_hi _⟩
  have bv_11 : ((-2147483648) ≤ v_11.toInt ∧ v_11.toInt ≤ 2147483647) := ⟨i32_lo _, i32_hi _⟩
  refine lv_aload_n hx hb dX2_readPart_0 rfl (lv_at hl 1 rfl) ?_
  obtain ⟨a_13, a_14, v_15, hfo_12, ⟨ma_13, ka_13⟩, ⟨ma_14, ka_14⟩, bv_15⟩ := un_213 (hG _ mo1) ko1
  refine tk_getP (D := (dC, dI)) (ci := 9) (v := .int v_15) (C := RX9) (T := TX9) (N := 3) hx hb hU inlX9 hown hK hP mo1 hfo_12 rfl 2 (by decide) (hU _ wd_471) (fun _ h9 => h9) rfl dX2_readPart_1 ?_
  refine lv_aload_n hx hb dX2_readPart_4 rfl (lv_at hl 1 rfl) ?_
  refine tk_getP (D := (dC, dI)) (ci := 9) (v := .ref a_14) (C := RX9) (T := TX9) (N := 3) hx hb hU inlX9 hown hK hP mo1 hfo_12 rfl 1 (by decide) (hU _ wd_472) (fun _ h9 => h9) rfl dX2_readPart_5 ?_
  obtain ⟨g_17, hfo_16, hbg_17⟩ := un_565 (hG _ ma_14) ka_14
  refine tk_alenP (v := 8) hx hb hK hP 0 ma_14 hfo_16 rfl rfl dX2_readPart_8 ?_
  refine lv_icmp_ne (tgt := 19) hx hb dX2_readPart_9 (by decide) (fun c_18 => ?_) (fun c_18 => ?_)
  · skip
    rw [← Int32.toInt_inj, ti_8] at c_18
    refine lv_aload_n hx hb dX2_readPart_19 rfl (lv_at hl 1 rfl) ?_
    refine tk_VvP (As := []) (rest := []) (n := 0) hx hb hml hown hU hN hZ (s_X9_open_k213 l (dC, dI) cI cL cZ cR cG cH Z kd L f hG o1 mo1 ko1) wd_473 wd_474 wd_475 wd_85 wd_476 (by decide +kernel) ⟨Nat.le_of_ble_eq_true rfl, Nat.le_of_ble_eq_true rfl⟩ hK hP hD hS mo1 hfo_12 9 rfl rfl rfl hl.1 rfl (Nat.le_of_ble_eq_true rfl) dX2_readPart_20 ⟨Nat.le_of_ble_eq_true rfl, Nat.le_of_ble_eq_true rfl⟩ (fun f_20 H locs hw hP hD hS => ?_)
    obtain ⟨hG, hkc_21⟩ := hw
    have hfo_23 : f_20 o0 = .inr (2, [.ref a_2, .int v_3, .int v_4, .ref a_5, .int v_6, .int v_7, .int v_8, .int v_9, .int v_10, .int v_11]) := by rw [hkc_21 o0 (by rw [ko0]; decide) (by rw [ko0]; decide)]; exact hfo_1
    have hfr0 : ∀ b, kd b ≠ 2 → kd b ≠ 213 → kd b ≠ 564 → kd b ≠ 565 → f_20 b = f b := fun b q2 q213 q564 q565 => (hkc_21 b q213 q565).trans (hfr0 b q2 q213 q564 q565)
    have hfr2_4 : ∀ b, kd b = 2 → fldI (f_20 b) 4 = fldI (f b) 4 := fun b kb => (congrArg (fun x => fldI x 4) (hkc_21 b (by rw [kb]; decide) (by rw [kb]; decide))).trans (hfr2_4 b kb)
    have hfr2_7 : ∀ b, kd b = 2 → fldI (f_20 b) 7 = fldI (f b) 7 := fun b kb => (congrArg (fun x => fldI x 7) (hkc_21 b (by rw [kb]; decide) (by rw [kb]; decide))).trans (hfr2_7 b kb)
    have hfr2_8 : ∀ b, kd b = 2 → fldI (f_20 b) 8 = fldI (f b) 8 := fun b kb => (congrArg (fun x => fldI x 8) (hkc_21 b (by rw [kb]; decide) (by rw [kb]; decide))).trans (hfr2_8 b kb)
    have hrr2_0 : ∀ b, kd b = 2 → fldR (f_20 b) 0 = fldR (f b) 0 := fun b kb => (congrArg (fun x => fldR x 0) (hkc_21 b (by rw [kb]; decide) (by rw [kb]; decide))).trans (hrr2_0 b kb)
    have hrr2_3 : ∀ b, kd b = 2 → fldR (f_20 b) 3 = fldR (f b) 3 := fun b kb => (congrArg (fun x => fldR x 3) (hkc_21 b (by rw [kb]; decide) (by rw [kb]; decide))).trans (hrr2_3 b kb)
    refine lv_iconst (v := 0) hx hb dX2_readPart_23 (by decide) ?_
    refine lv_istore (lv' := [(4, .int 0), (0, .ref o0), (1, .ref o1), (2, .int p2), (3, .int p3)]) hx hb dX2_readPart_24 hl (by decide) rfl (fun ls hl => ?_)
    have hloop_29 : ∀ (n : Nat), ∀ (y_30 : Int32), (0 ≤ y_30.toInt ∧ y_30.toInt ≤ 6) → ∀ (f_32 : Nat → va_E), GI (okc cI cL cZ cR cG cH L kd) kd L f_32 → ∀ (H : Heap) (locs : List Loc), va_P (dC, dI) vwCl (va_pl L f_32) H → va_S (fun q => q ∈ L) s.heap H locs → va_D (fun q => q ∈ L) (va_pl L f_32) → (∀ b, kd b ≠ 2 → kd b ≠ 213 → kd b ≠ 564 → kd b ≠ 565 → f_32 b = f b) → (∀ b, kd b = 2 → fldI (f_32 b) 4 = fldI (f b) 4) → (∀ b, kd b = 2 → fldI (f_32 b) 7 = fldI (f b) 7) → (∀ b, kd b = 2 → fldI (f_32 b) 8 = fldI (f b) 8) → (∀ b, kd b = 2 → fldR (f_32 b) 0 = fldR (f b) 0) → (∀ b, kd b = 2 → fldR (f_32 b) 3 = fldR (f b) 3) → ∀ (whloop_29_0_5 : Int32), fldI (f_32 o0) 5 = some whloop_29_0_5 → (v_7.toInt ≤ whloop_29_0_5.toInt) → (0 ≤ whloop_29_0_5.toInt ∧ whloop_29_0_5.toInt ≤ 600) → 600 - whloop_29_0_5.toInt < (n : Int) → ∀ (ls : Array Slot), lv_has ls 6 [(4, .int y_30), (0, .ref o0), (1, .ref o1), (2, .int p2), (3, .int p3)] → W p l e (headSpec (wU yX2_readPart cX2_readPart 6 (some .boolean)) { frames := 1, cells := 0, slots := 0, locals := 22 }).room s m [.ref o0, .ref o1, .int p2, .int p3].toArray below meth c H locs 0 0 (MQ below (va_Qi (fun (r : Int32) (f9 : Nat → va_E) => GI (okc cI cL cZ cR cG cH L kd) kd L f9 ∧ (0 ≤ r.toInt ∧ r.toInt ≤ 1) ∧ (∀ b, kd b ≠ 2 → kd b ≠ 213 → kd b ≠ 564 → kd b ≠ 565 → f9 b = f b) ∧ (∀ b, kd b = 2 → fldI (f9 b) 4 = fldI (f b) 4) ∧ (∀ b, kd b = 2 → fldI (f9 b) 7 = fldI (f b) 7) ∧ (∀ b, kd b = 2 → fldI (f9 b) 8 = fldI (f b) 8) ∧ (∀ b, kd b = 2 → fldR (f9 b) 0 = fldR (f b) 0) ∧ (∀ b, kd b = 2 → fldR (f9 b) 3 = fldR (f b) 3) ∧ (∀ (w5 z5 : Int32), fldI (f o0) 5 = some w5 → fldI (f9 o0) 5 = some z5 → w5.toInt ≤ z5.toInt)) (qP (dC, dI) cI cL cZ cR cG cH L) (fun q => q ∈ L)) [.ref o0, .ref o1, .int p2, .int p3].toArray s 0 0 (fun q => q ∈ L)) (F0 m 26 ls []) := by
      intro n
      induction n with
      | zero => intro y_30 by_30 f_32 hG H locs hP hS hD hfr0 hfr2_4 hfr2_7 hfr2_8 hrr2_0 hrr2_3 whloop_29_0_5 hghloop_29_0_5 hrelhloop_29_0 hrelhloop_29_1 hmuhloop_29 ls hl; exfalso; omega
      | succ n ih_hloop_29 =>
        intro y_30 by_30 f_32 hG H locs hP hS hD hfr0 hfr2_4 hfr2_7 hfr2_8 hrr2_0 hrr2_3 whloop_29_0_5 hghloop_29_0_5 hrelhloop_29_0 hrelhloop_29_1 hmuhloop_29 ls hl
        obtain ⟨a_34, v_35, v_36, a_37, v_38, v_39, v_40, v_41, v_42, v_43, hfo_33, ⟨ma_34, ka_34⟩, ⟨ma_37, ka_37⟩, bv_38, bv_39, bv_40, bv_41, bv_42⟩ := un_2 (hG _ mo0) ko0
        have bv_35 : ((-2147483648) ≤ v_35.toInt ∧ v_35.toInt ≤ 2147483647) := ⟨i32_lo _, i32_hi _⟩
        have bv_36 : ((-2147483648) ≤ v_36.toInt ∧ v_36.toInt ≤ 2147483647) := ⟨i32_lo _, i32_hi _⟩
        have bv_43 : ((-2147483648) ≤ v_43.toInt ∧ v_43.toInt ≤ 2147483647) := ⟨i32_lo _, i32_hi _⟩
        obtain rfl : a_2 = a_34 := by have hk9 := hrr2_0 o0 ko0; rw [hfo_33, hfo_1] at hk9; exact (Option.some.inj hk9).symm
        obtain rfl : a_5 = a_37 := by have hk9 := hrr2_3 o0 ko0; rw [hfo_33, hfo_1] at hk9; exact (Option.some.inj hk9).symm
        obtain rfl : v_39 = whloop_29_0_5 := by rw [hfo_33] at hghloop_29_0_5; exact Option.some.inj hghloop_29_0_5
        refine lv_aload_n hx hb dX2_readPart_26 rfl (lv_at hl 1 rfl) ?_
        refine tk_getP (D := (dC, dI)) (ci := 2) (v := .int v_39) (C := RX2) (T := TX2) (N := 10) hx hb hU inlX2 hown hK hP mo0 hfo_33 rfl 5 (by decide) (hU _ wd_256) (fun _ h9 => h9) rfl dX2_readPart_27 ?_
        refine lv_aload_n hx hb dX2_readPart_30 rfl (lv_at hl 1 rfl) ?_
        refine tk_getP (D := (dC, dI)) (ci := 2) (v := .int v_38) (C := RX2) (T := TX2) (N := 10) hx hb hU inlX2 hown hK hP mo0 hfo_33 rfl 4 (by decide) (hU _ wd_251) (fun _ h9 => h9) rfl dX2_readPart_31 ?_
        refine lv_icmp_ge (tgt := 119) hx hb dX2_readPart_34 (by decide) (fun c_44 => ?_) (fun c_44 => ?_)
        · skip
          rw [Int32.le_iff_toInt_le] at c_44
          refine lv_iload hx hb dX2_readPart_119 (lv_at hl 0 rfl) ?_
          refine lv_iload_n hx hb dX2_readPart_121 rfl (lv_at hl 4 rfl) ?_
          refine lv_icmp_ge (tgt := 137) hx hb dX2_readPart_122 (by decide) (fun c_45 => ?_) (fun c_45 => ?_)
          · skip
            rw [Int32.le_iff_toInt_le] at c_45
            refine lv_iconst (v := 1) hx hb dX2_readPart_137 (by decide) ?_
            refine lv_goto (tgt := 142) hx hb dX2_readPart_138 (by decide) ?_
            exact W.zret (v := 1) (ty := .boolean) hx hb hr rfl (fun t ht hW => ⟨⟨1, f_32, rfl, ⟨hG, (by decide), hfr0, hfr2_4, hfr2_7, hfr2_8, hrr2_0, hrr2_3, (by intro w5 z5 e5 d5; rw [hfo_1] at e5; rw [hfo_33] at d5; obtain rfl := Option.some.inj e5; obtain rfl := Option.some.inj d5; (try rw [ti_1]) <;> omega)⟩, by rw [ht]; exact hP, va_K.moved hW.alike hK, pl_in hD⟩, hS.F ht⟩) hS.2.2 dX2_readPart_142
          · skip
            rw [Int32.le_iff_toInt_le] at c_45
            refine lv_aload_n hx hb dX2_readPart_125 rfl (lv_at hl 1 rfl) ?_
            refine lv_iconst (v := 1) hx hb dX2_readPart_126 (by decide) ?_
            refine lv_aload_n hx hb dX2_readPart_127 rfl (lv_at hl 1 rfl) ?_
            refine tk_getP (D := (dC, dI)) (ci := 2) (v := .int v_39) (C := RX2) (T := TX2) (N := 10) hx hb hU inlX2 hown hK hP mo0 hfo_33 rfl 5 (by decide) (hU _ wd_256) (fun _ h9 => h9) rfl dX2_readPart_128 ?_
            refine tk_ViP (As := [.int 1, .int v_39]) (rest := []) (n := 2) hx hb hml hown hU hN hZ (s_X2_fail_k2 l (dC, dI) cI cL cZ cR cG cH Z kd L f_32 hG o0 mo0 ko0 1 v_39) wd_349 wd_350 wd_351 wd_33 wd_352 (by decide +kernel) ⟨Nat.le_of_ble_eq_true rfl, Nat.le_of_ble_eq_true rfl⟩ hK hP hD hS mo0 hfo_33 2 rfl rfl rfl hl.1 rfl (Nat.le_of_ble_eq_true rfl) dX2_readPart_131 ⟨Nat.le_of_ble_eq_true rfl, Nat.le_of_ble_eq_true rfl⟩ (fun x_46 f_47 H locs hw hP hD hS => ?_)
            obtain ⟨hG, bx_46, hkc_48, hfc_49, hfc_50, hfc_51, hfc_52, hrc_53, hrc_54⟩ := hw
            have hfr0 : ∀ b, kd b ≠ 2 → kd b ≠ 213 → kd b ≠ 564 → kd b ≠ 565 → f_47 b = f b := fun b q2 q213 q564 q565 => (hkc_48 b q2).trans (hfr0 b q2 q213 q564 q565)
            have hfr2_4 : ∀ b, kd b = 2 → fldI (f_47 b) 4 = fldI (f b) 4 := fun b kb => (hfc_49 b kb).trans (hfr2_4 b kb)
            have hfr2_7 : ∀ b, kd b = 2 → fldI (f_47 b) 7 = fldI (f b) 7 := fun b kb => (hfc_51 b kb).trans (hfr2_7 b kb)
            have hfr2_8 : ∀ b, kd b = 2 → fldI (f_47 b) 8 = fldI (f b) 8 := fun b kb => (hfc_52 b kb).trans (hfr2_8 b kb)
            have hrr2_0 : ∀ b, kd b = 2 → fldR (f_47 b) 0 = fldR (f b) 0 := fun b kb => (hrc_53 b kb).trans (hrr2_0 b kb)
            have hrr2_3 : ∀ b, kd b = 2 → fldR (f_47 b) 3 = fldR (f b) 3 := fun b kb => (hrc_54 b kb).trans (hrr2_3 b kb)
            obtain ⟨a_57, v_58, v_59, a_60, v_61, v_62, v_63, v_64, v_65, v_66, hfo_56, ⟨ma_57, ka_57⟩, ⟨ma_60, ka_60⟩, bv_61, bv_62, bv_63, bv_64, bv_65⟩ := un_2 (hG _ mo0) ko0
            have bv_58 : ((-2147483648) ≤ v_58.toInt ∧ v_58.toInt ≤ 2147483647) := ⟨i32_lo _, i32_hi _⟩
            have bv_59 : ((-2147483648) ≤ v_59.toInt ∧ v_59.toInt ≤ 2147483647) := ⟨i32_lo _, i32_hi _⟩
            have bv_66 : ((-2147483648) ≤ v_66.toInt ∧ v_66.toInt ≤ 2147483647) := ⟨i32_lo _, i32_hi _⟩
            obtain rfl : a_2 = a_57 := by have hk9 := hrr2_0 o0 ko0; rw [hfo_56, hfo_1] at hk9; exact (Option.some.inj hk9).symm
            obtain rfl : a_5 = a_60 := by have hk9 := hrr2_3 o0 ko0; rw [hfo_56, hfo_1] at hk9; exact (Option.some.inj hk9).symm
            obtain rfl : v_38 = v_61 := by have hk9 := hfc_49 o0 ko0; rw [hfo_56, hfo_33] at hk9; exact (Option.some.inj hk9).symm
            obtain rfl : v_39 = v_62 := by have hk9 := hfc_50 o0 ko0; rw [hfo_56, hfo_33] at hk9; exact (Option.some.inj hk9).symm
            obtain rfl : v_41 = v_64 := by have hk9 := hfc_51 o0 ko0; rw [hfo_56, hfo_33] at hk9; exact (Option.some.inj hk9).symm
            obtain rfl : v_42 = v_65 := by have hk9 := hfc_52 o0 ko0; rw [hfo_56, hfo_33] at hk9; exact (Option.some.inj hk9).symm
            refine lv_if_eq (tgt := 141) hx hb dX2_readPart_134 (by decide) (fun c_67 => ?_) (fun c_67 => ?_)
            · skip
              rw [← Int32.toInt_inj, ti_0] at c_67
              refine lv_iconst (v := 0) hx hb dX2_readPart_141 (by decide) ?_
              exact W.zret (v := 0) (ty := .boolean) hx hb hr rfl (fun t ht hW => ⟨⟨0, f_47, rfl, ⟨hG, (by decide), hfr0, hfr2_4, hfr2_7, hfr2_8, hrr2_0, hrr2_3, (by intro w5 z5 e5 d5; rw [hfo_1] at e5; rw [hfo_56] at d5; obtain rfl := Option.some.inj e5; obtain rfl := Option.some.inj d5; (try rw [ti_0]) <;> omega)⟩, by rw [ht]; exact hP, va_K.moved hW.alike hK, pl_in hD⟩, hS.F ht⟩) hS.2.2 dX2_readPart_142
            · skip
              rw [← Int32.toInt_inj, ti_0] at c_67
              exfalso
              omega
        · skip
          rw [Int32.le_iff_toInt_le] at c_44
          refine lv_aload_n hx hb dX2_readPart_37 rfl (lv_at hl 1 rfl) ?_
          refine tk_ViP (As := []) (rest := []) (n := 0) hx hb hml hown hU hN hZ (s_X2_peek_k2 l (dC, dI) cI cL cZ cR cG cH Z kd L f_32 hG o0 mo0 ko0) wd_274 wd_275 wd_276 wd_33 wd_277 (by decide +kernel) ⟨Nat.le_of_ble_eq_true rfl, Nat.le_of_ble_eq_true rfl⟩ hK hP hD hS mo0 hfo_33 2 rfl rfl rfl hl.1 rfl (Nat.le_of_ble_eq_true rfl) dX2_readPart_38 ⟨Nat.le_of_ble_eq_true rfl, Nat.le_of_ble_eq_true rfl⟩ (fun x_68 f_69 H locs hw hP hD hS => ?_)
          obtain ⟨hG, bx_68, hkc_70, hfc_71, hfc_72, hfc_73, hrc_74, hrc_75, hpost_76, hxp_77⟩ := hw
          have hfr0 : ∀ b, kd b ≠ 2 → kd b ≠ 213 → kd b ≠ 564 → kd b ≠ 565 → f_69 b = f b := fun b q2 q213 q564 q565 => (hkc_70 b q2).trans (hfr0 b q2 q213 q564 q565)
          have hfr2_4 : ∀ b, kd b = 2 → fldI (f_69 b) 4 = fldI (f b) 4 := fun b kb => (hfc_71 b kb).trans (hfr2_4 b kb)
          have hfr2_7 : ∀ b, kd b = 2 → fldI (f_69 b) 7 = fldI (f b) 7 := fun b kb => (hfc_72 b kb).trans (hfr2_7 b kb)
          have hfr2_8 : ∀ b, kd b = 2 → fldI (f_69 b) 8 = fldI (f b) 8 := fun b kb => (hfc_73 b kb).trans (hfr2_8 b kb)
          have hrr2_0 : ∀ b, kd b = 2 → fldR (f_69 b) 0 = fldR (f b) 0 := fun b kb => (hrc_74 b kb).trans (hrr2_0 b kb)
          have hrr2_3 : ∀ b, kd b = 2 → fldR (f_69 b) 3 = fldR (f b) 3 := fun b kb => (hrc_75 b kb).trans (hrr2_3 b kb)
          obtain ⟨a_80, v_81, v_82, a_83, v_84, v_85, v_86, v_87, v_88, v_89, hfo_79, ⟨ma_80, ka_80⟩, ⟨ma_83, ka_83⟩, bv_84, bv_85, bv_86, bv_87, bv_88⟩ := un_2 (hG _ mo0) ko0
          have bv_81 : ((-2147483648) ≤ v_81.toInt ∧ v_81.toInt ≤ 2147483647) := ⟨i32_lo _, i32_hi _⟩
          have bv_82 : ((-2147483648) ≤ v_82.toInt ∧ v_82.toInt ≤ 2147483647) := ⟨i32_lo _, i32_hi _⟩
          have bv_89 : ((-2147483648) ≤ v_89.toInt ∧ v_89.toInt ≤ 2147483647) := ⟨i32_lo _, i32_hi _⟩
          obtain rfl : a_2 = a_80 := by have hk9 := hrr2_0 o0 ko0; rw [hfo_79, hfo_1] at hk9; exact (Option.some.inj hk9).symm
          obtain rfl : a_5 = a_83 := by have hk9 := hrr2_3 o0 ko0; rw [hfo_79, hfo_1] at hk9; exact (Option.some.inj hk9).symm
          obtain rfl : v_38 = v_84 := by have hk9 := hfc_71 o0 ko0; rw [hfo_79, hfo_33] at hk9; exact (Option.some.inj hk9).symm
          obtain rfl : v_41 = v_87 := by have hk9 := hfc_72 o0 ko0; rw [hfo_79, hfo_33] at hk9; exact (Option.some.inj hk9).symm
          obtain rfl : v_42 = v_88 := by have hk9 := hfc_73 o0 ko0; rw [hfo_79, hfo_33] at hk9; exact (Option.some.inj hk9).symm
          have hqhpost_76 := hpost_76 v_39 v_85 (by rw [hfo_33]; rfl) (by rw [hfo_79]; rfl)
          obtain ⟨g_91, hfo_90, hbg_91⟩ := un_533 (hG _ ma_5) ka_5
          have hpkx_68 := hxp_77 a_5 g_91 v_85 (by rw [hfo_79]; rfl) hfo_90 (by rw [hfo_79]; rfl)
          refine tk_SiP (As := [.int x_68]) (rest := []) (n := 1) hx hb hml hown hU hN hZ (s_X2_isSmall l (dC, dI) cI cL cZ cR cG cH Z kd L f_69 hG x_68) wd_284 wd_285 wd_33 wd_286 (by decide +kernel) ⟨Nat.le_of_ble_eq_true rfl, Nat.le_of_ble_eq_true rfl⟩ hK hP hD hS rfl hl.1 rfl (Nat.le_of_ble_eq_true rfl) dX2_readPart_41 ⟨Nat.le_of_ble_eq_true rfl, Nat.le_of_ble_eq_true rfl⟩ (fun x_92 f_93 H locs hw hP hD hS => ?_)
          obtain ⟨rfl, bx_92, relx_92⟩ := hw
          refine lv_if_eq (tgt := 119) hx hb dX2_readPart_44 (by decide) (fun c_95 => ?_) (fun c_95 => ?_)
          · skip
            rw [← Int32.toInt_inj, ti_0] at c_95
            refine lv_iload hx hb dX2_readPart_119 (lv_at hl 0 rfl) ?_
            refine lv_iload_n hx hb dX2_readPart_121 rfl (lv_at hl 4 rfl) ?_
            refine lv_icmp_ge (tgt := 137) hx hb dX2_readPart_122 (by decide) (fun c_96 => ?_) (fun c_96 => ?_)
            · skip
              rw [Int32.le_iff_toInt_le] at c_96
              refine lv_iconst (v := 1) hx hb dX2_readPart_137 (by decide) ?_
              refine lv_goto (tgt := 142) hx hb dX2_readPart_138 (by decide) ?_
              exact W.zret (v := 1) (ty := .boolean) hx hb hr rfl (fun t ht hW => ⟨⟨1, f_69, rfl, ⟨hG, (by decide), hfr0, hfr2_4, hfr2_7, hfr2_8, hrr2_0, hrr2_3, (by intro w5 z5 e5 d5; rw [hfo_1] at e5; rw [hfo_79] at d5; obtain rfl := Option.some.inj e5; obtain rfl := Option.some.inj d5; (try rw [ti_1]) <;> omega)⟩, by rw [ht]; exact hP, va_K.moved hW.alike hK, pl_in hD⟩, hS.F ht⟩) hS.2.2 dX2_readPart_142
            · skip
              rw [Int32.le_iff_toInt_le] at c_96
              refine lv_aload_n hx hb dX2_readPart_125 rfl (lv_at hl 1 rfl) ?_
              refine lv_iconst (v := 1) hx hb dX2_readPart_126 (by decide) ?_
              refine lv_aload_n hx hb dX2_readPart_127 rfl (lv_at hl 1 rfl) ?_
              refine tk_getP (D := (dC, dI)) (ci := 2) (v := .int v_85) (C := RX2) (T := TX2) (N := 10) hx hb hU inlX2 hown hK hP mo0 hfo_79 rfl 5 (by decide) (hU _ wd_256) (fun _ h9 => h9) rfl dX2_readPart_128 ?_
              refine tk_ViP (As := [.int 1, .int v_85]) (rest := []) (n := 2) hx hb hml hown hU hN hZ (s_X2_fail_k2 l (dC, dI) cI cL cZ cR cG cH Z kd L f_69 hG o0 mo0 ko0 1 v_85) wd_349 wd_350 wd_351 wd_33 wd_352 (by decide +kernel) ⟨Nat.le_of_ble_eq_true rfl, Nat.le_of_ble_eq_true rfl⟩ hK hP hD hS mo0 hfo_79 2 rfl rfl rfl hl.1 rfl (Nat.le_of_ble_eq_true rfl) dX2_readPart_131 ⟨Nat.le_of_ble_eq_true rfl, Nat.le_of_ble_eq_true rfl⟩ (fun x_97 f_98 H locs hw hP hD hS => ?_)
              obtain ⟨hG, bx_97, hkc_99, hfc_100, hfc_101, hfc_102, hfc_103, hrc_104, hrc_105⟩ := hw
              have hfo_107 : f_98 a_5 = .inl (cI, 600, .inl g_91) := by rw [hkc_99 a_5 (by rw [ka_5]; decide)]; exact hfo_90
              have hfr0 : ∀ b, kd b ≠ 2 → kd b ≠ 213 → kd b ≠ 564 → kd b ≠ 565 → f_98 b = f b := fun b q2 q213 q564 q565 => (hkc_99 b q2).trans (hfr0 b q2 q213 q564 q565)
              have hfr2_4 : ∀ b, kd b = 2 → fldI (f_98 b) 4 = fldI (f b) 4 := fun b kb => (hfc_100 b kb).trans (hfr2_4 b kb)
              have hfr2_7 : ∀ b, kd b = 2 → fldI (f_98 b) 7 = fldI (f b) 7 := fun b kb => (hfc_102 b kb).trans (hfr2_7 b kb)
              have hfr2_8 : ∀ b, kd b = 2 → fldI (f_98 b) 8 = fldI (f b) 8 := fun b kb => (hfc_103 b kb).trans (hfr2_8 b kb)
              have hrr2_0 : ∀ b, kd b = 2 → fldR (f_98 b) 0 = fldR (f b) 0 := fun b kb => (hrc_104 b kb).trans (hrr2_0 b kb)
              have hrr2_3 : ∀ b, kd b = 2 → fldR (f_98 b) 3 = fldR (f b) 3 := fun b kb => (hrc_105 b kb).trans (hrr2_3 b kb)
              obtain ⟨a_109, v_110, v_111, a_112, v_113, v_114, v_115, v_116, v_117, v_118, hfo_108, ⟨ma_109, ka_109⟩, ⟨ma_112, ka_112⟩, bv_113, bv_114, bv_115, bv_116, bv_117⟩ := un_2 (hG _ mo0) ko0
              have bv_110 : ((-2147483648) ≤ v_110.toInt ∧ v_110.toInt ≤ 2147483647) := ⟨i32_lo _, i32_hi _⟩
              have bv_111 : ((-2147483648) ≤ v_111.toInt ∧ v_111.toInt ≤ 2147483647) := ⟨i32_lo _, i32_hi _⟩
              have bv_118 : ((-2147483648) ≤ v_118.toInt ∧ v_118.toInt ≤ 2147483647) := ⟨i32_lo _, i32_hi _⟩
              obtain rfl : a_2 = a_109 := by have hk9 := hrr2_0 o0 ko0; rw [hfo_108, hfo_1] at hk9; exact (Option.some.inj hk9).symm
              obtain rfl : a_5 = a_112 := by have hk9 := hrr2_3 o0 ko0; rw [hfo_108, hfo_1] at hk9; exact (Option.some.inj hk9).symm
              obtain rfl : v_38 = v_113 := by have hk9 := hfc_100 o0 ko0; rw [hfo_108, hfo_79] at hk9; exact (Option.some.inj hk9).symm
              obtain rfl : v_85 = v_114 := by have hk9 := hfc_101 o0 ko0; rw [hfo_108, hfo_79] at hk9; exact (Option.some.inj hk9).symm
              obtain rfl : v_41 = v_116 := by have hk9 := hfc_102 o0 ko0; rw [hfo_108, hfo_79] at hk9; exact (Option.some.inj hk9).symm
              obtain rfl : v_42 = v_117 := by have hk9 := hfc_103 o0 ko0; rw [hfo_108, hfo_79] at hk9; exact (Option.some.inj hk9).symm
              refine lv_if_eq (tgt := 141) hx hb dX2_readPart_134 (by decide) (fun c_119 => ?_) (fun c_119 => ?_)
              · skip
                rw [← Int32.toInt_inj, ti_0] at c_119
                refine lv_iconst (v := 0) hx hb dX2_readPart_141 (by decide) ?_
                exact W.zret (v := 0) (ty := .boolean) hx hb hr rfl (fun t ht hW => ⟨⟨0, f_98, rfl, ⟨hG, (by decide), hfr0, hfr2_4, hfr2_7, hfr2_8, hrr2_0, hrr2_3, (by intro w5 z5 e5 d5; rw [hfo_1] at e5; rw [hfo_108] at d5; obtain rfl := Option.some.inj e5; obtain rfl := Option.some.inj d5; (try rw [ti_0]) <;> omega)⟩, by rw [ht]; exact hP, va_K.moved hW.alike hK, pl_in hD⟩, hS.F ht⟩) hS.2.2 dX2_readPart_142
              · skip
                rw [← Int32.toInt_inj, ti_0] at c_119
                exfalso
                omega
          · skip
            rw [← Int32.toInt_inj, ti_0] at c_95
            have hclc_120 : (0 ≤ v_85.toInt ∧ v_85.toInt ≤ 599) := by constructor <;> omega
            rcases hpkx_68 with hs9 | ex_68
            · exfalso; omega
            refine lv_aload_n hx hb dX2_readPart_47 rfl (lv_at hl 1 rfl) ?_
            refine tk_getP (D := (dC, dI)) (ci := 2) (v := .ref a_2) (C := RX2) (T := TX2) (N := 10) hx hb hU inlX2 hown hK hP mo0 hfo_79 rfl 0 (by decide) (hU _ wd_150) (fun _ h9 => h9) rfl dX2_readPart_48 ?_
            refine lv_aload_n hx hb dX2_readPart_51 rfl (lv_at hl 1 rfl) ?_
            refine tk_getP (D := (dC, dI)) (ci := 2) (v := .ref a_5) (C := RX2) (T := TX2) (N := 10) hx hb hU inlX2 hown hK hP mo0 hfo_79 rfl 3 (by decide) (hU _ wd_152) (fun _ h9 => h9) rfl dX2_readPart_52 ?_
            refine lv_aload_n hx hb dX2_readPart_55 rfl (lv_at hl 1 rfl) ?_
            refine tk_getP (D := (dC, dI)) (ci := 2) (v := .int v_85) (C := RX2) (T := TX2) (N := 10) hx hb hU inlX2 hown hK hP mo0 hfo_79 rfl 5 (by decide) (hU _ wd_256) (fun _ h9 => h9) rfl dX2_readPart_56 ?_
            refine tk_ildP hx hb hK hP 0 ma_5 hfo_90 rfl (vp_in_iff.mpr (by constructor <;> omega)) dX2_readPart_59 ?_
            refine tk_topi (y := x_68) ex_68.symm ?_
            obtain ⟨a_122, v_123, a_124, a_125, a_126, a_127, v_128, a_129, a_130, a_131, a_132, a_133, v_134, a_135, a_136, a_137, hfo_121, ⟨ma_122, ka_122⟩, bv_123, ⟨ma_124, ka_124⟩, ⟨ma_125, ka_125⟩, ⟨ma_126, ka_126⟩, ⟨ma_127, ka_127⟩, bv_128, ⟨ma_129, ka_129⟩, ⟨ma_130, ka_130⟩, ⟨ma_131, ka_131⟩, ⟨ma_132, ka_132⟩, ⟨ma_133, ka_133⟩, bv_134, ⟨ma_135, ka_135⟩, ⟨ma_136, ka_136⟩, ⟨ma_137, ka_137⟩⟩ := un_207 (hG _ ma_2) ka_2
            refine tk_ViP (As := [.int x_68]) (rest := []) (n := 1) hx hb hml hown hU hN hZ (s_X7_signOf_k207 l (dC, dI) cI cL cZ cR cG cH Z kd L f_69 hG a_2 ma_2 ka_2 x_68) wd_345 wd_346 wd_347 wd_28 wd_348 (by decide +kernel) ⟨Nat.le_of_ble_eq_true rfl, Nat.le_of_ble_eq_true rfl⟩ hK hP hD hS ma_2 hfo_121 7 rfl rfl rfl hl.1 rfl (Nat.le_of_ble_eq_true rfl) dX2_readPart_60 ⟨Nat.le_of_ble_eq_true rfl, Nat.le_of_ble_eq_true rfl⟩ (fun x_138 f_139 H locs hw hP hD hS => ?_)
            obtain ⟨rfl, bx_138⟩ := hw
            refine lv_istore (lv' := [(5, .int x_138), (4, .int y_30), (0, .ref o0), (1, .ref o1), (2, .int p2), (3, .int p3)]) hx hb dX2_readPart_63 hl (by decide) rfl (fun ls hl => ?_)
            refine lv_iload hx hb dX2_readPart_65 (lv_at hl 0 rfl) ?_
            refine lv_if_ne (tgt := 80) hx hb dX2_readPart_67 (by decide) (fun c_141 => ?_) (fun c_141 => ?_)
            · skip
              rw [← Int32.toInt_inj, ti_0] at c_141
              refine lv_iload hx hb dX2_readPart_80 (lv_at hl 1 rfl) ?_
              refine lv_bipush (v := 6) hx hb dX2_readPart_82 (by decide) ?_
              refine lv_icmp_ne (tgt := 97) hx hb dX2_readPart_84 (by decide) (fun c_142 => ?_) (fun c_142 => ?_)
              · skip
                rw [← Int32.toInt_inj, ti_6] at c_142
                refine lv_aload_n hx hb dX2_readPart_97 rfl (lv_at hl 3 rfl) ?_
                refine lv_iload hx hb dX2_readPart_98 (lv_at hl 0 rfl) ?_
                obtain ⟨a_144, a_145, v_146, hfo_143, ⟨ma_144, ka_144⟩, ⟨ma_145, ka_145⟩, bv_146⟩ := un_213 (hG _ mo1) ko1
                refine tk_VvP (As := [.int x_138]) (rest := []) (n := 1) hx hb hml hown hU hN hZ (s_X9_push_k213 l (dC, dI) cI cL cZ cR cG cH Z kd L f_69 hG o1 mo1 ko1 x_138 (by constructor <;> omega)) wd_477 wd_478 wd_479 wd_85 wd_480 (by decide +kernel) ⟨Nat.le_of_ble_eq_true rfl, Nat.le_of_ble_eq_true rfl⟩ hK hP hD hS mo1 hfo_143 9 rfl rfl rfl hl.1 rfl (Nat.le_of_ble_eq_true rfl) dX2_readPart_100 ⟨Nat.le_of_ble_eq_true rfl, Nat.le_of_ble_eq_true rfl⟩ (fun f_148 H locs hw hP hD hS => ?_)
                obtain ⟨hG, hkc_149⟩ := hw
                have hfo_151 : f_148 o0 = .inr (2, [.ref a_2, .int v_81, .int v_82, .ref a_5, .int v_38, .int v_85, .int v_86, .int v_41, .int v_42, .int v_89]) := by rw [hkc_149 o0 (by rw [ko0]; decide) (by rw [ko0]; decide)]; exact hfo_79
                have hfo_152 : f_148 a_5 = .inl (cI, 600, .inl g_91) := by rw [hkc_149 a_5 (by rw [ka_5]; decide) (by rw [ka_5]; decide)]; exact hfo_90
                have hfo_153 : f_148 a_2 = .inr (7, [.ref a_122, .int v_123, .ref a_124, .ref a_125, .ref a_126, .ref a_127, .int v_128, .ref a_129, .ref a_130, .ref a_131, .ref a_132, .ref a_133, .int v_134, .ref a_135, .ref a_136, .ref a_137]) := by rw [hkc_149 a_2 (by rw [ka_2]; decide) (by rw [ka_2]; decide)]; exact hfo_121
                have hfo_154 : f_148 o1 = .inr (9, [.ref a_144, .ref a_145, .int v_146]) := by rw [hkc_149 o1 (by rw [ko1]; decide) (by rw [ko1]; decide)]; exact hfo_143
                have hfr0 : ∀ b, kd b ≠ 2 → kd b ≠ 213 → kd b ≠ 564 → kd b ≠ 565 → f_148 b = f b := fun b q2 q213 q564 q565 => (hkc_149 b q564 q565).trans (hfr0 b q2 q213 q564 q565)
                have hfr2_4 : ∀ b, kd b = 2 → fldI (f_148 b) 4 = fldI (f b) 4 := fun b kb => (congrArg (fun x => fldI x 4) (hkc_149 b (by rw [kb]; decide) (by rw [kb]; decide))).trans (hfr2_4 b kb)
                have hfr2_7 : ∀ b, kd b = 2 → fldI (f_148 b) 7 = fldI (f b) 7 := fun b kb => (congrArg (fun x => fldI x 7) (hkc_149 b (by rw [kb]; decide) (by rw [kb]; decide))).trans (hfr2_7 b kb)
                have hfr2_8 : ∀ b, kd b = 2 → fldI (f_148 b) 8 = fldI (f b) 8 := fun b kb => (congrArg (fun x => fldI x 8) (hkc_149 b (by rw [kb]; decide) (by rw [kb]; decide))).trans (hfr2_8 b kb)
                have hrr2_0 : ∀ b, kd b = 2 → fldR (f_148 b) 0 = fldR (f b) 0 := fun b kb => (congrArg (fun x => fldR x 0) (hkc_149 b (by rw [kb]; decide) (by rw [kb]; decide))).trans (hrr2_0 b kb)
                have hrr2_3 : ∀ b, kd b = 2 → fldR (f_148 b) 3 = fldR (f b) 3 := fun b kb => (congrArg (fun x => fldR x 3) (hkc_149 b (by rw [kb]; decide) (by rw [kb]; decide))).trans (hrr2_3 b kb)
                refine lv_aload_n hx hb dX2_readPart_103 rfl (lv_at hl 2 rfl) ?_
                refine lv_dup hx hb dX2_readPart_104 rfl ?_
                refine tk_getP (D := (dC, dI)) (ci := 2) (v := .int v_85) (C := RX2) (T := TX2) (N := 10) hx hb hU inlX2 hown hK hP mo0 hfo_151 rfl 5 (by decide) (hU _ wd_256) (fun _ h9 => h9) rfl dX2_readPart_105 ?_
                refine lv_iconst (v := 1) hx hb dX2_readPart_108 (by decide) ?_
                refine lv_iadd hx hb dX2_readPart_109 ?_
                refine lv_topi (fun x_155 ex_155 => ?_)
                have hx_155 : x_155.toInt = v_85.toInt + 1 := by rw [ex_155, ad_I (by rw [ti_1]; omega) (by rw [ti_1]; omega), ti_1]
                have bx_155 : (1 ≤ x_155.toInt ∧ x_155.toInt ≤ 600) := by constructor <;> omega
                refine tk_putP (D := (dC, dI)) (ci := 2) (v := .int x_155) (ty := .int) (C := RX2) (T := TX2) (N := 10) hx hb hU inlX2 tyX2 tyX2_ok nmX2 hown hK hP hD hS mo0 hfo_151 rfl 5 (by decide) (hU _ wd_256) (fun _ h9 => h9) rfl (by decide +kernel) rfl rfl (Nat.le_of_ble_eq_true rfl) dX2_readPart_110 (fun H locs hP hD hS => ?_)
                obtain ⟨f_157, ef_157⟩ : ∃ y : Nat → va_E, y = va_up f_148 o0 (.inr (2, [.ref a_2, .int v_81, .int v_82, .ref a_5, .int v_38, .int x_155, .int v_86, .int v_41, .int v_42, .int v_89])) := ⟨_, rfl⟩
                have hP : va_P (dC, dI) vwCl (va_pl L f_157) H := by rw [ef_157]; exact hP
                have hD : va_D (fun q => q ∈ L) (va_pl L f_157) := by rw [ef_157]; exact hD
                have hG : GI (okc cI cL cZ cR cG cH L kd) kd L f_157 := by rw [ef_157]; exact hG.set o0 (mk_2 ko0 ⟨a_2, v_81, v_82, a_5, v_38, x_155, v_86, v_41, v_42, v_89, rfl, ⟨ma_2, ka_2⟩, ⟨ma_5, ka_5⟩, (by constructor <;> omega), (by constructor <;> omega), (by constructor <;> omega), (by constructor <;> omega), (by constructor <;> omega)⟩)
                have hfo_158 : f_157 a_5 = .inl (cI, 600, .inl g_91) := by rw [ef_157, up_ne (kd_ne ko0 ka_5 (by decide))]; exact hfo_152
                have hfo_159 : f_157 a_2 = .inr (7, [.ref a_122, .int v_123, .ref a_124, .ref a_125, .ref a_126, .ref a_127, .int v_128, .ref a_129, .ref a_130, .ref a_131, .ref a_132, .ref a_133, .int v_134, .ref a_135, .ref a_136, .ref a_137]) := by rw [ef_157, up_ne (kd_ne ko0 ka_2 (by decide))]; exact hfo_153
                have hfo_160 : f_157 o1 = .inr (9, [.ref a_144, .ref a_145, .int v_146]) := by rw [ef_157, up_ne (kd_ne ko0 ko1 (by decide))]; exact hfo_154
                have hfr0 : ∀ b, kd b ≠ 2 → kd b ≠ 213 → kd b ≠ 564 → kd b ≠ 565 → f_157 b = f b := fun b q2 q213 q564 q565 => (congrFun ef_157 b).trans ((up_ne (fun e9 => q2 (by rw [e9]; exact ko0))).trans (hfr0 b q2 q213 q564 q565))
                have hfr2_4 : ∀ b, kd b = 2 → fldI (f_157 b) 4 = fldI (f b) 4 := fun b kb => ((congrArg (fun x => fldI x 4) (congrFun ef_157 b)).trans (fk_up (by rw [hfo_151]; rfl) b)).trans (hfr2_4 b kb)
                have hfr2_7 : ∀ b, kd b = 2 → fldI (f_157 b) 7 = fldI (f b) 7 := fun b kb => ((congrArg (fun x => fldI x 7) (congrFun ef_157 b)).trans (fk_up (by rw [hfo_151]; rfl) b)).trans (hfr2_7 b kb)
                have hfr2_8 : ∀ b, kd b = 2 → fldI (f_157 b) 8 = fldI (f b) 8 := fun b kb => ((congrArg (fun x => fldI x 8) (congrFun ef_157 b)).trans (fk_up (by rw [hfo_151]; rfl) b)).trans (hfr2_8 b kb)
                have hrr2_0 : ∀ b, kd b = 2 → fldR (f_157 b) 0 = fldR (f b) 0 := fun b kb => ((congrArg (fun x => fldR x 0) (congrFun ef_157 b)).trans (fr_up (by rw [hfo_151]; rfl) b)).trans (hrr2_0 b kb)
                have hrr2_3 : ∀ b, kd b = 2 → fldR (f_157 b) 3 = fldR (f b) 3 := fun b kb => ((congrArg (fun x => fldR x 3) (congrFun ef_157 b)).trans (fr_up (by rw [hfo_151]; rfl) b)).trans (hrr2_3 b kb)
                have hfo_161 : f_157 o0 = .inr (2, [.ref a_2, .int v_81, .int v_82, .ref a_5, .int v_38, .int x_155, .int v_86, .int v_41, .int v_42, .int v_89]) := by rw [ef_157]; exact up_self
                obtain ⟨x_162, ex_162⟩ : ∃ y : Int32, y_30 + 1 = y := ⟨_, rfl⟩
                have hx_162 : x_162.toInt = y_30.toInt + 1 := by rw [← ex_162, ad_I (by rw [ti_1]; omega) (by rw [ti_1]; omega), ti_1]
                have bx_162 : (1 ≤ x_162.toInt ∧ x_162.toInt ≤ 6) := by constructor <;> omega
                refine lv_iinc (v := x_162) (lv' := [(4, .int x_162), (5, .int x_138), (0, .ref o0), (1, .ref o1), (2, .int p2), (3, .int p3)]) hx hb dX2_readPart_113 hl (k := 1) rfl ex_162 (by decide) rfl (fun ls hl => ?_)
                refine lv_goto (tgt := 26) hx hb dX2_readPart_116 (by decide) ?_
                exact ih_hloop_29 x_162 (by constructor <;> omega) f_157 hG _ _ hP hS hD hfr0 hfr2_4 hfr2_7 hfr2_8 hrr2_0 hrr2_3 x_155 (by rw [hfo_161]; rfl) (by omega) (by omega) (by omega) ls (lv_sub hl [0, 2, 3, 4, 5] rfl)
              · skip
                rw [← Int32.toInt_inj, ti_6] at c_142
                refine lv_aload_n hx hb dX2_readPart_87 rfl (lv_at hl 2 rfl) ?_
                refine lv_iconst (v := 3) hx hb dX2_readPart_88 (by decide) ?_
                refine lv_aload_n hx hb dX2_readPart_89 rfl (lv_at hl 2 rfl) ?_
                refine tk_getP (D := (dC, dI)) (ci := 2) (v := .int v_85) (C := RX2) (T := TX2) (N := 10) hx hb hU inlX2 hown hK hP mo0 hfo_79 rfl 5 (by decide) (hU _ wd_256) (fun _ h9 => h9) rfl dX2_readPart_90 ?_
                refine tk_ViP (As := [.int 3, .int v_85]) (rest := []) (n := 2) hx hb hml hown hU hN hZ (s_X2_fail_k2 l (dC, dI) cI cL cZ cR cG cH Z kd L f_69 hG o0 mo0 ko0 3 v_85) wd_349 wd_350 wd_351 wd_33 wd_352 (by decide +kernel) ⟨Nat.le_of_ble_eq_true rfl, Nat.le_of_ble_eq_true rfl⟩ hK hP hD hS mo0 hfo_79 2 rfl rfl rfl hl.1 rfl (Nat.le_of_ble_eq_true rfl) dX2_readPart_93 ⟨Nat.le_of_ble_eq_true rfl, Nat.le_of_ble_eq_true rfl⟩ (fun x_163 f_164 H locs hw hP hD hS => ?_)
                obtain ⟨hG, bx_163, hkc_165, hfc_166, hfc_167, hfc_168, hfc_169, hrc_170, hrc_171⟩ := hw
                have hfo_173 : f_164 a_5 = .inl (cI, 600, .inl g_91) := by rw [hkc_165 a_5 (by rw [ka_5]; decide)]; exact hfo_90
                have hfo_174 : f_164 a_2 = .inr (7, [.ref a_122, .int v_123, .ref a_124, .ref a_125, .ref a_126, .ref a_127, .int v_128, .ref a_129, .ref a_130, .ref a_131, .ref a_132, .ref a_133, .int v_134, .ref a_135, .ref a_136, .ref a_137]) := by rw [hkc_165 a_2 (by rw [ka_2]; decide)]; exact hfo_121
                have hfr0 : ∀ b, kd b ≠ 2 → kd b ≠ 213 → kd b ≠ 564 → kd b ≠ 565 → f_164 b = f b := fun b q2 q213 q564 q565 => (hkc_165 b q2).trans (hfr0 b q2 q213 q564 q565)
                have hfr2_4 : ∀ b, kd b = 2 → fldI (f_164 b) 4 = fldI (f b) 4 := fun b kb => (hfc_166 b kb).trans (hfr2_4 b kb)
                have hfr2_7 : ∀ b, kd b = 2 → fldI (f_164 b) 7 = fldI (f b) 7 := fun b kb => (hfc_168 b kb).trans (hfr2_7 b kb)
                have hfr2_8 : ∀ b, kd b = 2 → fldI (f_164 b) 8 = fldI (f b) 8 := fun b kb => (hfc_169 b kb).trans (hfr2_8 b kb)
                have hrr2_0 : ∀ b, kd b = 2 → fldR (f_164 b) 0 = fldR (f b) 0 := fun b kb => (hrc_170 b kb).trans (hrr2_0 b kb)
                have hrr2_3 : ∀ b, kd b = 2 → fldR (f_164 b) 3 = fldR (f b) 3 := fun b kb => (hrc_171 b kb).trans (hrr2_3 b kb)
                obtain ⟨a_176, v_177, v_178, a_179, v_180, v_181, v_182, v_183, v_184, v_185, hfo_175, ⟨ma_176, ka_176⟩, ⟨ma_179, ka_179⟩, bv_180, bv_181, bv_182, bv_183, bv_184⟩ := un_2 (hG _ mo0) ko0
                have bv_177 : ((-2147483648) ≤ v_177.toInt ∧ v_177.toInt ≤ 2147483647) := ⟨i32_lo _, i32_hi _⟩
                have bv_178 : ((-2147483648) ≤ v_178.toInt ∧ v_178.toInt ≤ 2147483647) := ⟨i32_lo _, i32_hi _⟩
                have bv_185 : ((-2147483648) ≤ v_185.toInt ∧ v_185.toInt ≤ 2147483647) := ⟨i32_lo _, i32_hi _⟩
                obtain rfl : a_2 = a_176 := by have hk9 := hrr2_0 o0 ko0; rw [hfo_175, hfo_1] at hk9; exact (Option.some.inj hk9).symm
                obtain rfl : a_5 = a_179 := by have hk9 := hrr2_3 o0 ko0; rw [hfo_175, hfo_1] at hk9; exact (Option.some.inj hk9).symm
                obtain rfl : v_38 = v_180 := by have hk9 := hfc_166 o0 ko0; rw [hfo_175, hfo_79] at hk9; exact (Option.some.inj hk9).symm
                obtain rfl : v_85 = v_181 := by have hk9 := hfc_167 o0 ko0; rw [hfo_175, hfo_79] at hk9; exact (Option.some.inj hk9).symm
                obtain rfl : v_41 = v_183 := by have hk9 := hfc_168 o0 ko0; rw [hfo_175, hfo_79] at hk9; exact (Option.some.inj hk9).symm
                obtain rfl : v_42 = v_184 := by have hk9 := hfc_169 o0 ko0; rw [hfo_175, hfo_79] at hk9; exact (Option.some.inj hk9).symm
                exact W.zret (v := x_163) (ty := .boolean) hx hb hr (zb_n (by constructor <;> omega)) (fun t ht hW => ⟨⟨x_163, f_164, rfl, ⟨hG, (by constructor <;> omega), hfr0, hfr2_4, hfr2_7, hfr2_8, hrr2_0, hrr2_3, (by intro w5 z5 e5 d5; rw [hfo_1] at e5; rw [hfo_175] at d5; obtain rfl := Option.some.inj e5; obtain rfl := Option.some.inj d5; omega)⟩, by rw [ht]; exact hP, va_K.moved hW.alike hK, pl_in hD⟩, hS.F ht⟩) hS.2.2 dX2_readPart_96
            · skip
              rw [← Int32.toInt_inj, ti_0] at c_141
              refine lv_aload_n hx hb dX2_readPart_70 rfl (lv_at hl 2 rfl) ?_
              refine lv_iconst (v := 2) hx hb dX2_readPart_71 (by decide) ?_
              refine lv_aload_n hx hb dX2_readPart_72 rfl (lv_at hl 2 rfl) ?_
              refine tk_getP (D := (dC, dI)) (ci := 2) (v := .int v_85) (C := RX2) (T := TX2) (N := 10) hx hb hU inlX2 hown hK hP mo0 hfo_79 rfl 5 (by decide) (hU _ wd_256) (fun _ h9 => h9) rfl dX2_readPart_73 ?_
              refine tk_ViP (As := [.int 2, .int v_85]) (rest := []) (n := 2) hx hb hml hown hU hN hZ (s_X2_fail_k2 l (dC, dI) cI cL cZ cR cG cH Z kd L f_69 hG o0 mo0 ko0 2 v_85) wd_349 wd_350 wd_351 wd_33 wd_352 (by decide +kernel) ⟨Nat.le_of_ble_eq_true rfl, Nat.le_of_ble_eq_true rfl⟩ hK hP hD hS mo0 hfo_79 2 rfl rfl rfl hl.1 rfl (Nat.le_of_ble_eq_true rfl) dX2_readPart_76 ⟨Nat.le_of_ble_eq_true rfl, Nat.le_of_ble_eq_true rfl⟩ (fun x_186 f_187 H locs hw hP hD hS => ?_)
              obtain ⟨hG, bx_186, hkc_188, hfc_189, hfc_190, hfc_191, hfc_192, hrc_193, hrc_194⟩ := hw
              have hfo_196 : f_187 a_5 = .inl (cI, 600, .inl g_91) := by rw [hkc_188 a_5 (by rw [ka_5]; decide)]; exact hfo_90
              have hfo_197 : f_187 a_2 = .inr (7, [.ref a_122, .int v_123, .ref a_124, .ref a_125, .ref a_126, .ref a_127, .int v_128, .ref a_129, .ref a_130, .ref a_131, .ref a_132, .ref a_133, .int v_134, .ref a_135, .ref a_136, .ref a_137]) := by rw [hkc_188 a_2 (by rw [ka_2]; decide)]; exact hfo_121
              have hfr0 : ∀ b, kd b ≠ 2 → kd b ≠ 213 → kd b ≠ 564 → kd b ≠ 565 → f_187 b = f b := fun b q2 q213 q564 q565 => (hkc_188 b q2).trans (hfr0 b q2 q213 q564 q565)
              have hfr2_4 : ∀ b, kd b = 2 → fldI (f_187 b) 4 = fldI (f b) 4 := fun b kb => (hfc_189 b kb).trans (hfr2_4 b kb)
              have hfr2_7 : ∀ b, kd b = 2 → fldI (f_187 b) 7 = fldI (f b) 7 := fun b kb => (hfc_191 b kb).trans (hfr2_7 b kb)
              have hfr2_8 : ∀ b, kd b = 2 → fldI (f_187 b) 8 = fldI (f b) 8 := fun b kb => (hfc_192 b kb).trans (hfr2_8 b kb)
              have hrr2_0 : ∀ b, kd b = 2 → fldR (f_187 b) 0 = fldR (f b) 0 := fun b kb => (hrc_193 b kb).trans (hrr2_0 b kb)
              have hrr2_3 : ∀ b, kd b = 2 → fldR (f_187 b) 3 = fldR (f b) 3 := fun b kb => (hrc_194 b kb).trans (hrr2_3 b kb)
              obtain ⟨a_199, v_200, v_201, a_202, v_203, v_204, v_205, v_206, v_207, v_208, hfo_198, ⟨ma_199, ka_199⟩, ⟨ma_202, ka_202⟩, bv_203, bv_204, bv_205, bv_206, bv_207⟩ := un_2 (hG _ mo0) ko0
              have bv_200 : ((-2147483648) ≤ v_200.toInt ∧ v_200.toInt ≤ 2147483647) := ⟨i32_lo _, i32_hi _⟩
              have bv_201 : ((-2147483648) ≤ v_201.toInt ∧ v_201.toInt ≤ 2147483647) := ⟨i32_lo _, i32_hi _⟩
              have bv_208 : ((-2147483648) ≤ v_208.toInt ∧ v_208.toInt ≤ 2147483647) := ⟨i32_lo _, i32_hi _⟩
              obtain rfl : a_2 = a_199 := by have hk9 := hrr2_0 o0 ko0; rw [hfo_198, hfo_1] at hk9; exact (Option.some.inj hk9).symm
              obtain rfl : a_5 = a_202 := by have hk9 := hrr2_3 o0 ko0; rw [hfo_198, hfo_1] at hk9; exact (Option.some.inj hk9).symm
              obtain rfl : v_38 = v_203 := by have hk9 := hfc_189 o0 ko0; rw [hfo_198, hfo_79] at hk9; exact (Option.some.inj hk9).symm
              obtain rfl : v_85 = v_204 := by have hk9 := hfc_190 o0 ko0; rw [hfo_198, hfo_79] at hk9; exact (Option.some.inj hk9).symm
              obtain rfl : v_41 = v_206 := by have hk9 := hfc_191 o0 ko0; rw [hfo_198, hfo_79] at hk9; exact (Option.some.inj hk9).symm
              obtain rfl : v_42 = v_207 := by have hk9 := hfc_192 o0 ko0; rw [hfo_198, hfo_79] at hk9; exact (Option.some.inj hk9).symm
              exact W.zret (v := x_186) (ty := .boolean) hx hb hr (zb_n (by constructor <;> omega)) (fun t ht hW => ⟨⟨x_186, f_187, rfl, ⟨hG, (by constructor <;> omega), hfr0, hfr2_4, hfr2_7, hfr2_8, hrr2_0, hrr2_3, (by intro w5 z5 e5 d5; rw [hfo_1] at e5; rw [hfo_198] at d5; obtain rfl := Option.some.inj e5; obtain rfl := Option.some.inj d5; omega)⟩, by rw [ht]; exact hP, va_K.moved hW.alike hK, pl_in hD⟩, hS.F ht⟩) hS.2.2 dX2_readPart_79
    exact hloop_29 601 0 (by decide) f_20 hG _ _ hP hS hD hfr0 hfr2_4 hfr2_7 hfr2_8 hrr2_0 hrr2_3 v_7 (by rw [hfo_23]; rfl) (by (try rw [ti_0]) <;> omega) (by (try rw [ti_0]) <;> omega) (by (try rw [ti_0]) <;> omega) ls hl
  · skip
    rw [← Int32.toInt_inj, ti_8] at c_18
    refine lv_aload_n hx hb dX2_readPart_12 rfl (lv_at hl 0 rfl) ?_
    refine lv_iconst (v := 3) hx hb dX2_readPart_13 (by decide) ?_
    refine lv_iload_n hx hb dX2_readPart_14 rfl (lv_at hl 2 rfl) ?_
    refine tk_ViP (As := [.int 3, .int p2]) (rest := []) (n := 2) hx hb hml hown hU hN hZ (s_X2_fail_k2 l (dC, dI) cI cL cZ cR cG cH Z kd L f hG o0 mo0 ko0 3 p2) wd_349 wd_350 wd_351 wd_33 wd_352 (by decide +kernel) ⟨Nat.le_of_ble_eq_true rfl, Nat.le_of_ble_eq_true rfl⟩ hK hP hD hS mo0 hfo_1 2 rfl rfl rfl hl.1 rfl (Nat.le_of_ble_eq_true rfl) dX2_readPart_15 ⟨Nat.le_of_ble_eq_true rfl, Nat.le_of_ble_eq_true rfl⟩ (fun x_209 f_210 H locs hw hP hD hS => ?_)
    obtain ⟨hG, bx_209, hkc_211, hfc_212, hfc_213, hfc_214, hfc_215, hrc_216, hrc_217⟩ := hw
    have hfo_219 : f_210 o1 = .inr (9, [.ref a_13, .ref a_14, .int v_15]) := by rw [hkc_211 o1 (by rw [ko1]; decide)]; exact hfo_12
    have hfo_220 : f_210 a_14 = .inl (cI, 8, .inl g_17) := by rw [hkc_211 a_14 (by rw [ka_14]; decide)]; exact hfo_16
    have hfr0 : ∀ b, kd b ≠ 2 → kd b ≠ 213 → kd b ≠ 564 → kd b ≠ 565 → f_210 b = f b := fun b q2 q213 q564 q565 => (hkc_211 b q2).trans (hfr0 b q2 q213 q564 q565)
    have hfr2_4 : ∀ b, kd b = 2 → fldI (f_210 b) 4 = fldI (f b) 4 := fun b kb => (hfc_212 b kb).trans (hfr2_4 b kb)
    have hfr2_7 : ∀ b, kd b = 2 → fldI (f_210 b) 7 = fldI (f b) 7 := fun b kb => (hfc_214 b kb).trans (hfr2_7 b kb)
    have hfr2_8 : ∀ b, kd b = 2 → fldI (f_210 b) 8 = fldI (f b) 8 := fun b kb => (hfc_215 b kb).trans (hfr2_8 b kb)
    have hrr2_0 : ∀ b, kd b = 2 → fldR (f_210 b) 0 = fldR (f b) 0 := fun b kb => (hrc_216 b kb).trans (hrr2_0 b kb)
    have hrr2_3 : ∀ b, kd b = 2 → fldR (f_210 b) 3 = fldR (f b) 3 := fun b kb => (hrc_217 b kb).trans (hrr2_3 b kb)
    obtain ⟨a_222, v_223, v_224, a_225, v_226, v_227, v_228, v_229, v_230, v_231, hfo_221, ⟨ma_222, ka_222⟩, ⟨ma_225, ka_225⟩, bv_226, bv_227, bv_228, bv_229, bv_230⟩ := un_2 (hG _ mo0) ko0
    have bv_223 : ((-2147483648) ≤ v_223.toInt ∧ v_223.toInt ≤ 2147483647) := ⟨i32_lo _, i32_hi _⟩
    have bv_224 : ((-2147483648) ≤ v_224.toInt ∧ v_224.toInt ≤ 2147483647) := ⟨i32_lo _, i32_hi _⟩
    have bv_231 : ((-2147483648) ≤ v_231.toInt ∧ v_231.toInt ≤ 2147483647) := ⟨i32_lo _, i32_hi _⟩
    obtain rfl : a_2 = a_222 := by have hk9 := hrr2_0 o0 ko0; rw [hfo_221, hfo_1] at hk9; exact (Option.some.inj hk9).symm
    obtain rfl : a_5 = a_225 := by have hk9 := hrr2_3 o0 ko0; rw [hfo_221, hfo_1] at hk9; exact (Option.some.inj hk9).symm
    obtain rfl : v_6 = v_226 := by have hk9 := hfc_212 o0 ko0; rw [hfo_221, hfo_1] at hk9; exact (Option.some.inj hk9).symm
    obtain rfl : v_7 = v_227 := by have hk9 := hfc_213 o0 ko0; rw [hfo_221, hfo_1] at hk9; exact (Option.some.inj hk9).symm
    obtain rfl : v_9 = v_229 := by have hk9 := hfc_214 o0 ko0; rw [hfo_221, hfo_1] at hk9; exact (Option.some.inj hk9).symm
    obtain rfl : v_10 = v_230 := by have hk9 := hfc_215 o0 ko0; rw [hfo_221, hfo_1] at hk9; exact (Option.some.inj hk9).symm
    exact W.zret (v := x_209) (ty := .boolean) hx hb hr (zb_n (by constructor <;> omega)) (fun t ht hW => ⟨⟨x_209, f_210, rfl, ⟨hG, (by constructor <;> omega), hfr0, hfr2_4, hfr2_7, hfr2_8, hrr2_0, hrr2_3, (by intro w5 z5 e5 d5; rw [hfo_1] at e5; rw [hfo_221] at d5; obtain rfl := Option.some.inj e5; obtain rfl := Option.some.inj d5; omega)⟩, by rw [ht]; exact hP, va_K.moved hW.alike hK, pl_in hD⟩, hS.F ht⟩) hS.2.2 dX2_readPart_18
