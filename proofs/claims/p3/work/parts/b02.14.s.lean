set_option maxHeartbeats 8000000 in
set_option maxRecDepth 100000 in
theorem s_X2_isKeyword_k2 (l : Launch) (D : va_G) (cI cL cZ cR cG cH : ClassId) (Z : zT) (kd : Nat → Nat) (L : List Nat) (f : Nat → va_E) (hG : GI (okc cI cL cZ cR cG cH L kd) kd L f) (o0 : Nat) (mo0 : o0 ∈ L) (ko0 : kd o0 = 2) (i1 : Nat) (hi1 : i1 < 10) (p2 : Int32) (bp2 : (0 ≤ p2.toInt ∧ p2.toInt ≤ 600)) : mPI l D cI cL cZ cR cG cH Z yX2_isKeyword cX2_isKeyword 4 (some .boolean) 4 85 [.ref o0, .ref (Z.1 i1), .int p2] L f (fun (r : Int32) (f9 : Nat → va_E) => f = f9 ∧ (0 ≤ r.toInt ∧ r.toInt ≤ 1)) := by
  obtain ⟨dC, dI⟩ := D
  refine Met.ofW (cc := cX2_isKeyword) (maxL := 4) (ret := (some .boolean)) (by decide) rfl ?_
  intro p e s m args below meth c s₁ B hml hv
  obtain ⟨rfl, hP, hK, hD0, hN, hZ⟩ := hv
  have hx := B.exec
  have hb := B.bytes
  have hr := B.returns
  have hU : ∀ w ∈ wsU, w.before _ s = true := fun w h => atoms_spec (ws := wU yX2_isKeyword cX2_isKeyword 4 (some .boolean)) B.pre w (List.mem_cons_of_mem _ h)
  have hown : s.vm.findClass RX2 = some m.cls := findClass_of_methodNamed B.named
  have hlocks := B.notSynchronized
  have hD := pl_in hD0
  have hS : va_S (fun q => q ∈ L) s.heap s.heap [] := va_S.rf
  have hl := lv_entry ([.ref o0, .ref (Z.1 i1), .int p2]) (n := 4) (Nat.le_of_ble_eq_true rfl)
  rw [lg_entry_eq]
  generalize (lg_sl ([.ref o0, .ref (Z.1 i1), .int p2]) ++ List.replicate (4 - (lg_sl ([.ref o0, .ref (Z.1 i1), .int p2])).length) Slot.unset).toArray = ls at hl ⊢
  have hl : lv_has ls 4 [(0, .ref o0), (1, .ref (Z.1 i1)), (2, .int p2)] := hl
  refine lv_aload_n hx hb dX2_isKeyword_0 rfl (lv_at hl 0 rfl) ?_
  obtain ⟨a_2, v_3, v_4, a_5, v_6, v_7, v_8, v_9, v_10, v_11, hfo_1, ⟨ma_2, ka_2⟩, ⟨ma_5, ka_5⟩, bv_6, bv_7, bv_8, bv_9, bv_10⟩ := un_2 (hG _ mo0) ko0
  have bv_3 : ((-2147483648) ≤ v_3.toInt ∧ v_3.toInt ≤ 2147483647) := ⟨i32_lo _, i32_hi _⟩
  have bv_4 : ((-2147483648) ≤ v_4.toInt ∧ v_4.toInt ≤ 2147483647) := ⟨i32_lo _, i32_hi _⟩
  have bv_11 : ((-2147483648) ≤ v_11.toInt ∧ v_11.toInt ≤ 2147483647) := ⟨i32_lo _, i32_hi _⟩
  refine tk_getP (D := (dC, dI)) (ci := 2) (v := .int v_7) (C := RX2) (T := TX2) (N := 10) hx hb hU inlX2 hown hK hP mo0 hfo_1 rfl 5 (by decide) (hU _ wd_256) (fun _ h9 => h9) rfl dX2_isKeyword_1 ?_
  refine lv_iload_n hx hb dX2_isKeyword_4 rfl (lv_at hl 2 rfl) ?_
  refine lv_isub hx hb dX2_isKeyword_5 ?_
  refine lv_topi (fun x_12 ex_12 => ?_)
  have hx_12 : x_12.toInt = v_7.toInt - p2.toInt := by rw [ex_12, sb_I (by omega) (by omega)]
  have bx_12 : ((-600) ≤ x_12.toInt ∧ x_12.toInt ≤ 600) := by constructor <;> omega
  refine lv_aload_n hx hb dX2_isKeyword_6 rfl (lv_at hl 1 rfl) ?_
  refine tk_TiP (As := []) (rest := [.int x_12]) (n := 0) hx hb hml hown hU hN hZ (s_J0_length_8abf5 l (dC, dI) cI cL cZ cR cG cH Z kd L f hG i1 hi1) wd_291 wd_292 wd_293 wd_294 wd_295 (by decide +kernel) ⟨Nat.le_of_ble_eq_true rfl, Nat.le_of_ble_eq_true rfl⟩ hK hP hD hS hi1 rfl rfl hl.1 rfl (Nat.le_of_ble_eq_true rfl) dX2_isKeyword_7 ⟨Nat.le_of_ble_eq_true rfl, Nat.le_of_ble_eq_true rfl⟩ (fun x_13 f_14 H locs hw hP hD hS => ?_)
  obtain ⟨rfl, bx_13, relx_13⟩ := hw
  refine lv_icmp_eq (tgt := 15) hx hb dX2_isKeyword_10 (by decide) (fun c_16 => ?_) (fun c_16 => ?_)
  · skip
    rw [← Int32.toInt_inj] at c_16
    refine lv_iconst (v := 0) hx hb dX2_isKeyword_15 (by decide) ?_
    refine lv_istore_n (lv' := [(3, .int 0), (0, .ref o0), (1, .ref (Z.1 i1)), (2, .int p2)]) hx hb dX2_isKeyword_16 rfl hl (by decide) rfl (fun ls hl => ?_)
    have hloop_32 : ∀ (n : Nat), ∀ (y_33 : Int32), (0 ≤ y_33.toInt ∧ y_33.toInt ≤ 7) → ∀ (H : Heap) (locs : List Loc), va_P (dC, dI) vwCl (va_pl L f) H → va_S (fun q => q ∈ L) s.heap H locs → 7 - y_33.toInt < (n : Int) → ∀ (ls : Array Slot), lv_has ls 4 [(3, .int y_33), (0, .ref o0), (1, .ref (Z.1 i1)), (2, .int p2)] → W p l e (headSpec (wU yX2_isKeyword cX2_isKeyword 4 (some .boolean)) { frames := 4, cells := 0, slots := 0, locals := 85 }).room s m [.ref o0, .ref (Z.1 i1), .int p2].toArray below meth c H locs 0 0 (MQ below (va_Qi (fun (r : Int32) (f9 : Nat → va_E) => f = f9 ∧ (0 ≤ r.toInt ∧ r.toInt ≤ 1)) (qP (dC, dI) cI cL cZ cR cG cH L) (fun q => q ∈ L)) [.ref o0, .ref (Z.1 i1), .int p2].toArray s 0 0 (fun q => q ∈ L)) (F0 m 17 ls []) := by
      intro n
      induction n with
      | zero => intro y_33 by_33 H locs hP hS hmuhloop_32 ls hl; exfalso; omega
      | succ n ih_hloop_32 =>
        intro y_33 by_33 H locs hP hS hmuhloop_32 ls hl
        refine lv_iload_n hx hb dX2_isKeyword_17 rfl (lv_at hl 0 rfl) ?_
        refine lv_aload_n hx hb dX2_isKeyword_18 rfl (lv_at hl 2 rfl) ?_
        refine tk_TiP (As := []) (rest := [.int y_33]) (n := 0) hx hb hml hown hU hN hZ (s_J0_length_8abf5 l (dC, dI) cI cL cZ cR cG cH Z kd L f hG i1 hi1) wd_291 wd_292 wd_293 wd_294 wd_295 (by decide +kernel) ⟨Nat.le_of_ble_eq_true rfl, Nat.le_of_ble_eq_true rfl⟩ hK hP hD hS hi1 rfl rfl hl.1 rfl (Nat.le_of_ble_eq_true rfl) dX2_isKeyword_19 ⟨Nat.le_of_ble_eq_true rfl, Nat.le_of_ble_eq_true rfl⟩ (fun x_35 f_36 H locs hw hP hD hS => ?_)
        obtain ⟨rfl, bx_35, relx_35⟩ := hw
        refine lv_icmp_ge (tgt := 49) hx hb dX2_isKeyword_22 (by decide) (fun c_38 => ?_) (fun c_38 => ?_)
        · skip
          rw [Int32.le_iff_toInt_le] at c_38
          refine lv_iconst (v := 1) hx hb dX2_isKeyword_49 (by decide) ?_
          exact W.zret (v := 1) (ty := .boolean) hx hb hr rfl (fun t ht hW => ⟨⟨1, f, rfl, ⟨rfl, (by decide)⟩, by rw [ht]; exact hP, va_K.moved hW.alike hK, pl_in hD⟩, hS.F ht⟩) hS.2.2 dX2_isKeyword_50
        · skip
          rw [Int32.le_iff_toInt_le] at c_38
          refine lv_aload_n hx hb dX2_isKeyword_25 rfl (lv_at hl 1 rfl) ?_
          refine tk_getP (D := (dC, dI)) (ci := 2) (v := .ref a_5) (C := RX2) (T := TX2) (N := 10) hx hb hU inlX2 hown hK hP mo0 hfo_1 rfl 3 (by decide) (hU _ wd_152) (fun _ h9 => h9) rfl dX2_isKeyword_26 ?_
          refine lv_iload_n hx hb dX2_isKeyword_29 rfl (lv_at hl 3 rfl) ?_
          refine lv_iload_n hx hb dX2_isKeyword_30 rfl (lv_at hl 0 rfl) ?_
          refine lv_iadd hx hb dX2_isKeyword_31 ?_
          refine lv_topi (fun x_39 ex_39 => ?_)
          have hx_39 : x_39.toInt = p2.toInt + y_33.toInt := by rw [ex_39, ad_I (by omega) (by omega)]
          have bx_39 : (0 ≤ x_39.toInt ∧ x_39.toInt ≤ 606) := by constructor <;> omega
          obtain ⟨g_41, hfo_40, hbg_41⟩ := un_533 (hG _ ma_5) ka_5
          refine tk_ildP hx hb hK hP 0 ma_5 hfo_40 rfl (vp_in_iff.mpr (by constructor <;> omega)) dX2_isKeyword_32 ?_
          refine lv_topi (fun x_42 ex_42 => ?_)
          have bx_42 : ((-2147483648) ≤ x_42.toInt ∧ x_42.toInt ≤ 2147483647) := ⟨i32_lo _, i32_hi _⟩
          refine lv_aload_n hx hb dX2_isKeyword_33 rfl (lv_at hl 2 rfl) ?_
          refine lv_iload_n hx hb dX2_isKeyword_34 rfl (lv_at hl 0 rfl) ?_
          refine tk_TiP (As := [.int y_33]) (rest := [.int x_42]) (n := 1) hx hb hml hown hU hN hZ (s_J0_charAt_5068e l (dC, dI) cI cL cZ cR cG cH Z kd L f hG i1 hi1 y_33 (by constructor <;> omega) (by omega)) wd_303 wd_304 wd_305 wd_294 wd_306 (by decide +kernel) ⟨Nat.le_of_ble_eq_true rfl, Nat.le_of_ble_eq_true rfl⟩ hK hP hD hS hi1 rfl rfl hl.1 rfl (Nat.le_of_ble_eq_true rfl) dX2_isKeyword_35 ⟨Nat.le_of_ble_eq_true rfl, Nat.le_of_ble_eq_true rfl⟩ (fun x_43 f_44 H locs hw hP hD hS => ?_)
          obtain ⟨rfl, bx_43⟩ := hw
          refine lv_icmp_eq (tgt := 43) hx hb dX2_isKeyword_38 (by decide) (fun c_46 => ?_) (fun c_46 => ?_)
          · skip
            rw [← Int32.toInt_inj] at c_46
            obtain ⟨x_47, ex_47⟩ : ∃ y : Int32, y_33 + 1 = y := ⟨_, rfl⟩
            have hx_47 : x_47.toInt = y_33.toInt + 1 := by rw [← ex_47, ad_I (by rw [ti_1]; omega) (by rw [ti_1]; omega), ti_1]
            have bx_47 : (1 ≤ x_47.toInt ∧ x_47.toInt ≤ 7) := by constructor <;> omega
            refine lv_iinc (v := x_47) (lv' := [(3, .int x_47), (0, .ref o0), (1, .ref (Z.1 i1)), (2, .int p2)]) hx hb dX2_isKeyword_43 hl (k := 0) rfl ex_47 (by decide) rfl (fun ls hl => ?_)
            refine lv_goto (tgt := 17) hx hb dX2_isKeyword_46 (by decide) ?_
            exact ih_hloop_32 x_47 (by constructor <;> omega) _ _ hP hS (by omega) ls (lv_sub hl [0, 1, 2, 3] rfl)
          · skip
            rw [← Int32.toInt_inj] at c_46
            refine lv_iconst (v := 0) hx hb dX2_isKeyword_41 (by decide) ?_
            exact W.zret (v := 0) (ty := .boolean) hx hb hr rfl (fun t ht hW => ⟨⟨0, f, rfl, ⟨rfl, (by decide)⟩, by rw [ht]; exact hP, va_K.moved hW.alike hK, pl_in hD⟩, hS.F ht⟩) hS.2.2 dX2_isKeyword_42
    exact hloop_32 8 0 (by decide) _ _ hP hS (by (try rw [ti_0]) <;> omega) ls hl
  · skip
    rw [← Int32.toInt_inj] at c_16
    refine lv_iconst (v := 0) hx hb dX2_isKeyword_13 (by decide) ?_
    exact W.zret (v := 0) (ty := .boolean) hx hb hr rfl (fun t ht hW => ⟨⟨0, f, rfl, ⟨rfl, (by decide)⟩, by rw [ht]; exact hP, va_K.moved hW.alike hK, pl_in hD⟩, hS.F ht⟩) hS.2.2 dX2_isKeyword_14
set_option maxHeartbeats 8000000 in
set_option maxRecDepth 100000 in
theorem s_X2_readX_k2 (l : Launch) (D : va_G) (cI cL cZ cR cG cH : ClassId) (Z : zT) (kd : Nat → Nat) (L : List Nat) (f : Nat → va_E) (hG : GI (okc cI cL cZ cR cG cH L kd) kd L f) (o0 : Nat) (mo0 : o0 ∈ L) (ko0 : kd o0 = 2) : mPI l D cI cL cZ cR cG cH Z yX2_readX cX2_readX 3 (some .boolean) 1 22 [.ref o0] L f (fun (r : Int32) (f9 : Nat → va_E) => GI (okc cI cL cZ cR cG cH L kd) kd L f9 ∧ (0 ≤ r.toInt ∧ r.toInt ≤ 1) ∧ (∀ b, kd b ≠ 2 → f9 b = f b) ∧ (∀ b, kd b = 2 → fldI (f9 b) 4 = fldI (f b) 4) ∧ (∀ b, kd b = 2 → fldI (f9 b) 7 = fldI (f b) 7) ∧ (∀ b, kd b = 2 → fldI (f9 b) 8 = fldI (f b) 8) ∧ (∀ b, kd b = 2 → fldR (f9 b) 0 = fldR (f b) 0) ∧ (∀ b, kd b = 2 → fldR (f9 b) 3 = fldR (f b) 3) ∧ (∀ (w5 z5 : Int32), fldI (f o0) 5 = some w5 → fldI (f9 o0) 5 = some z5 → w5.toInt ≤ z5.toInt)) := by
  obtain ⟨dC, dI⟩ := D
  refine Met.ofW (cc := cX2_readX) (maxL := 3) (ret := (some .boolean)) (by decide) rfl ?_
  intro p e s m args below meth c s₁ B hml hv
  obtain ⟨rfl, hP, hK, hD0, hN, hZ⟩ := hv
  have hx := B.exec
  have hb := B.bytes
  have hr := B.returns
  have hU : ∀ w ∈ wsU, w.before _ s = true := fun w h => atoms_spec (ws := wU yX2_readX cX2_readX 3 (some .boolean)) B.pre w (List.mem_cons_of_mem _ h)
  have hown : s.vm.findClass RX2 = some m.cls := findClass_of_methodNamed B.named
  have hlocks := B.notSynchronized
  have hD := pl_in hD0
  have hS : va_S (fun q => q ∈ L) s.heap s.heap [] := va_S.rf
  have hl := lv_entry ([.ref o0]) (n := 3) (Nat.le_of_ble_eq_true rfl)
  rw [lg_entry_eq]
  generalize (lg_sl ([.ref o0]) ++ List.replicate (3 - (lg_sl ([.ref o0])).length) Slot.unset).toArray = ls at hl ⊢
  have hl : lv_has ls 3 [(0, .ref o0)] := hl
  have hfr0 : ∀ b, kd b ≠ 2 → f b = f b := fun _ _ => rfl
  have hfr2_4 : ∀ b, kd b = 2 → fldI (f b) 4 = fldI (f b) 4 := fun _ _ => rfl
  have hfr2_7 : ∀ b, kd b = 2 → fldI (f b) 7 = fldI (f b) 7 := fun _ _ => rfl
  have hfr2_8 : ∀ b, kd b = 2 → fldI (f b) 8 = fldI (f b) 8 := fun _ _ => rfl
  have hrr2_0 : ∀ b, kd b = 2 → fldR (f b) 0 = fldR (f b) 0 := fun _ _ => rfl
  have hrr2_3 : ∀ b, kd b = 2 → fldR (f b) 3 = fldR (f b) 3 := fun _ _ => rfl
  obtain ⟨a_2, v_3, v_4, a_5, v_6, v_7, v_8, v_9, v_10, v_11, hfo_1, ⟨ma_2, ka_2⟩, ⟨ma_5, ka_5⟩, bv_6, bv_7, bv_8, bv_9, bv_10⟩ := un_2 (hG _ mo0) ko0
  have bv_3 : ((-2147483648) ≤ v_3.toInt ∧ v_3.toInt ≤ 2147483647) := ⟨i32_lo _, i32_hi _⟩
  have bv_4 : ((-2147483648) ≤ v_4.toInt ∧ v_4.toInt ≤ 2147483647) := ⟨i32_lo _, i32_hi _⟩
  have bv_11 : ((-2147483648) ≤ v_11.toInt ∧ v_11.toInt ≤ 2147483647) := ⟨i32_lo _, i32_hi _⟩
  refine lv_aload_n hx hb dX2_readX_0 rfl (lv_at hl 0 rfl) ?_
  refine tk_ViP (As := []) (rest := []) (n := 0) hx hb hml hown hU hN hZ (s_X2_peek_k2 l (dC, dI) cI cL cZ cR cG cH Z kd L f hG o0 mo0 ko0) wd_274 wd_275 wd_276 wd_33 wd_277 (by decide +kernel) ⟨Nat.le_of_ble_eq_true rfl, Nat.le_of_ble_eq_true rfl⟩ hK hP hD hS mo0 hfo_1 2 rfl rfl rfl hl.1 rfl (Nat.le_of_ble_eq_true rfl) dX2_readX_1 ⟨Nat.le_of_ble_eq_true rfl, Nat.le_of_ble_eq_true rfl⟩ (fun x_12 f_13 H locs hw hP hD hS => ?_)
  obtain ⟨hG, bx_12, hkc_14, hfc_15, hfc_16, hfc_17, hrc_18, hrc_19, hpost_20, hxp_21⟩ := hw
  have hfr0 : ∀ b, kd b ≠ 2 → f_13 b = f b := fun b q2 => (hkc_14 b q2).trans (hfr0 b q2)
  have hfr2_4 : ∀ b, kd b = 2 → fldI (f_13 b) 4 = fldI (f b) 4 := fun b kb => (hfc_15 b kb).trans (hfr2_4 b kb)
  have hfr2_7 : ∀ b, kd b = 2 → fldI (f_13 b) 7 = fldI (f b) 7 := fun b kb => (hfc_16 b kb).trans (hfr2_7 b kb)
  have hfr2_8 : ∀ b, kd b = 2 → fldI (f_13 b) 8 = fldI (f b) 8 := fun b kb => (hfc_17 b kb).trans (hfr2_8 b kb)
  have hrr2_0 : ∀ b, kd b = 2 → fldR (f_13 b) 0 = fldR (f b) 0 := fun b kb => (hrc_18 b kb).trans (hrr2_0 b kb)
  have hrr2_3 : ∀ b, kd b = 2 → fldR (f_13 b) 3 = fldR (f b) 3 := fun b kb => (hrc_19 b kb).trans (hrr2_3 b kb)
  obtain ⟨a_24, v_25, v_26, a_27, v_28, v_29, v_30, v_31, v_32, v_33, hfo_23, ⟨ma_24, ka_24⟩, ⟨ma_27, ka_27⟩, bv_28, bv_29, bv_30, bv_31, bv_32⟩ := un_2 (hG _ mo0) ko0
  have bv_25 : ((-2147483648) ≤ v_25.toInt ∧ v_25.toInt ≤ 2147483647) := ⟨i32_lo _, i32_hi _⟩
  have bv_26 : ((-2147483648) ≤ v_26.toInt ∧ v_26.toInt ≤ 2147483647) := ⟨i32_lo _, i32_hi _⟩
  have bv_33 : ((-2147483648) ≤ v_33.toInt ∧ v_33.toInt ≤ 2147483647) := ⟨i32_lo _, i32_hi _⟩
  obtain rfl : a_2 = a_24 := by have hk9 := hrr2_0 o0 ko0; rw [hfo_23, hfo_1] at hk9; exact (Option.some.inj hk9).symm
  obtain rfl : a_5 = a_27 := by have hk9 := hrr2_3 o0 ko0; rw [hfo_23, hfo_1] at hk9; exact (Option.some.inj hk9).symm
  obtain rfl : v_6 = v_28 := by have hk9 := hfc_15 o0 ko0; rw [hfo_23, hfo_1] at hk9; exact (Option.some.inj hk9).symm
  obtain rfl : v_9 = v_31 := by have hk9 := hfc_16 o0 ko0; rw [hfo_23, hfo_1] at hk9; exact (Option.some.inj hk9).symm
  obtain rfl : v_10 = v_32 := by have hk9 := hfc_17 o0 ko0; rw [hfo_23, hfo_1] at hk9; exact (Option.some.inj hk9).symm
  have hqhpost_20 := hpost_20 v_7 v_29 (by rw [hfo_1]; rfl) (by rw [hfo_23]; rfl)
  obtain ⟨g_35, hfo_34, hbg_35⟩ := un_533 (hG _ ma_5) ka_5
  have hpkx_12 := hxp_21 a_5 g_35 v_29 (by rw [hfo_23]; rfl) hfo_34 (by rw [hfo_23]; rfl)
  refine lv_istore_n (lv' := [(1, .int x_12), (0, .ref o0)]) hx hb dX2_readX_4 rfl hl (by decide) rfl (fun ls hl => ?_)
  refine lv_iload_n hx hb dX2_readX_5 rfl (lv_at hl 0 rfl) ?_
  refine tk_SiP (As := [.int x_12]) (rest := []) (n := 1) hx hb hml hown hU hN hZ (s_X2_isSmall l (dC, dI) cI cL cZ cR cG cH Z kd L f_13 hG x_12) wd_284 wd_285 wd_33 wd_286 (by decide +kernel) ⟨Nat.le_of_ble_eq_true rfl, Nat.le_of_ble_eq_true rfl⟩ hK hP hD hS rfl hl.1 rfl (Nat.le_of_ble_eq_true rfl) dX2_readX_6 ⟨Nat.le_of_ble_eq_true rfl, Nat.le_of_ble_eq_true rfl⟩ (fun x_36 f_37 H locs hw hP hD hS => ?_)
  obtain ⟨rfl, bx_36, relx_36⟩ := hw
  refine lv_if_eq (tgt := 39) hx hb dX2_readX_9 (by decide) (fun c_39 => ?_) (fun c_39 => ?_)
  · skip
    rw [← Int32.toInt_inj, ti_0] at c_39
    refine lv_iload_n hx hb dX2_readX_39 rfl (lv_at hl 0 rfl) ?_
    refine tk_SiP (As := [.int x_12]) (rest := []) (n := 1) hx hb hml hown hU hN hZ (s_X2_isClass l (dC, dI) cI cL cZ cR cG cH Z kd L f_13 hG x_12) wd_366 wd_367 wd_33 wd_368 (by decide +kernel) ⟨Nat.le_of_ble_eq_true rfl, Nat.le_of_ble_eq_true rfl⟩ hK hP hD hS rfl hl.1 rfl (Nat.le_of_ble_eq_true rfl) dX2_readX_40 ⟨Nat.le_of_ble_eq_true rfl, Nat.le_of_ble_eq_true rfl⟩ (fun x_40 f_41 H locs hw hP hD hS => ?_)
    obtain ⟨rfl, bx_40, relx_40⟩ := hw
    refine lv_if_eq (tgt := 65) hx hb dX2_readX_43 (by decide) (fun c_43 => ?_) (fun c_43 => ?_)
    · skip
      rw [← Int32.toInt_inj, ti_0] at c_43
      refine lv_iload_n hx hb dX2_readX_65 rfl (lv_at hl 0 rfl) ?_
      refine lv_bipush (v := 48) hx hb dX2_readX_66 (by decide) ?_
      refine lv_icmp_eq (tgt := 77) hx hb dX2_readX_68 (by decide) (fun c_44 => ?_) (fun c_44 => ?_)
      · skip
        rw [← Int32.toInt_inj, ti_48] at c_44
        refine lv_aload_n hx hb dX2_readX_77 rfl (lv_at hl 1 rfl) ?_
        refine lv_iload_n hx hb dX2_readX_78 rfl (lv_at hl 0 rfl) ?_
        refine lv_bipush (v := 48) hx hb dX2_readX_79 (by decide) ?_
        refine lv_icmp_ne (tgt := 88) hx hb dX2_readX_81 (by decide) (fun c_45 => ?_) (fun c_45 => ?_)
        · skip
          rw [← Int32.toInt_inj, ti_48] at c_45
          exfalso
          omega
        · skip
          rw [← Int32.toInt_inj, ti_48] at c_45
          refine lv_iconst (v := 1) hx hb dX2_readX_84 (by decide) ?_
          refine lv_goto (tgt := 91) hx hb dX2_readX_85 (by decide) ?_
          refine tk_putP (D := (dC, dI)) (ci := 2) (v := .int 1) (ty := .int) (C := RX2) (T := TX2) (N := 10) hx hb hU inlX2 tyX2 tyX2_ok nmX2 hown hK hP hD hS mo0 hfo_23 rfl 9 (by decide) (hU _ wd_450) (fun _ h9 => h9) rfl (by decide +kernel) rfl rfl (Nat.le_of_ble_eq_true rfl) dX2_readX_91 (fun H locs hP hD hS => ?_)
          obtain ⟨f_47, ef_47⟩ : ∃ y : Nat → va_E, y = va_up f_13 o0 (.inr (2, [.ref a_2, .int v_25, .int v_26, .ref a_5, .int v_6, .int v_29, .int v_30, .int v_9, .int v_10, .int 1])) := ⟨_, rfl⟩
          have hP : va_P (dC, dI) vwCl (va_pl L f_47) H := by rw [ef_47]; exact hP
          have hD : va_D (fun q => q ∈ L) (va_pl L f_47) := by rw [ef_47]; exact hD
          have hG : GI (okc cI cL cZ cR cG cH L kd) kd L f_47 := by rw [ef_47]; exact hG.set o0 (mk_2 ko0 ⟨a_2, v_25, v_26, a_5, v_6, v_29, v_30, v_9, v_10, 1, rfl, ⟨ma_2, ka_2⟩, ⟨ma_5, ka_5⟩, (by constructor <;> omega), (by constructor <;> omega), (by constructor <;> omega), (by constructor <;> omega), (by constructor <;> omega)⟩)
          have hfo_48 : f_47 a_5 = .inl (cI, 600, .inl g_35) := by rw [ef_47, up_ne (kd_ne ko0 ka_5 (by decide))]; exact hfo_34
          have hfr0 : ∀ b, kd b ≠ 2 → f_47 b = f b := fun b q2 => (congrFun ef_47 b).trans ((up_ne (fun e9 => q2 (by rw [e9]; exact ko0))).trans (hfr0 b q2))
          have hfr2_4 : ∀ b, kd b = 2 → fldI (f_47 b) 4 = fldI (f b) 4 := fun b kb => ((congrArg (fun x => fldI x 4) (congrFun ef_47 b)).trans (fk_up (by rw [hfo_23]; rfl) b)).trans (hfr2_4 b kb)
          have hfr2_7 : ∀ b, kd b = 2 → fldI (f_47 b) 7 = fldI (f b) 7 := fun b kb => ((congrArg (fun x => fldI x 7) (congrFun ef_47 b)).trans (fk_up (by rw [hfo_23]; rfl) b)).trans (hfr2_7 b kb)
          have hfr2_8 : ∀ b, kd b = 2 → fldI (f_47 b) 8 = fldI (f b) 8 := fun b kb => ((congrArg (fun x => fldI x 8) (congrFun ef_47 b)).trans (fk_up (by rw [hfo_23]; rfl) b)).trans (hfr2_8 b kb)
          have hrr2_0 : ∀ b, kd b = 2 → fldR (f_47 b) 0 = fldR (f b) 0 := fun b kb => ((congrArg (fun x => fldR x 0) (congrFun ef_47 b)).trans (fr_up (by rw [hfo_23]; rfl) b)).trans (hrr2_0 b kb)
          have hrr2_3 : ∀ b, kd b = 2 → fldR (f_47 b) 3 = fldR (f b) 3 := fun b kb => ((congrArg (fun x => fldR x 3) (congrFun ef_47 b)).trans (fr_up (by rw [hfo_23]; rfl) b)).trans (hrr2_3 b kb)
          have hfo_49 : f_47 o0 = .inr (2, [.ref a_2, .int v_25, .int v_26, .ref a_5, .int v_6, .int v_29, .int v_30, .int v_9, .int v_10, .int 1]) := by rw [ef_47]; exact up_self
          refine lv_goto (tgt := 107) hx hb dX2_readX_94 (by decide) ?_
          refine lv_aload_n hx hb dX2_readX_107 rfl (lv_at hl 1 rfl) ?_
          refine tk_getP (D := (dC, dI)) (ci := 2) (v := .int 1) (C := RX2) (T := TX2) (N := 10) hx hb hU inlX2 hown hK hP mo0 hfo_49 rfl 9 (by decide) (hU _ wd_450) (fun _ h9 => h9) rfl dX2_readX_108 ?_
          refine lv_if_ne (tgt := 124) hx hb dX2_readX_111 (by decide) (fun _ => ?_) (fun c9 => absurd c9 (by decide))
          have hclc_50 : (0 ≤ v_29.toInt ∧ v_29.toInt ≤ 599) := by constructor <;> omega
          refine lv_aload_n hx hb dX2_readX_124 rfl (lv_at hl 1 rfl) ?_
          refine lv_dup hx hb dX2_readX_125 rfl ?_
          refine tk_getP (D := (dC, dI)) (ci := 2) (v := .int v_29) (C := RX2) (T := TX2) (N := 10) hx hb hU inlX2 hown hK hP mo0 hfo_49 rfl 5 (by decide) (hU _ wd_256) (fun _ h9 => h9) rfl dX2_readX_126 ?_
          refine lv_iconst (v := 1) hx hb dX2_readX_129 (by decide) ?_
          refine lv_iadd hx hb dX2_readX_130 ?_
          refine lv_topi (fun x_51 ex_51 => ?_)
          have hx_51 : x_51.toInt = v_29.toInt + 1 := by rw [ex_51, ad_I (by rw [ti_1]; omega) (by rw [ti_1]; omega), ti_1]
          have bx_51 : (1 ≤ x_51.toInt ∧ x_51.toInt ≤ 600) := by constructor <;> omega
          refine tk_putP (D := (dC, dI)) (ci := 2) (v := .int x_51) (ty := .int) (C := RX2) (T := TX2) (N := 10) hx hb hU inlX2 tyX2 tyX2_ok nmX2 hown hK hP hD hS mo0 hfo_49 rfl 5 (by decide) (hU _ wd_256) (fun _ h9 => h9) rfl (by decide +kernel) rfl rfl (Nat.le_of_ble_eq_true rfl) dX2_readX_131 (fun H locs hP hD hS => ?_)
          obtain ⟨f_53, ef_53⟩ : ∃ y : Nat → va_E, y = va_up f_47 o0 (.inr (2, [.ref a_2, .int v_25, .int v_26, .ref a_5, .int v_6, .int x_51, .int v_30, .int v_9, .int v_10, .int 1])) := ⟨_, rfl⟩
          have hP : va_P (dC, dI) vwCl (va_pl L f_53) H := by rw [ef_53]; exact hP
          have hD : va_D (fun q => q ∈ L) (va_pl L f_53) := by rw [ef_53]; exact hD
          have hG : GI (okc cI cL cZ cR cG cH L kd) kd L f_53 := by rw [ef_53]; exact hG.set o0 (mk_2 ko0 ⟨a_2, v_25, v_26, a_5, v_6, x_51, v_30, v_9, v_10, 1, rfl, ⟨ma_2, ka_2⟩, ⟨ma_5, ka_5⟩, (by constructor <;> omega), (by constructor <;> omega), (by constructor <;> omega), (by constructor <;> omega), (by constructor <;> omega)⟩)
          have hfo_54 : f_53 a_5 = .inl (cI, 600, .inl g_35) := by rw [ef_53, up_ne (kd_ne ko0 ka_5 (by decide))]; exact hfo_48
          have hfr0 : ∀ b, kd b ≠ 2 → f_53 b = f b := fun b q2 => (congrFun ef_53 b).trans ((up_ne (fun e9 => q2 (by rw [e9]; exact ko0))).trans (hfr0 b q2))
          have hfr2_4 : ∀ b, kd b = 2 → fldI (f_53 b) 4 = fldI (f b) 4 := fun b kb => ((congrArg (fun x => fldI x 4) (congrFun ef_53 b)).trans (fk_up (by rw [hfo_49]; rfl) b)).trans (hfr2_4 b kb)
          have hfr2_7 : ∀ b, kd b = 2 → fldI (f_53 b) 7 = fldI (f b) 7 := fun b kb => ((congrArg (fun x => fldI x 7) (congrFun ef_53 b)).trans (fk_up (by rw [hfo_49]; rfl) b)).trans (hfr2_7 b kb)
          have hfr2_8 : ∀ b, kd b = 2 → fldI (f_53 b) 8 = fldI (f b) 8 := fun b kb => ((congrArg (fun x => fldI x 8) (congrFun ef_53 b)).trans (fk_up (by rw [hfo_49]; rfl) b)).trans (hfr2_8 b kb)
          have hrr2_0 : ∀ b, kd b = 2 → fldR (f_53 b) 0 = fldR (f b) 0 := fun b kb => ((congrArg (fun x => fldR x 0) (congrFun ef_53 b)).trans (fr_up (by rw [hfo_49]; rfl) b)).trans (hrr2_0 b kb)
          have hrr2_3 : ∀ b, kd b = 2 → fldR (f_53 b) 3 = fldR (f b) 3 := fun b kb => ((congrArg (fun x => fldR x 3) (congrFun ef_53 b)).trans (fr_up (by rw [hfo_49]; rfl) b)).trans (hrr2_3 b kb)
          have hfo_55 : f_53 o0 = .inr (2, [.ref a_2, .int v_25, .int v_26, .ref a_5, .int v_6, .int x_51, .int v_30, .int v_9, .int v_10, .int 1]) := by rw [ef_53]; exact up_self
          refine lv_iconst (v := 1) hx hb dX2_readX_134 (by decide) ?_
          exact W.zret (v := 1) (ty := .boolean) hx hb hr rfl (fun t ht hW => ⟨⟨1, f_53, rfl, ⟨hG, (by decide), hfr0, hfr2_4, hfr2_7, hfr2_8, hrr2_0, hrr2_3, (by intro w5 z5 e5 d5; rw [hfo_1] at e5; rw [hfo_55] at d5; obtain rfl := Option.some.inj e5; obtain rfl := Option.some.inj d5; (try rw [ti_1]) <;> omega)⟩, by rw [ht]; exact hP, va_K.moved hW.alike hK, pl_in hD⟩, hS.F ht⟩) hS.2.2 dX2_readX_135
      · skip
        rw [← Int32.toInt_inj, ti_48] at c_44
        refine lv_iload_n hx hb dX2_readX_71 rfl (lv_at hl 0 rfl) ?_
        refine lv_bipush (v := 63) hx hb dX2_readX_72 (by decide) ?_
        refine lv_icmp_ne (tgt := 97) hx hb dX2_readX_74 (by decide) (fun c_56 => ?_) (fun c_56 => ?_)
        · skip
          rw [← Int32.toInt_inj, ti_63] at c_56
          refine lv_aload_n hx hb dX2_readX_97 rfl (lv_at hl 1 rfl) ?_
          refine lv_iconst (v := 1) hx hb dX2_readX_98 (by decide) ?_
          refine lv_aload_n hx hb dX2_readX_99 rfl (lv_at hl 1 rfl) ?_
          refine tk_getP (D := (dC, dI)) (ci := 2) (v := .int v_29) (C := RX2) (T := TX2) (N := 10) hx hb hU inlX2 hown hK hP mo0 hfo_23 rfl 5 (by decide) (hU _ wd_256) (fun _ h9 => h9) rfl dX2_readX_100 ?_
          refine tk_ViP (As := [.int 1, .int v_29]) (rest := []) (n := 2) hx hb hml hown hU hN hZ (s_X2_fail_k2 l (dC, dI) cI cL cZ cR cG cH Z kd L f_13 hG o0 mo0 ko0 1 v_29) wd_349 wd_350 wd_351 wd_33 wd_352 (by decide +kernel) ⟨Nat.le_of_ble_eq_true rfl, Nat.le_of_ble_eq_true rfl⟩ hK hP hD hS mo0 hfo_23 2 rfl rfl rfl hl.1 rfl (Nat.le_of_ble_eq_true rfl) dX2_readX_103 ⟨Nat.le_of_ble_eq_true rfl, Nat.le_of_ble_eq_true rfl⟩ (fun x_57 f_58 H locs hw hP hD hS => ?_)
          obtain ⟨hG, bx_57, hkc_59, hfc_60, hfc_61, hfc_62, hfc_63, hrc_64, hrc_65⟩ := hw
          have hfo_67 : f_58 a_5 = .inl (cI, 600, .inl g_35) := by rw [hkc_59 a_5 (by rw [ka_5]; decide)]; exact hfo_34
          have hfr0 : ∀ b, kd b ≠ 2 → f_58 b = f b := fun b q2 => (hkc_59 b q2).trans (hfr0 b q2)
          have hfr2_4 : ∀ b, kd b = 2 → fldI (f_58 b) 4 = fldI (f b) 4 := fun b kb => (hfc_60 b kb).trans (hfr2_4 b kb)
          have hfr2_7 : ∀ b, kd b = 2 → fldI (f_58 b) 7 = fldI (f b) 7 := fun b kb => (hfc_62 b kb).trans (hfr2_7 b kb)
          have hfr2_8 : ∀ b, kd b = 2 → fldI (f_58 b) 8 = fldI (f b) 8 := fun b kb => (hfc_63 b kb).trans (hfr2_8 b kb)
          have hrr2_0 : ∀ b, kd b = 2 → fldR (f_58 b) 0 = fldR (f b) 0 := fun b kb => (hrc_64 b kb).trans (hrr2_0 b kb)
          have hrr2_3 : ∀ b, kd b = 2 → fldR (f_58 b) 3 = fldR (f b) 3 := fun b kb => (hrc_65 b kb).trans (hrr2_3 b kb)
          obtain ⟨a_69, v_70, v_71, a_72, v_73, v_74, v_75, v_76, v_77, v_78, hfo_68, ⟨ma_69, ka_69⟩, ⟨ma_72, ka_72⟩, bv_73, bv_74, bv_75, bv_76, bv_77⟩ := un_2 (hG _ mo0) ko0
          have bv_70 : ((-2147483648) ≤ v_70.toInt ∧ v_70.toInt ≤ 2147483647) := ⟨i32_lo _, i32_hi _⟩
          have bv_71 : ((-2147483648) ≤ v_71.toInt ∧ v_71.toInt ≤ 2147483647) := ⟨i32_lo _, i32_hi _⟩
          have bv_78 : ((-2147483648) ≤ v_78.toInt ∧ v_78.toInt ≤ 2147483647) := ⟨i32_lo _, i32_hi _⟩
          obtain rfl : a_2 = a_69 := by have hk9 := hrr2_0 o0 ko0; rw [hfo_68, hfo_1] at hk9; exact (Option.some.inj hk9).symm
          obtain rfl : a_5 = a_72 := by have hk9 := hrr2_3 o0 ko0; rw [hfo_68, hfo_1] at hk9; exact (Option.some.inj hk9).symm
          obtain rfl : v_6 = v_73 := by have hk9 := hfc_60 o0 ko0; rw [hfo_68, hfo_23] at hk9; exact (Option.some.inj hk9).symm
          obtain rfl : v_29 = v_74 := by have hk9 := hfc_61 o0 ko0; rw [hfo_68, hfo_23] at hk9; exact (Option.some.inj hk9).symm
          obtain rfl : v_9 = v_76 := by have hk9 := hfc_62 o0 ko0; rw [hfo_68, hfo_23] at hk9; exact (Option.some.inj hk9).symm
          obtain rfl : v_10 = v_77 := by have hk9 := hfc_63 o0 ko0; rw [hfo_68, hfo_23] at hk9; exact (Option.some.inj hk9).symm
          exact W.zret (v := x_57) (ty := .boolean) hx hb hr (zb_n (by constructor <;> omega)) (fun t ht hW => ⟨⟨x_57, f_58, rfl, ⟨hG, (by constructor <;> omega), hfr0, hfr2_4, hfr2_7, hfr2_8, hrr2_0, hrr2_3, (by intro w5 z5 e5 d5; rw [hfo_1] at e5; rw [hfo_68] at d5; obtain rfl := Option.some.inj e5; obtain rfl := Option.some.inj d5; omega)⟩, by rw [ht]; exact hP, va_K.moved hW.alike hK, pl_in hD⟩, hS.F ht⟩) hS.2.2 dX2_readX_106
        · skip
          rw [← Int32.toInt_inj, ti_63] at c_56
          refine lv_aload_n hx hb dX2_readX_77 rfl (lv_at hl 1 rfl) ?_
          refine lv_iload_n hx hb dX2_readX_78 rfl (lv_at hl 0 rfl) ?_
          refine lv_bipush (v := 48) hx hb dX2_readX_79 (by decide) ?_
          refine lv_icmp_ne (tgt := 88) hx hb dX2_readX_81 (by decide) (fun c_79 => ?_) (fun c_79 => ?_)
          · skip
            rw [← Int32.toInt_inj, ti_48] at c_79
            refine lv_sipush (v := 511) hx hb dX2_readX_88 (by decide) ?_
            refine tk_putP (D := (dC, dI)) (ci := 2) (v := .int 511) (ty := .int) (C := RX2) (T := TX2) (N := 10) hx hb hU inlX2 tyX2 tyX2_ok nmX2 hown hK hP hD hS mo0 hfo_23 rfl 9 (by decide) (hU _ wd_450) (fun _ h9 => h9) rfl (by decide +kernel) rfl rfl (Nat.le_of_ble_eq_true rfl) dX2_readX_91 (fun H locs hP hD hS => ?_)
            obtain ⟨f_81, ef_81⟩ : ∃ y : Nat → va_E, y = va_up f_13 o0 (.inr (2, [.ref a_2, .int v_25, .int v_26, .ref a_5, .int v_6, .int v_29, .int v_30, .int v_9, .int v_10, .int 511])) := ⟨_, rfl⟩
            have hP : va_P (dC, dI) vwCl (va_pl L f_81) H := by rw [ef_81]; exact hP
            have hD : va_D (fun q => q ∈ L) (va_pl L f_81) := by rw [ef_81]; exact hD
            have hG : GI (okc cI cL cZ cR cG cH L kd) kd L f_81 := by rw [ef_81]; exact hG.set o0 (mk_2 ko0 ⟨a_2, v_25, v_26, a_5, v_6, v_29, v_30, v_9, v_10, 511, rfl, ⟨ma_2, ka_2⟩, ⟨ma_5, ka_5⟩, (by constructor <;> omega), (by constructor <;> omega), (by constructor <;> omega), (by constructor <;> omega), (by constructor <;> omega)⟩)
            have hfo_82 : f_81 a_5 = .inl (cI, 600, .inl g_35) := by rw [ef_81, up_ne (kd_ne ko0 ka_5 (by decide))]; exact hfo_34
            have hfr0 : ∀ b, kd b ≠ 2 → f_81 b = f b := fun b q2 => (congrFun ef_81 b).trans ((up_ne (fun e9 => q2 (by rw [e9]; exact ko0))).trans (hfr0 b q2))
            have hfr2_4 : ∀ b, kd b = 2 → fldI (f_81 b) 4 = fldI (f b) 4 := fun b kb => ((congrArg (fun x => fldI x 4) (congrFun ef_81 b)).trans (fk_up (by rw [hfo_23]; rfl) b)).trans (hfr2_4 b kb)
            have hfr2_7 : ∀ b, kd b = 2 → fldI (f_81 b) 7 = fldI (f b) 7 := fun b kb => ((congrArg (fun x => fldI x 7) (congrFun ef_81 b)).trans (fk_up (by rw [hfo_23]; rfl) b)).trans (hfr2_7 b kb)
            have hfr2_8 : ∀ b, kd b = 2 → fldI (f_81 b) 8 = fldI (f b) 8 := fun b kb => ((congrArg (fun x => fldI x 8) (congrFun ef_81 b)).trans (fk_up (by rw [hfo_23]; rfl) b)).trans (hfr2_8 b kb)
            have hrr2_0 : ∀ b, kd b = 2 → fldR (f_81 b) 0 = fldR (f b) 0 := fun b kb => ((congrArg (fun x => fldR x 0) (congrFun ef_81 b)).trans (fr_up (by rw [hfo_23]; rfl) b)).trans (hrr2_0 b kb)
            have hrr2_3 : ∀ b, kd b = 2 → fldR (f_81 b) 3 = fldR (f b) 3 := fun b kb => ((congrArg (fun x => fldR x 3) (congrFun ef_81 b)).trans (fr_up (by rw [hfo_23]; rfl) b)).trans (hrr2_3 b kb)
            have hfo_83 : f_81 o0 = .inr (2, [.ref a_2, .int v_25, .int v_26, .ref a_5, .int v_6, .int v_29, .int v_30, .int v_9, .int v_10, .int 511]) := by rw [ef_81]; exact up_self
            refine lv_goto (tgt := 107) hx hb dX2_readX_94 (by decide) ?_
            refine lv_aload_n hx hb dX2_readX_107 rfl (lv_at hl 1 rfl) ?_
            refine tk_getP (D := (dC, dI)) (ci := 2) (v := .int 511) (C := RX2) (T := TX2) (N := 10) hx hb hU inlX2 hown hK hP mo0 hfo_83 rfl 9 (by decide) (hU _ wd_450) (fun _ h9 => h9) rfl dX2_readX_108 ?_
            refine lv_if_ne (tgt := 124) hx hb dX2_readX_111 (by decide) (fun _ => ?_) (fun c9 => absurd c9 (by decide))
            have hclc_84 : (0 ≤ v_29.toInt ∧ v_29.toInt ≤ 599) := by constructor <;> omega
            refine lv_aload_n hx hb dX2_readX_124 rfl (lv_at hl 1 rfl) ?_
            refine lv_dup hx hb dX2_readX_125 rfl ?_
            refine tk_getP (D := (dC, dI)) (ci := 2) (v := .int v_29) (C := RX2) (T := TX2) (N := 10) hx hb hU inlX2 hown hK hP mo0 hfo_83 rfl 5 (by decide) (hU _ wd_256) (fun _ h9 => h9) rfl dX2_readX_126 ?_
            refine lv_iconst (v := 1) hx hb dX2_readX_129 (by decide) ?_
            refine lv_iadd hx hb dX2_readX_130 ?_
            refine lv_topi (fun x_85 ex_85 => ?_)
            have hx_85 : x_85.toInt = v_29.toInt + 1 := by rw [ex_85, ad_I (by rw [ti_1]; omega) (by rw [ti_1]; omega), ti_1]
            have bx_85 : (1 ≤ x_85.toInt ∧ x_85.toInt ≤ 600) := by constructor <;> omega
            refine tk_putP (D := (dC, dI)) (ci := 2) (v := .int x_85) (ty := .int) (C := RX2) (T := TX2) (N := 10) hx hb hU inlX2 tyX2 tyX2_ok nmX2 hown hK hP hD hS mo0 hfo_83 rfl 5 (by decide) (hU _ wd_256) (fun _ h9 => h9) rfl (by decide +kernel) rfl rfl (Nat.le_of_ble_eq_true rfl) dX2_readX_131 (fun H locs hP hD hS => ?_)
            obtain ⟨f_87, ef_87⟩ : ∃ y : Nat → va_E, y = va_up f_81 o0 (.inr (2, [.ref a_2, .int v_25, .int v_26, .ref a_5, .int v_6, .int x_85, .int v_30, .int v_9, .int v_10, .int 511])) := ⟨_, rfl⟩
            have hP : va_P (dC, dI) vwCl (va_pl L f_87) H := by rw [ef_87]; exact hP
            have hD : va_D (fun q => q ∈ L) (va_pl L f_87) := by rw [ef_87]; exact hD
            have hG : GI (okc cI cL cZ cR cG cH L kd) kd L f_87 := by rw [ef_87]; exact hG.set o0 (mk_2 ko0 ⟨a_2, v_25, v_26, a_5, v_6, x_85, v_30, v_9, v_10, 511, rfl, ⟨ma_2, ka_2⟩, ⟨ma_5, ka_5⟩, (by constructor <;> omega), (by constructor <;> omega), (by constructor <;> omega), (by constructor <;> omega), (by constructor <;> omega)⟩)
            have hfo_88 : f_87 a_5 = .inl (cI, 600, .inl g_35) := by rw [ef_87, up_ne (kd_ne ko0 ka_5 (by decide))]; exact hfo_82
            have hfr0 : ∀ b, kd b ≠ 2 → f_87 b = f b := fun b q2 => (congrFun ef_87 b).trans ((up_ne (fun e9 => q2 (by rw [e9]; exact ko0))).trans (hfr0 b q2))
            have hfr2_4 : ∀ b, kd b = 2 → fldI (f_87 b) 4 = fldI (f b) 4 := fun b kb => ((congrArg (fun x => fldI x 4) (congrFun ef_87 b)).trans (fk_up (by rw [hfo_83]; rfl) b)).trans (hfr2_4 b kb)
            have hfr2_7 : ∀ b, kd b = 2 → fldI (f_87 b) 7 = fldI (f b) 7 := fun b kb => ((congrArg (fun x => fldI x 7) (congrFun ef_87 b)).trans (fk_up (by rw [hfo_83]; rfl) b)).trans (hfr2_7 b kb)
            have hfr2_8 : ∀ b, kd b = 2 → fldI (f_87 b) 8 = fldI (f b) 8 := fun b kb => ((congrArg (fun x => fldI x 8) (congrFun ef_87 b)).trans (fk_up (by rw [hfo_83]; rfl) b)).trans (hfr2_8 b kb)
            have hrr2_0 : ∀ b, kd b = 2 → fldR (f_87 b) 0 = fldR (f b) 0 := fun b kb => ((congrArg (fun x => fldR x 0) (congrFun ef_87 b)).trans (fr_up (by rw [hfo_83]; rfl) b)).trans (hrr2_0 b kb)
            have hrr2_3 : ∀ b, kd b = 2 → fldR (f_87 b) 3 = fldR (f b) 3 := fun b kb => ((congrArg (fun x => fldR x 3) (congrFun ef_87 b)).trans (fr_up (by rw [hfo_83]; rfl) b)).trans (hrr2_3 b kb)
            have hfo_89 : f_87 o0 = .inr (2, [.ref a_2, .int v_25, .int v_26, .ref a_5, .int v_6, .int x_85, .int v_30, .int v_9, .int v_10, .int 511]) := by rw [ef_87]; exact up_self
            refine lv_iconst (v := 1) hx hb dX2_readX_134 (by decide) ?_
            exact W.zret (v := 1) (ty := .boolean) hx hb hr rfl (fun t ht hW => ⟨⟨1, f_87, rfl, ⟨hG, (by decide), hfr0, hfr2_4, hfr2_7, hfr2_8, hrr2_0, hrr2_3, (by intro w5 z5 e5 d5; rw [hfo_1] at e5; rw [hfo_89] at d5; obtain rfl := Option.some.inj e5; obtain rfl := Option.some.inj d5; (try rw [ti_1]) <;> omega)⟩, by rw [ht]; exact hP, va_K.moved hW.alike hK, pl_in hD⟩, hS.F ht⟩) hS.2.2 dX2_readX_135
          · skip
            rw [← Int32.toInt_inj, ti_48] at c_79
            exfalso
            omega
    · skip
      rw [← Int32.toInt_inj, ti_0] at c_43
      refine lv_aload_n hx hb dX2_readX_46 rfl (lv_at hl 1 rfl) ?_
      refine lv_aload_n hx hb dX2_readX_47 rfl (lv_at hl 1 rfl) ?_
      refine tk_getP (D := (dC, dI)) (ci := 2) (v := .ref a_2) (C := RX2) (T := TX2) (N := 10) hx hb hU inlX2 hown hK hP mo0 hfo_23 rfl 0 (by decide) (hU _ wd_150) (fun _ h9 => h9) rfl dX2_readX_48 ?_
      obtain ⟨a_91, v_92, a_93, a_94, a_95, a_96, v_97, a_98, a_99, a_100, a_101, a_102, v_103, a_104, a_105, a_106, hfo_90, ⟨ma_91, ka_91⟩, bv_92, ⟨ma_93, ka_93⟩, ⟨ma_94, ka_94⟩, ⟨ma_95, ka_95⟩, ⟨ma_96, ka_96⟩, bv_97, ⟨ma_98, ka_98⟩, ⟨ma_99, ka_99⟩, ⟨ma_100, ka_100⟩, ⟨ma_101, ka_101⟩, ⟨ma_102, ka_102⟩, bv_103, ⟨ma_104, ka_104⟩, ⟨ma_105, ka_105⟩, ⟨ma_106, ka_106⟩⟩ := un_207 (hG _ ma_2) ka_2
      refine tk_getP (D := (dC, dI)) (ci := 7) (v := .ref a_93) (C := RX7) (T := TX7) (N := 16) hx hb hU inlX7 hown hK hP ma_2 hfo_90 rfl 2 (by decide) (hU _ wd_365) (fun _ h9 => h9) rfl dX2_readX_51 ?_
      refine lv_iload_n hx hb dX2_readX_54 rfl (lv_at hl 0 rfl) ?_
      refine lv_bipush (v := 65) hx hb dX2_readX_55 (by decide) ?_
      refine lv_isub hx hb dX2_readX_57 ?_
      refine lv_topi (fun x_107 ex_107 => ?_)
      have hx_107 : x_107.toInt = x_12.toInt - 65 := by rw [ex_107, sb_I (by rw [ti_65]; omega) (by rw [ti_65]; omega), ti_65]
      have bx_107 : (0 ≤ x_107.toInt ∧ x_107.toInt ≤ 5) := by constructor <;> omega
      obtain ⟨g_109, hfo_108, hbg_109⟩ := un_567 (hG _ ma_93) ka_93
      refine tk_ildP hx hb hK hP 0 ma_93 hfo_108 rfl (vp_in_iff.mpr (by constructor <;> omega)) dX2_readX_58 ?_
      refine lv_topi (fun x_110 ex_110 => ?_)
      have bx_110 : ((-2147483648) ≤ x_110.toInt ∧ x_110.toInt ≤ 2147483647) := ⟨i32_lo _, i32_hi _⟩
      refine tk_putP (D := (dC, dI)) (ci := 2) (v := .int x_110) (ty := .int) (C := RX2) (T := TX2) (N := 10) hx hb hU inlX2 tyX2 tyX2_ok nmX2 hown hK hP hD hS mo0 hfo_23 rfl 9 (by decide) (hU _ wd_450) (fun _ h9 => h9) rfl (by decide +kernel) rfl rfl (Nat.le_of_ble_eq_true rfl) dX2_readX_59 (fun H locs hP hD hS => ?_)
      obtain ⟨f_112, ef_112⟩ : ∃ y : Nat → va_E, y = va_up f_13 o0 (.inr (2, [.ref a_2, .int v_25, .int v_26, .ref a_5, .int v_6, .int v_29, .int v_30, .int v_9, .int v_10, .int x_110])) := ⟨_, rfl⟩
      have hP : va_P (dC, dI) vwCl (va_pl L f_112) H := by rw [ef_112]; exact hP
      have hD : va_D (fun q => q ∈ L) (va_pl L f_112) := by rw [ef_112]; exact hD
      have hG : GI (okc cI cL cZ cR cG cH L kd) kd L f_112 := by rw [ef_112]; exact hG.set o0 (mk_2 ko0 ⟨a_2, v_25, v_26, a_5, v_6, v_29, v_30, v_9, v_10, x_110, rfl, ⟨ma_2, ka_2⟩, ⟨ma_5, ka_5⟩, (by constructor <;> omega), (by constructor <;> omega), (by constructor <;> omega), (by constructor <;> omega), (by constructor <;> omega)⟩)
      have hfo_113 : f_112 a_5 = .inl (cI, 600, .inl g_35) := by rw [ef_112, up_ne (kd_ne ko0 ka_5 (by decide))]; exact hfo_34
      have hfo_114 : f_112 a_2 = .inr (7, [.ref a_91, .int v_92, .ref a_93, .ref a_94, .ref a_95, .ref a_96, .int v_97, .ref a_98, .ref a_99, .ref a_100, .ref a_101, .ref a_102, .int v_103, .ref a_104, .ref a_105, .ref a_106]) := by rw [ef_112, up_ne (kd_ne ko0 ka_2 (by decide))]; exact hfo_90
      have hfo_115 : f_112 a_93 = .inl (cI, 6, .inl g_109) := by rw [ef_112, up_ne (kd_ne ko0 ka_93 (by decide))]; exact hfo_108
      have hfr0 : ∀ b, kd b ≠ 2 → f_112 b = f b := fun b q2 => (congrFun ef_112 b).trans ((up_ne (fun e9 => q2 (by rw [e9]; exact ko0))).trans (hfr0 b q2))
      have hfr2_4 : ∀ b, kd b = 2 → fldI (f_112 b) 4 = fldI (f b) 4 := fun b kb => ((congrArg (fun x => fldI x 4) (congrFun ef_112 b)).trans (fk_up (by rw [hfo_23]; rfl) b)).trans (hfr2_4 b kb)
      have hfr2_7 : ∀ b, kd b = 2 → fldI (f_112 b) 7 = fldI (f b) 7 := fun b kb => ((congrArg (fun x => fldI x 7) (congrFun ef_112 b)).trans (fk_up (by rw [hfo_23]; rfl) b)).trans (hfr2_7 b kb)
      have hfr2_8 : ∀ b, kd b = 2 → fldI (f_112 b) 8 = fldI (f b) 8 := fun b kb => ((congrArg (fun x => fldI x 8) (congrFun ef_112 b)).trans (fk_up (by rw [hfo_23]; rfl) b)).trans (hfr2_8 b kb)
      have hrr2_0 : ∀ b, kd b = 2 → fldR (f_112 b) 0 = fldR (f b) 0 := fun b kb => ((congrArg (fun x => fldR x 0) (congrFun ef_112 b)).trans (fr_up (by rw [hfo_23]; rfl) b)).trans (hrr2_0 b kb)
      have hrr2_3 : ∀ b, kd b = 2 → fldR (f_112 b) 3 = fldR (f b) 3 := fun b kb => ((congrArg (fun x => fldR x 3) (congrFun ef_112 b)).trans (fr_up (by rw [hfo_23]; rfl) b)).trans (hrr2_3 b kb)
      have hfo_116 : f_112 o0 = .inr (2, [.ref a_2, .int v_25, .int v_26, .ref a_5, .int v_6, .int v_29, .int v_30, .int v_9, .int v_10, .int x_110]) := by rw [ef_112]; exact up_self
      refine lv_goto (tgt := 107) hx hb dX2_readX_62 (by decide) ?_
      refine lv_aload_n hx hb dX2_readX_107 rfl (lv_at hl 1 rfl) ?_
      refine tk_getP (D := (dC, dI)) (ci := 2) (v := .int x_110) (C := RX2) (T := TX2) (N := 10) hx hb hU inlX2 hown hK hP mo0 hfo_116 rfl 9 (by decide) (hU _ wd_450) (fun _ h9 => h9) rfl dX2_readX_108 ?_
      refine lv_if_ne (tgt := 124) hx hb dX2_readX_111 (by decide) (fun c_117 => ?_) (fun c_117 => ?_)
      · skip
        rw [← Int32.toInt_inj, ti_0] at c_117
        have hclc_118 : (0 ≤ v_29.toInt ∧ v_29.toInt ≤ 599) := by constructor <;> omega
        refine lv_aload_n hx hb dX2_readX_124 rfl (lv_at hl 1 rfl) ?_
        refine lv_dup hx hb dX2_readX_125 rfl ?_
        refine tk_getP (D := (dC, dI)) (ci := 2) (v := .int v_29) (C := RX2) (T := TX2) (N := 10) hx hb hU inlX2 hown hK hP mo0 hfo_116 rfl 5 (by decide) (hU _ wd_256) (fun _ h9 => h9) rfl dX2_readX_126 ?_
        refine lv_iconst (v := 1) hx hb dX2_readX_129 (by decide) ?_
        refine lv_iadd hx hb dX2_readX_130 ?_
        refine lv_topi (fun x_119 ex_119 => ?_)
        have hx_119 : x_119.toInt = v_29.toInt + 1 := by rw [ex_119, ad_I (by rw [ti_1]; omega) (by rw [ti_1]; omega), ti_1]
        have bx_119 : (1 ≤ x_119.toInt ∧ x_119.toInt ≤ 600) := by constructor <;> omega
        refine tk_putP (D := (dC, dI)) (ci := 2) (v := .int x_119) (ty := .int) (C := RX2) (T := TX2) (N := 10) hx hb hU inlX2 tyX2 tyX2_ok nmX2 hown hK hP hD hS mo0 hfo_116 rfl 5 (by decide) (hU _ wd_256) (fun _ h9 => h9) rfl (by decide +kernel) rfl rfl (Nat.le_of_ble_eq_true rfl) dX2_readX_131 (fun H locs hP hD hS => ?_)
        obtain ⟨f_121, ef_121⟩ : ∃ y : Nat → va_E, y = va_up f_112 o0 (.inr (2, [.ref a_2, .int v_25, .int v_26, .ref a_5, .int v_6, .int x_119, .int v_30, .int v_9, .int v_10, .int x_110])) := ⟨_, rfl⟩
        have hP : va_P (dC, dI) vwCl (va_pl L f_121) H := by rw [ef_121]; exact hP
        have hD : va_D (fun q => q ∈ L) (va_pl L f_121) := by rw [ef_121]; exact hD
        have hG : GI (okc cI cL cZ cR cG cH L kd) kd L f_121 := by rw [ef_121]; exact hG.set o0 (mk_2 ko0 ⟨a_2, v_25, v_26, a_5, v_6, x_119, v_30, v_9, v_10, x_110, rfl, ⟨ma_2, ka_2⟩, ⟨ma_5, ka_5⟩, (by constructor <;> omega), (by constructor <;> omega), (by constructor <;> omega), (by constructor <;> omega), (by constructor <;> omega)⟩)
        have hfo_122 : f_121 a_5 = .inl (cI, 600, .inl g_35) := by rw [ef_121, up_ne (kd_ne ko0 ka_5 (by decide))]; exact hfo_113
        have hfo_123 : f_121 a_2 = .inr (7, [.ref a_91, .int v_92, .ref a_93, .ref a_94, .ref a_95, .ref a_96, .int v_97, .ref a_98, .ref a_99, .ref a_100, .ref a_101, .ref a_102, .int v_103, .ref a_104, .ref a_105, .ref a_106]) := by rw [ef_121, up_ne (kd_ne ko0 ka_2 (by decide))]; exact hfo_114
        have hfo_124 : f_121 a_93 = .inl (cI, 6, .inl g_109) := by rw [ef_121, up_ne (kd_ne ko0 ka_93 (by decide))]; exact hfo_115
        have hfr0 : ∀ b, kd b ≠ 2 → f_121 b = f b := fun b q2 => (congrFun ef_121 b).trans ((up_ne (fun e9 => q2 (by rw [e9]; exact ko0))).trans (hfr0 b q2))
        have hfr2_4 : ∀ b, kd b = 2 → fldI (f_121 b) 4 = fldI (f b) 4 := fun b kb => ((congrArg (fun x => fldI x 4) (congrFun ef_121 b)).trans (fk_up (by rw [hfo_116]; rfl) b)).trans (hfr2_4 b kb)
        have hfr2_7 : ∀ b, kd b = 2 → fldI (f_121 b) 7 = fldI (f b) 7 := fun b kb => ((congrArg (fun x => fldI x 7) (congrFun ef_121 b)).trans (fk_up (by rw [hfo_116]; rfl) b)).trans (hfr2_7 b kb)
        have hfr2_8 : ∀ b, kd b = 2 → fldI (f_121 b) 8 = fldI (f b) 8 := fun b kb => ((congrArg (fun x => fldI x 8) (congrFun ef_121 b)).trans (fk_up (by rw [hfo_116]; rfl) b)).trans (hfr2_8 b kb)
        have hrr2_0 : ∀ b, kd b = 2 → fldR (f_121 b) 0 = fldR (f b) 0 := fun b kb => ((congrArg (fun x => fldR x 0) (congrFun ef_121 b)).trans (fr_up (by rw [hfo_116]; rfl) b)).trans (hrr2_0 b kb)
        have hrr2_3 : ∀ b, kd b = 2 → fldR (f_121 b) 3 = fldR (f b) 3 := fun b kb => ((congrArg (fun x => fldR x 3) (congrFun ef_121 b)).trans (fr_up (by rw [hfo_116]; rfl) b)).trans (hrr2_3 b kb)
        have hfo_125 : f_121 o0 = .inr (2, [.ref a_2, .int v_25, .int v_26, .ref a_5, .int v_6, .int x_119, .int v_30, .int v_9, .int v_10, .int x_110]) := by rw [ef_121]; exact up_self
        refine lv_iconst (v := 1) hx hb dX2_readX_134 (by decide) ?_
        exact W.zret (v := 1) (ty := .boolean) hx hb hr rfl (fun t ht hW => ⟨⟨1, f_121, rfl, ⟨hG, (by decide), hfr0, hfr2_4, hfr2_7, hfr2_8, hrr2_0, hrr2_3, (by intro w5 z5 e5 d5; rw [hfo_1] at e5; rw [hfo_125] at d5; obtain rfl := Option.some.inj e5; obtain rfl := Option.some.inj d5; (try rw [ti_1]) <;> omega)⟩, by rw [ht]; exact hP, va_K.moved hW.alike hK, pl_in hD⟩, hS.F ht⟩) hS.2.2 dX2_readX_135
      · skip
        rw [← Int32.toInt_inj, ti_0] at c_117
        refine lv_aload_n hx hb dX2_readX_114 rfl (lv_at hl 1 rfl) ?_
        refine lv_iconst (v := 2) hx hb dX2_readX_115 (by decide) ?_
        refine lv_aload_n hx hb dX2_readX_116 rfl (lv_at hl 1 rfl) ?_
        refine tk_getP (D := (dC, dI)) (ci := 2) (v := .int v_29) (C := RX2) (T := TX2) (N := 10) hx hb hU inlX2 hown hK hP mo0 hfo_116 rfl 5 (by decide) (hU _ wd_256) (fun _ h9 => h9) rfl dX2_readX_117 ?_
        refine tk_ViP (As := [.int 2, .int v_29]) (rest := []) (n := 2) hx hb hml hown hU hN hZ (s_X2_fail_k2 l (dC, dI) cI cL cZ cR cG cH Z kd L f_112 hG o0 mo0 ko0 2 v_29) wd_349 wd_350 wd_351 wd_33 wd_352 (by decide +kernel) ⟨Nat.le_of_ble_eq_true rfl, Nat.le_of_ble_eq_true rfl⟩ hK hP hD hS mo0 hfo_116 2 rfl rfl rfl hl.1 rfl (Nat.le_of_ble_eq_true rfl) dX2_readX_120 ⟨Nat.le_of_ble_eq_true rfl, Nat.le_of_ble_eq_true rfl⟩ (fun x_126 f_127 H locs hw hP hD hS => ?_)
        obtain ⟨hG, bx_126, hkc_128, hfc_129, hfc_130, hfc_131, hfc_132, hrc_133, hrc_134⟩ := hw
        have hfo_136 : f_127 a_5 = .inl (cI, 600, .inl g_35) := by rw [hkc_128 a_5 (by rw [ka_5]; decide)]; exact hfo_113
        have hfo_137 : f_127 a_2 = .inr (7, [.ref a_91, .int v_92, .ref a_93, .ref a_94, .ref a_95, .ref a_96, .int v_97, .ref a_98, .ref a_99, .ref a_100, .ref a_101, .ref a_102, .int v_103, .ref a_104, .ref a_105, .ref a_106]) := by rw [hkc_128 a_2 (by rw [ka_2]; decide)]; exact hfo_114
        have hfo_138 : f_127 a_93 = .inl (cI, 6, .inl g_109) := by rw [hkc_128 a_93 (by rw [ka_93]; decide)]; exact hfo_115
        have hfr0 : ∀ b, kd b ≠ 2 → f_127 b = f b := fun b q2 => (hkc_128 b q2).trans (hfr0 b q2)
        have hfr2_4 : ∀ b, kd b = 2 → fldI (f_127 b) 4 = fldI (f b) 4 := fun b kb => (hfc_129 b kb).trans (hfr2_4 b kb)
        have hfr2_7 : ∀ b, kd b = 2 → fldI (f_127 b) 7 = fldI (f b) 7 := fun b kb => (hfc_131 b kb).trans (hfr2_7 b kb)
        have hfr2_8 : ∀ b, kd b = 2 → fldI (f_127 b) 8 = fldI (f b) 8 := fun b kb => (hfc_132 b kb).trans (hfr2_8 b kb)
        have hrr2_0 : ∀ b, kd b = 2 → fldR (f_127 b) 0 = fldR (f b) 0 := fun b kb => (hrc_133 b kb).trans (hrr2_0 b kb)
        have hrr2_3 : ∀ b, kd b = 2 → fldR (f_127 b) 3 = fldR (f b) 3 := fun b kb => (hrc_134 b kb).trans (hrr2_3 b kb)
        obtain ⟨a_140, v_141, v_142, a_143, v_144, v_145, v_146, v_147, v_148, v_149, hfo_139, ⟨ma_140, ka_140⟩, ⟨ma_143, ka_143⟩, bv_144, bv_145, bv_146, bv_147, bv_148⟩ := un_2 (hG _ mo0) ko0
        have bv_141 : ((-2147483648) ≤ v_141.toInt ∧ v_141.toInt ≤ 2147483647) := ⟨i32_lo _, i32_hi _⟩
        have bv_142 : ((-2147483648) ≤ v_142.toInt ∧ v_142.toInt ≤ 2147483647) := ⟨i32_lo _, i32_hi _⟩
        have bv_149 : ((-2147483648) ≤ v_149.toInt ∧ v_149.toInt ≤ 2147483647) := ⟨i32_lo _, i32_hi _⟩
        obtain rfl : a_2 = a_140 := by have hk9 := hrr2_0 o0 ko0; rw [hfo_139, hfo_1] at hk9; exact (Option.some.inj hk9).symm
        obtain rfl : a_5 = a_143 := by have hk9 := hrr2_3 o0 ko0; rw [hfo_139, hfo_1] at hk9; exact (Option.some.inj hk9).symm
        obtain rfl : v_6 = v_144 := by have hk9 := hfc_129 o0 ko0; rw [hfo_139, hfo_116] at hk9; exact (Option.some.inj hk9).symm
        obtain rfl : v_29 = v_145 := by have hk9 := hfc_130 o0 ko0; rw [hfo_139, hfo_116] at hk9; exact (Option.some.inj hk9).symm
        obtain rfl : v_9 = v_147 := by have hk9 := hfc_131 o0 ko0; rw [hfo_139, hfo_116] at hk9; exact (Option.some.inj hk9).symm
        obtain rfl : v_10 = v_148 := by have hk9 := hfc_132 o0 ko0; rw [hfo_139, hfo_116] at hk9; exact (Option.some.inj hk9).symm
        exact W.zret (v := x_126) (ty := .boolean) hx hb hr (zb_n (by constructor <;> omega)) (fun t ht hW => ⟨⟨x_126, f_127, rfl, ⟨hG, (by constructor <;> omega), hfr0, hfr2_4, hfr2_7, hfr2_8, hrr2_0, hrr2_3, (by intro w5 z5 e5 d5; rw [hfo_1] at e5; rw [hfo_139] at d5; obtain rfl := Option.some.inj e5; obtain rfl := Option.some.inj d5; omega)⟩, by rw [ht]; exact hP, va_K.moved hW.alike hK, pl_in hD⟩, hS.F ht⟩) hS.2.2 dX2_readX_123
  · skip
    rw [← Int32.toInt_inj, ti_0] at c_39
    refine lv_aload_n hx hb dX2_readX_12 rfl (lv_at hl 1 rfl) ?_
    refine tk_getP (D := (dC, dI)) (ci := 2) (v := .ref a_2) (C := RX2) (T := TX2) (N := 10) hx hb hU inlX2 hown hK hP mo0 hfo_23 rfl 0 (by decide) (hU _ wd_150) (fun _ h9 => h9) rfl dX2_readX_13 ?_
    refine lv_iload_n hx hb dX2_readX_16 rfl (lv_at hl 0 rfl) ?_
    obtain ⟨a_151, v_152, a_153, a_154, a_155, a_156, v_157, a_158, a_159, a_160, a_161, a_162, v_163, a_164, a_165, a_166, hfo_150, ⟨ma_151, ka_151⟩, bv_152, ⟨ma_153, ka_153⟩, ⟨ma_154, ka_154⟩, ⟨ma_155, ka_155⟩, ⟨ma_156, ka_156⟩, bv_157, ⟨ma_158, ka_158⟩, ⟨ma_159, ka_159⟩, ⟨ma_160, ka_160⟩, ⟨ma_161, ka_161⟩, ⟨ma_162, ka_162⟩, bv_163, ⟨ma_164, ka_164⟩, ⟨ma_165, ka_165⟩, ⟨ma_166, ka_166⟩⟩ := un_207 (hG _ ma_2) ka_2
    refine tk_ViP (As := [.int x_12]) (rest := []) (n := 1) hx hb hml hown hU hN hZ (s_X7_signOf_k207 l (dC, dI) cI cL cZ cR cG cH Z kd L f_13 hG a_2 ma_2 ka_2 x_12) wd_345 wd_346 wd_347 wd_28 wd_348 (by decide +kernel) ⟨Nat.le_of_ble_eq_true rfl, Nat.le_of_ble_eq_true rfl⟩ hK hP hD hS ma_2 hfo_150 7 rfl rfl rfl hl.1 rfl (Nat.le_of_ble_eq_true rfl) dX2_readX_17 ⟨Nat.le_of_ble_eq_true rfl, Nat.le_of_ble_eq_true rfl⟩ (fun x_167 f_168 H locs hw hP hD hS => ?_)
    obtain ⟨rfl, bx_167⟩ := hw
    refine lv_istore_n (lv' := [(2, .int x_167), (1, .int x_12), (0, .ref o0)]) hx hb dX2_readX_20 rfl hl (by decide) rfl (fun ls hl => ?_)
    refine lv_aload_n hx hb dX2_readX_21 rfl (lv_at hl 2 rfl) ?_
    refine lv_iload_n hx hb dX2_readX_22 rfl (lv_at hl 0 rfl) ?_
    refine lv_if_ne (tgt := 30) hx hb dX2_readX_23 (by decide) (fun c_170 => ?_) (fun c_170 => ?_)
    · skip
      rw [← Int32.toInt_inj, ti_0] at c_170
      refine lv_iconst (v := 1) hx hb dX2_readX_30 (by decide) ?_
      refine lv_iload_n hx hb dX2_readX_31 rfl (lv_at hl 0 rfl) ?_
      refine lv_ishl hx hb dX2_readX_32 ?_
      refine lv_topi (fun x_171 ex_171 => ?_)
      have bx_171 : (1 ≤ x_171.toInt ∧ x_171.toInt ≤ 256) := by rw [ex_171]; exact sh_8 (by constructor <;> omega)
      refine tk_putP (D := (dC, dI)) (ci := 2) (v := .int x_171) (ty := .int) (C := RX2) (T := TX2) (N := 10) hx hb hU inlX2 tyX2 tyX2_ok nmX2 hown hK hP hD hS mo0 hfo_23 rfl 9 (by decide) (hU _ wd_450) (fun _ h9 => h9) rfl (by decide +kernel) rfl rfl (Nat.le_of_ble_eq_true rfl) dX2_readX_33 (fun H locs hP hD hS => ?_)
      obtain ⟨f_173, ef_173⟩ : ∃ y : Nat → va_E, y = va_up f_13 o0 (.inr (2, [.ref a_2, .int v_25, .int v_26, .ref a_5, .int v_6, .int v_29, .int v_30, .int v_9, .int v_10, .int x_171])) := ⟨_, rfl⟩
      have hP : va_P (dC, dI) vwCl (va_pl L f_173) H := by rw [ef_173]; exact hP
      have hD : va_D (fun q => q ∈ L) (va_pl L f_173) := by rw [ef_173]; exact hD
      have hG : GI (okc cI cL cZ cR cG cH L kd) kd L f_173 := by rw [ef_173]; exact hG.set o0 (mk_2 ko0 ⟨a_2, v_25, v_26, a_5, v_6, v_29, v_30, v_9, v_10, x_171, rfl, ⟨ma_2, ka_2⟩, ⟨ma_5, ka_5⟩, (by constructor <;> omega), (by constructor <;> omega), (by constructor <;> omega), (by constructor <;> omega), (by constructor <;> omega)⟩)
      have hfo_174 : f_173 a_5 = .inl (cI, 600, .inl g_35) := by rw [ef_173, up_ne (kd_ne ko0 ka_5 (by decide))]; exact hfo_34
      have hfo_175 : f_173 a_2 = .inr (7, [.ref a_151, .int v_152, .ref a_153, .ref a_154, .ref a_155, .ref a_156, .int v_157, .ref a_158, .ref a_159, .ref a_160, .ref a_161, .ref a_162, .int v_163, .ref a_164, .ref a_165, .ref a_166]) := by rw [ef_173, up_ne (kd_ne ko0 ka_2 (by decide))]; exact hfo_150
      have hfr0 : ∀ b, kd b ≠ 2 → f_173 b = f b := fun b q2 => (congrFun ef_173 b).trans ((up_ne (fun e9 => q2 (by rw [e9]; exact ko0))).trans (hfr0 b q2))
      have hfr2_4 : ∀ b, kd b = 2 → fldI (f_173 b) 4 = fldI (f b) 4 := fun b kb => ((congrArg (fun x => fldI x 4) (congrFun ef_173 b)).trans (fk_up (by rw [hfo_23]; rfl) b)).trans (hfr2_4 b kb)
      have hfr2_7 : ∀ b, kd b = 2 → fldI (f_173 b) 7 = fldI (f b) 7 := fun b kb => ((congrArg (fun x => fldI x 7) (congrFun ef_173 b)).trans (fk_up (by rw [hfo_23]; rfl) b)).trans (hfr2_7 b kb)
      have hfr2_8 : ∀ b, kd b = 2 → fldI (f_173 b) 8 = fldI (f b) 8 := fun b kb => ((congrArg (fun x => fldI x 8) (congrFun ef_173 b)).trans (fk_up (by rw [hfo_23]; rfl) b)).trans (hfr2_8 b kb)
      have hrr2_0 : ∀ b, kd b = 2 → fldR (f_173 b) 0 = fldR (f b) 0 := fun b kb => ((congrArg (fun x => fldR x 0) (congrFun ef_173 b)).trans (fr_up (by rw [hfo_23]; rfl) b)).trans (hrr2_0 b kb)
      have hrr2_3 : ∀ b, kd b = 2 → fldR (f_173 b) 3 = fldR (f b) 3 := fun b kb => ((congrArg (fun x => fldR x 3) (congrFun ef_173 b)).trans (fr_up (by rw [hfo_23]; rfl) b)).trans (hrr2_3 b kb)
      have hfo_176 : f_173 o0 = .inr (2, [.ref a_2, .int v_25, .int v_26, .ref a_5, .int v_6, .int v_29, .int v_30, .int v_9, .int v_10, .int x_171]) := by rw [ef_173]; exact up_self
      refine lv_goto (tgt := 107) hx hb dX2_readX_36 (by decide) ?_
      refine lv_aload_n hx hb dX2_readX_107 rfl (lv_at hl 2 rfl) ?_
      refine tk_getP (D := (dC, dI)) (ci := 2) (v := .int x_171) (C := RX2) (T := TX2) (N := 10) hx hb hU inlX2 hown hK hP mo0 hfo_176 rfl 9 (by decide) (hU _ wd_450) (fun _ h9 => h9) rfl dX2_readX_108 ?_
      refine lv_if_ne (tgt := 124) hx hb dX2_readX_111 (by decide) (fun c_177 => ?_) (fun c_177 => ?_)
      · skip
        rw [← Int32.toInt_inj, ti_0] at c_177
        have hclc_178 : (0 ≤ v_29.toInt ∧ v_29.toInt ≤ 599) := by constructor <;> omega
        refine lv_aload_n hx hb dX2_readX_124 rfl (lv_at hl 2 rfl) ?_
        refine lv_dup hx hb dX2_readX_125 rfl ?_
        refine tk_getP (D := (dC, dI)) (ci := 2) (v := .int v_29) (C := RX2) (T := TX2) (N := 10) hx hb hU inlX2 hown hK hP mo0 hfo_176 rfl 5 (by decide) (hU _ wd_256) (fun _ h9 => h9) rfl dX2_readX_126 ?_
        refine lv_iconst (v := 1) hx hb dX2_readX_129 (by decide) ?_
        refine lv_iadd hx hb dX2_readX_130 ?_
        refine lv_topi (fun x_179 ex_179 => ?_)
        have hx_179 : x_179.toInt = v_29.toInt + 1 := by rw [ex_179, ad_I (by rw [ti_1]; omega) (by rw [ti_1]; omega), ti_1]
        have bx_179 : (1 ≤ x_179.toInt ∧ x_179.toInt ≤ 600) := by constructor <;> omega
        refine tk_putP (D := (dC, dI)) (ci := 2) (v := .int x_179) (ty := .int) (C := RX2) (T := TX2) (N := 10) hx hb hU inlX2 tyX2 tyX2_ok nmX2 hown hK hP hD hS mo0 hfo_176 rfl 5 (by decide) (hU _ wd_256) (fun _ h9 => h9) rfl (by decide +kernel) rfl rfl (Nat.le_of_ble_eq_true rfl) dX2_readX_131 (fun H locs hP hD hS => ?_)
        obtain ⟨f_181, ef_181⟩ : ∃ y : Nat → va_E, y = va_up f_173 o0 (.inr (2, [.ref a_2, .int v_25, .int v_26, .ref a_5, .int v_6, .int x_179, .int v_30, .int v_9, .int v_10, .int x_171])) := ⟨_, rfl⟩
        have hP : va_P (dC, dI) vwCl (va_pl L f_181) H := by rw [ef_181]; exact hP
        have hD : va_D (fun q => q ∈ L) (va_pl L f_181) := by rw [ef_181]; exact hD
        have hG : GI (okc cI cL cZ cR cG cH L kd) kd L f_181 := by rw [ef_181]; exact hG.set o0 (mk_2 ko0 ⟨a_2, v_25, v_26, a_5, v_6, x_179, v_30, v_9, v_10, x_171, rfl, ⟨ma_2, ka_2⟩, ⟨ma_5, ka_5⟩, (by constructor <;> omega), (by constructor <;> omega), (by constructor <;> omega), (by constructor <;> omega), (by constructor <;> omega)⟩)
        have hfo_182 : f_181 a_5 = .inl (cI, 600, .inl g_35) := by rw [ef_181, up_ne (kd_ne ko0 ka_5 (by decide))]; exact hfo_174
        have hfo_183 : f_181 a_2 = .inr (7, [.ref a_151, .int v_152, .ref a_153, .ref a_154, .ref a_155, .ref a_156, .int v_157, .ref a_158, .ref a_159, .ref a_160, .ref a_161, .ref a_162, .int v_163, .ref a_164, .ref a_165, .ref a_166]) := by rw [ef_181, up_ne (kd_ne ko0 ka_2 (by decide))]; exact hfo_175
        have hfr0 : ∀ b, kd b ≠ 2 → f_181 b = f b := fun b q2 => (congrFun ef_181 b).trans ((up_ne (fun e9 => q2 (by rw [e9]; exact ko0))).trans (hfr0 b q2))
        have hfr2_4 : ∀ b, kd b = 2 → fldI (f_181 b) 4 = fldI (f b) 4 := fun b kb => ((congrArg (fun x => fldI x 4) (congrFun ef_181 b)).trans (fk_up (by rw [hfo_176]; rfl) b)).trans (hfr2_4 b kb)
        have hfr2_7 : ∀ b, kd b = 2 → fldI (f_181 b) 7 = fldI (f b) 7 := fun b kb => ((congrArg (fun x => fldI x 7) (congrFun ef_181 b)).trans (fk_up (by rw [hfo_176]; rfl) b)).trans (hfr2_7 b kb)
        have hfr2_8 : ∀ b, kd b = 2 → fldI (f_181 b) 8 = fldI (f b) 8 := fun b kb => ((congrArg (fun x => fldI x 8) (congrFun ef_181 b)).trans (fk_up (by rw [hfo_176]; rfl) b)).trans (hfr2_8 b kb)
        have hrr2_0 : ∀ b, kd b = 2 → fldR (f_181 b) 0 = fldR (f b) 0 := fun b kb => ((congrArg (fun x => fldR x 0) (congrFun ef_181 b)).trans (fr_up (by rw [hfo_176]; rfl) b)).trans (hrr2_0 b kb)
        have hrr2_3 : ∀ b, kd b = 2 → fldR (f_181 b) 3 = fldR (f b) 3 := fun b kb => ((congrArg (fun x => fldR x 3) (congrFun ef_181 b)).trans (fr_up (by rw [hfo_176]; rfl) b)).trans (hrr2_3 b kb)
        have hfo_184 : f_181 o0 = .inr (2, [.ref a_2, .int v_25, .int v_26, .ref a_5, .int v_6, .int x_179, .int v_30, .int v_9, .int v_10, .int x_171]) := by rw [ef_181]; exact up_self
        refine lv_iconst (v := 1) hx hb dX2_readX_134 (by decide) ?_
        exact W.zret (v := 1) (ty := .boolean) hx hb hr rfl (fun t ht hW => ⟨⟨1, f_181, rfl, ⟨hG, (by decide), hfr0, hfr2_4, hfr2_7, hfr2_8, hrr2_0, hrr2_3, (by intro w5 z5 e5 d5; rw [hfo_1] at e5; rw [hfo_184] at d5; obtain rfl := Option.some.inj e5; obtain rfl := Option.some.inj d5; (try rw [ti_1]) <;> omega)⟩, by rw [ht]; exact hP, va_K.moved hW.alike hK, pl_in hD⟩, hS.F ht⟩) hS.2.2 dX2_readX_135
      · skip
        rw [← Int32.toInt_inj, ti_0] at c_177
        exfalso
        omega
    · skip
      rw [← Int32.toInt_inj, ti_0] at c_170
      refine lv_iconst (v := 0) hx hb dX2_readX_26 (by decide) ?_
      refine lv_goto (tgt := 33) hx hb dX2_readX_27 (by decide) ?_
      refine tk_putP (D := (dC, dI)) (ci := 2) (v := .int 0) (ty := .int) (C := RX2) (T := TX2) (N := 10) hx hb hU inlX2 tyX2 tyX2_ok nmX2 hown hK hP hD hS mo0 hfo_23 rfl 9 (by decide) (hU _ wd_450) (fun _ h9 => h9) rfl (by decide +kernel) rfl rfl (Nat.le_of_ble_eq_true rfl) dX2_readX_33 (fun H locs hP hD hS => ?_)
      obtain ⟨f_186, ef_186⟩ : ∃ y : Nat → va_E, y = va_up f_13 o0 (.inr (2, [.ref a_2, .int v_25, .int v_26, .ref a_5, .int v_6, .int v_29, .int v_30, .int v_9, .int v_10, .int 0])) := ⟨_, rfl⟩
      have hP : va_P (dC, dI) vwCl (va_pl L f_186) H := by rw [ef_186]; exact hP
      have hD : va_D (fun q => q ∈ L) (va_pl L f_186) := by rw [ef_186]; exact hD
      have hG : GI (okc cI cL cZ cR cG cH L kd) kd L f_186 := by rw [ef_186]; exact hG.set o0 (mk_2 ko0 ⟨a_2, v_25, v_26, a_5, v_6, v_29, v_30, v_9, v_10, 0, rfl, ⟨ma_2, ka_2⟩, ⟨ma_5, ka_5⟩, (by constructor <;> omega), (by constructor <;> omega), (by constructor <;> omega), (by constructor <;> omega), (by constructor <;> omega)⟩)
      have hfo_187 : f_186 a_5 = .inl (cI, 600, .inl g_35) := by rw [ef_186, up_ne (kd_ne ko0 ka_5 (by decide))]; exact hfo_34
      have hfo_188 : f_186 a_2 = .inr (7, [.ref a_151, .int v_152, .ref a_153, .ref a_154, .ref a_155, .ref a_156, .int v_157, .ref a_158, .ref a_159, .ref a_160, .ref a_161, .ref a_162, .int v_163, .ref a_164, .ref a_165, .ref a_166]) := by rw [ef_186, up_ne (kd_ne ko0 ka_2 (by decide))]; exact hfo_150
      have hfr0 : ∀ b, kd b ≠ 2 → f_186 b = f b := fun b q2 => (congrFun ef_186 b).trans ((up_ne (fun e9 => q2 (by rw [e9]; exact ko0))).trans (hfr0 b q2))
      have hfr2_4 : ∀ b, kd b = 2 → fldI (f_186 b) 4 = fldI (f b) 4 := fun b kb => ((congrArg (fun x => fldI x 4) (congrFun ef_186 b)).trans (fk_up (by rw [hfo_23]; rfl) b)).trans (hfr2_4 b kb)
      have hfr2_7 : ∀ b, kd b = 2 → fldI (f_186 b) 7 = fldI (f b) 7 := fun b kb => ((congrArg (fun x => fldI x 7) (congrFun ef_186 b)).trans (fk_up (by rw [hfo_23]; rfl) b)).trans (hfr2_7 b kb)
      have hfr2_8 : ∀ b, kd b = 2 → fldI (f_186 b) 8 = fldI (f b) 8 := fun b kb => ((congrArg (fun x => fldI x 8) (congrFun ef_186 b)).trans (fk_up (by rw [hfo_23]; rfl) b)).trans (hfr2_8 b kb)
      have hrr2_0 : ∀ b, kd b = 2 → fldR (f_186 b) 0 = fldR (f b) 0 := fun b kb => ((congrArg (fun x => fldR x 0) (congrFun ef_186 b)).trans (fr_up (by rw [hfo_23]; rfl) b)).trans (hrr2_0 b kb)
      have hrr2_3 : ∀ b, kd b = 2 → fldR (f_186 b) 3 = fldR (f b) 3 := fun b kb => ((congrArg (fun x => fldR x 3) (congrFun ef_186 b)).trans (fr_up (by rw [hfo_23]; rfl) b)).trans (hrr2_3 b kb)
      have hfo_189 : f_186 o0 = .inr (2, [.ref a_2, .int v_25, .int v_26, .ref a_5, .int v_6, .int v_29, .int v_30, .int v_9, .int v_10, .int 0]) := by rw [ef_186]; exact up_self
      refine lv_goto (tgt := 107) hx hb dX2_readX_36 (by decide) ?_
      refine lv_aload_n hx hb dX2_readX_107 rfl (lv_at hl 2 rfl) ?_
      refine tk_getP (D := (dC, dI)) (ci := 2) (v := .int 0) (C := RX2) (T := TX2) (N := 10) hx hb hU inlX2 hown hK hP mo0 hfo_189 rfl 9 (by decide) (hU _ wd_450) (fun _ h9 => h9) rfl dX2_readX_108 ?_
      refine lv_if_ne (tgt := 124) hx hb dX2_readX_111 (by decide) (fun c9 => absurd (by decide) c9) (fun _ => ?_)
      refine lv_aload_n hx hb dX2_readX_114 rfl (lv_at hl 2 rfl) ?_
      refine lv_iconst (v := 2) hx hb dX2_readX_115 (by decide) ?_
      refine lv_aload_n hx hb dX2_readX_116 rfl (lv_at hl 2 rfl) ?_
      refine tk_getP (D := (dC, dI)) (ci := 2) (v := .int v_29) (C := RX2) (T := TX2) (N := 10) hx hb hU inlX2 hown hK hP mo0 hfo_189 rfl 5 (by decide) (hU _ wd_256) (fun _ h9 => h9) rfl dX2_readX_117 ?_
      refine tk_ViP (As := [.int 2, .int v_29]) (rest := []) (n := 2) hx hb hml hown hU hN hZ (s_X2_fail_k2 l (dC, dI) cI cL cZ cR cG cH Z kd L f_186 hG o0 mo0 ko0 2 v_29) wd_349 wd_350 wd_351 wd_33 wd_352 (by decide +kernel) ⟨Nat.le_of_ble_eq_true rfl, Nat.le_of_ble_eq_true rfl⟩ hK hP hD hS mo0 hfo_189 2 rfl rfl rfl hl.1 rfl (Nat.le_of_ble_eq_true rfl) dX2_readX_120 ⟨Nat.le_of_ble_eq_true rfl, Nat.le_of_ble_eq_true rfl⟩ (fun x_190 f_191 H locs hw hP hD hS => ?_)
      obtain ⟨hG, bx_190, hkc_192, hfc_193, hfc_194, hfc_195, hfc_196, hrc_197, hrc_198⟩ := hw
      have hfo_200 : f_191 a_5 = .inl (cI, 600, .inl g_35) := by rw [hkc_192 a_5 (by rw [ka_5]; decide)]; exact hfo_187
      have hfo_201 : f_191 a_2 = .inr (7, [.ref a_151, .int v_152, .ref a_153, .ref a_154, .ref a_155, .ref a_156, .int v_157, .ref a_158, .ref a_159, .ref a_160, .ref a_161, .ref a_162, .int v_163, .ref a_164, .ref a_165, .ref a_166]) := by rw [hkc_192 a_2 (by rw [ka_2]; decide)]; exact hfo_188
      have hfr0 : ∀ b, kd b ≠ 2 → f_191 b = f b := fun b q2 => (hkc_192 b q2).trans (hfr0 b q2)
      have hfr2_4 : ∀ b, kd b = 2 → fldI (f_191 b) 4 = fldI (f b) 4 := fun b kb => (hfc_193 b kb).trans (hfr2_4 b kb)
      have hfr2_7 : ∀ b, kd b = 2 → fldI (f_191 b) 7 = fldI (f b) 7 := fun b kb => (hfc_195 b kb).trans (hfr2_7 b kb)
      have hfr2_8 : ∀ b, kd b = 2 → fldI (f_191 b) 8 = fldI (f b) 8 := fun b kb => (hfc_196 b kb).trans (hfr2_8 b kb)
      have hrr2_0 : ∀ b, kd b = 2 → fldR (f_191 b) 0 = fldR (f b) 0 := fun b kb => (hrc_197 b kb).trans (hrr2_0 b kb)
      have hrr2_3 : ∀ b, kd b = 2 → fldR (f_191 b) 3 = fldR (f b) 3 := fun b kb => (hrc_198 b kb).trans (hrr2_3 b kb)
      obtain ⟨a_203, v_204, v_205, a_206, v_207, v_208, v_209, v_210, v_211, v_212, hfo_202, ⟨ma_203, ka_203⟩, ⟨ma_206, ka_206⟩, bv_207, bv_208, bv_209, bv_210, bv_211⟩ := un_2 (hG _ mo0) ko0
      have bv_204 : ((-2147483648) ≤ v_204.toInt ∧ v_204.toInt ≤ 2147483647) := ⟨i32_lo _, i32_hi _⟩
      have bv_205 : ((-2147483648) ≤ v_205.toInt ∧ v_205.toInt ≤ 2147483647) := ⟨i32_lo _, i32_hi _⟩
      have bv_212 : ((-2147483648) ≤ v_212.toInt ∧ v_212.toInt ≤ 2147483647) := ⟨i32_lo _, i32_hi _⟩
      obtain rfl : a_2 = a_203 := by have hk9 := hrr2_0 o0 ko0; rw [hfo_202, hfo_1] at hk9; exact (Option.some.inj hk9).symm
      obtain rfl : a_5 = a_206 := by have hk9 := hrr2_3 o0 ko0; rw [hfo_202, hfo_1] at hk9; exact (Option.some.inj hk9).symm
      obtain rfl : v_6 = v_207 := by have hk9 := hfc_193 o0 ko0; rw [hfo_202, hfo_189] at hk9; exact (Option.some.inj hk9).symm
      obtain rfl : v_29 = v_208 := by have hk9 := hfc_194 o0 ko0; rw [hfo_202, hfo_189] at hk9; exact (Option.some.inj hk9).symm
      obtain rfl : v_9 = v_210 := by have hk9 := hfc_195 o0 ko0; rw [hfo_202, hfo_189] at hk9; exact (Option.some.inj hk9).symm
      obtain rfl : v_10 = v_211 := by have hk9 := hfc_196 o0 ko0; rw [hfo_202, hfo_189] at hk9; exact (Option.some.inj hk9).symm
      exact W.zret (v := x_190) (ty := .boolean) hx hb hr (zb_n (by constructor <;> omega)) (fun t ht hW => ⟨⟨x_190, f_191, rfl, ⟨hG, (by constructor <;> omega), hfr0, hfr2_4, hfr2_7, hfr2_8, hrr2_0, hrr2_3, (by intro w5 z5 e5 d5; rw [hfo_1] at e5; rw [hfo_202] at d5; obtain rfl := Option.some.inj e5; obtain rfl := Option.some.inj d5; omega)⟩, by rw [ht]; exact hP, va_K.moved hW.alike hK, pl_in hD⟩, hS.F ht⟩) hS.2.2 dX2_readX_123
