set_option maxHeartbeats 8000000 in
set_option maxRecDepth 100000 in
theorem s_X2_readItems_k2_k205 (l : Launch) (D : va_G) (cI cL cZ cR cG cH : ClassId) (Z : zT) (kd : Nat → Nat) (L : List Nat) (f : Nat → va_E) (hG : GI (okc cI cL cZ cR cG cH L kd) kd L f) (o0 : Nat) (mo0 : o0 ∈ L) (ko0 : kd o0 = 2) (o1 : Nat) (mo1 : o1 ∈ L) (ko1 : kd o1 = 205) (p2 : Int32) (bp2 : (0 ≤ p2.toInt ∧ p2.toInt ≤ 2)) : mPI l D cI cL cZ cR cG cH Z yX2_readItems cX2_readItems 9 (some .boolean) 2 66 [.ref o0, .ref o1, .int p2] L f (fun (r : Int32) (f9 : Nat → va_E) => GI (okc cI cL cZ cR cG cH L kd) kd L f9 ∧ (0 ≤ r.toInt ∧ r.toInt ≤ 1) ∧ (∀ b, kd b ≠ 2 → kd b ≠ 205 → kd b ≠ 558 → f9 b = f b) ∧ (∀ b, kd b = 2 → fldI (f9 b) 4 = fldI (f b) 4) ∧ (∀ b, kd b = 2 → fldI (f9 b) 7 = fldI (f b) 7) ∧ (∀ b, kd b = 2 → fldI (f9 b) 8 = fldI (f b) 8) ∧ (∀ b, kd b = 2 → fldR (f9 b) 0 = fldR (f b) 0) ∧ (∀ b, kd b = 2 → fldR (f9 b) 3 = fldR (f b) 3)) := by
  obtain ⟨dC, dI⟩ := D
  refine Met.ofW (cc := cX2_readItems) (maxL := 9) (ret := (some .boolean)) (by decide) rfl ?_
  intro p e s m args below meth c s₁ B hml hv
  obtain ⟨rfl, hP, hK, hD0, hN, hZ⟩ := hv
  have hx := B.exec
  have hb := B.bytes
  have hr := B.returns
  have hU : ∀ w ∈ wsU, w.before _ s = true := fun w h => atoms_spec (ws := wU yX2_readItems cX2_readItems 9 (some .boolean)) B.pre w (List.mem_cons_of_mem _ h)
  have hown : s.vm.findClass RX2 = some m.cls := findClass_of_methodNamed B.named
  have hlocks := B.notSynchronized
  have hD := pl_in hD0
  have hS : va_S (fun q => q ∈ L) s.heap s.heap [] := va_S.rf
  have hl := lv_entry ([.ref o0, .ref o1, .int p2]) (n := 9) (Nat.le_of_ble_eq_true rfl)
  rw [lg_entry_eq]
  generalize (lg_sl ([.ref o0, .ref o1, .int p2]) ++ List.replicate (9 - (lg_sl ([.ref o0, .ref o1, .int p2])).length) Slot.unset).toArray = ls at hl ⊢
  have hl : lv_has ls 9 [(0, .ref o0), (1, .ref o1), (2, .int p2)] := hl
  have hfr0 : ∀ b, kd b ≠ 2 → kd b ≠ 205 → kd b ≠ 558 → f b = f b := fun _ _ _ _ => rfl
  have hfr2_4 : ∀ b, kd b = 2 → fldI (f b) 4 = fldI (f b) 4 := fun _ _ => rfl
  have hfr2_7 : ∀ b, kd b = 2 → fldI (f b) 7 = fldI (f b) 7 := fun _ _ => rfl
  have hfr2_8 : ∀ b, kd b = 2 → fldI (f b) 8 = fldI (f b) 8 := fun _ _ => rfl
  have hrr2_0 : ∀ b, kd b = 2 → fldR (f b) 0 = fldR (f b) 0 := fun _ _ => rfl
  have hrr2_3 : ∀ b, kd b = 2 → fldR (f b) 3 = fldR (f b) 3 := fun _ _ => rfl
  refine lv_iconst (v := 0) hx hb dX2_readItems_0 (by decide) ?_
  refine lv_istore_n (lv' := [(3, .int 0), (0, .ref o0), (1, .ref o1), (2, .int p2)]) hx hb dX2_readItems_1 rfl hl (by decide) rfl (fun ls hl => ?_)
  have hloop_13 : ∀ (n : Nat), ∀ (y_14 : Int32), (0 ≤ y_14.toInt ∧ y_14.toInt ≤ 5) → ∀ (f_16 : Nat → va_E), GI (okc cI cL cZ cR cG cH L kd) kd L f_16 → ∀ (H : Heap) (locs : List Loc), va_P (dC, dI) vwCl (va_pl L f_16) H → va_S (fun q => q ∈ L) s.heap H locs → va_D (fun q => q ∈ L) (va_pl L f_16) → (∀ b, kd b ≠ 2 → kd b ≠ 205 → kd b ≠ 558 → f_16 b = f b) → (∀ b, kd b = 2 → fldI (f_16 b) 4 = fldI (f b) 4) → (∀ b, kd b = 2 → fldI (f_16 b) 7 = fldI (f b) 7) → (∀ b, kd b = 2 → fldI (f_16 b) 8 = fldI (f b) 8) → (∀ b, kd b = 2 → fldR (f_16 b) 0 = fldR (f b) 0) → (∀ b, kd b = 2 → fldR (f_16 b) 3 = fldR (f b) 3) → 5 - y_14.toInt < (n : Int) → ∀ (ls : Array Slot), lv_has ls 9 [(3, .int y_14), (0, .ref o0), (1, .ref o1), (2, .int p2)] → W p l e (headSpec (wU yX2_readItems cX2_readItems 9 (some .boolean)) { frames := 2, cells := 0, slots := 0, locals := 66 }).room s m [.ref o0, .ref o1, .int p2].toArray below meth c H locs 0 0 (MQ below (va_Qi (fun (r : Int32) (f9 : Nat → va_E) => GI (okc cI cL cZ cR cG cH L kd) kd L f9 ∧ (0 ≤ r.toInt ∧ r.toInt ≤ 1) ∧ (∀ b, kd b ≠ 2 → kd b ≠ 205 → kd b ≠ 558 → f9 b = f b) ∧ (∀ b, kd b = 2 → fldI (f9 b) 4 = fldI (f b) 4) ∧ (∀ b, kd b = 2 → fldI (f9 b) 7 = fldI (f b) 7) ∧ (∀ b, kd b = 2 → fldI (f9 b) 8 = fldI (f b) 8) ∧ (∀ b, kd b = 2 → fldR (f9 b) 0 = fldR (f b) 0) ∧ (∀ b, kd b = 2 → fldR (f9 b) 3 = fldR (f b) 3)) (qP (dC, dI) cI cL cZ cR cG cH L) (fun q => q ∈ L)) [.ref o0, .ref o1, .int p2].toArray s 0 0 (fun q => q ∈ L)) (F0 m 2 ls []) := by
    intro n
    induction n with
    | zero => intro y_14 by_14 f_16 hG H locs hP hS hD hfr0 hfr2_4 hfr2_7 hfr2_8 hrr2_0 hrr2_3 hmuhloop_13 ls hl; exfalso; omega
    | succ n ih_hloop_13 =>
      intro y_14 by_14 f_16 hG H locs hP hS hD hfr0 hfr2_4 hfr2_7 hfr2_8 hrr2_0 hrr2_3 hmuhloop_13 ls hl
      refine lv_iload_n hx hb dX2_readItems_2 rfl (lv_at hl 0 rfl) ?_
      refine lv_iconst (v := 5) hx hb dX2_readItems_3 (by decide) ?_
      refine lv_icmp_gt (tgt := 165) hx hb dX2_readItems_4 (by decide) (fun c_17 => ?_) (fun c_17 => ?_)
      · skip
        rw [Int32.lt_iff_toInt_lt, ti_5] at c_17
        exfalso
        omega
      · skip
        rw [Int32.lt_iff_toInt_lt, ti_5] at c_17
        refine lv_aload_n hx hb dX2_readItems_7 rfl (lv_at hl 1 rfl) ?_
        obtain ⟨a_19, v_20, v_21, a_22, v_23, v_24, v_25, v_26, v_27, v_28, hfo_18, ⟨ma_19, ka_19⟩, ⟨ma_22, ka_22⟩, bv_23, bv_24, bv_25, bv_26, bv_27⟩ := un_2 (hG _ mo0) ko0
        have bv_20 : ((-2147483648) ≤ v_20.toInt ∧ v_20.toInt ≤ 2147483647) := ⟨i32_lo _, i32_hi _⟩
        have bv_21 : ((-2147483648) ≤ v_21.toInt ∧ v_21.toInt ≤ 2147483647) := ⟨i32_lo _, i32_hi _⟩
        have bv_28 : ((-2147483648) ≤ v_28.toInt ∧ v_28.toInt ≤ 2147483647) := ⟨i32_lo _, i32_hi _⟩
        refine tk_ViP (As := []) (rest := []) (n := 0) hx hb hml hown hU hN hZ (s_X2_peek_k2 l (dC, dI) cI cL cZ cR cG cH Z kd L f_16 hG o0 mo0 ko0) wd_274 wd_275 wd_276 wd_33 wd_277 (by decide +kernel) ⟨Nat.le_of_ble_eq_true rfl, Nat.le_of_ble_eq_true rfl⟩ hK hP hD hS mo0 hfo_18 2 rfl rfl rfl hl.1 rfl (Nat.le_of_ble_eq_true rfl) dX2_readItems_8 ⟨Nat.le_of_ble_eq_true rfl, Nat.le_of_ble_eq_true rfl⟩ (fun x_29 f_30 H locs hw hP hD hS => ?_)
        obtain ⟨hG, bx_29, hkc_31, hfc_32, hfc_33, hfc_34, hrc_35, hrc_36, hpost_37, hxp_38⟩ := hw
        have hfr0 : ∀ b, kd b ≠ 2 → kd b ≠ 205 → kd b ≠ 558 → f_30 b = f b := fun b q2 q205 q558 => (hkc_31 b q2).trans (hfr0 b q2 q205 q558)
        have hfr2_4 : ∀ b, kd b = 2 → fldI (f_30 b) 4 = fldI (f b) 4 := fun b kb => (hfc_32 b kb).trans (hfr2_4 b kb)
        have hfr2_7 : ∀ b, kd b = 2 → fldI (f_30 b) 7 = fldI (f b) 7 := fun b kb => (hfc_33 b kb).trans (hfr2_7 b kb)
        have hfr2_8 : ∀ b, kd b = 2 → fldI (f_30 b) 8 = fldI (f b) 8 := fun b kb => (hfc_34 b kb).trans (hfr2_8 b kb)
        have hrr2_0 : ∀ b, kd b = 2 → fldR (f_30 b) 0 = fldR (f b) 0 := fun b kb => (hrc_35 b kb).trans (hrr2_0 b kb)
        have hrr2_3 : ∀ b, kd b = 2 → fldR (f_30 b) 3 = fldR (f b) 3 := fun b kb => (hrc_36 b kb).trans (hrr2_3 b kb)
        obtain ⟨a_41, v_42, v_43, a_44, v_45, v_46, v_47, v_48, v_49, v_50, hfo_40, ⟨ma_41, ka_41⟩, ⟨ma_44, ka_44⟩, bv_45, bv_46, bv_47, bv_48, bv_49⟩ := un_2 (hG _ mo0) ko0
        have bv_42 : ((-2147483648) ≤ v_42.toInt ∧ v_42.toInt ≤ 2147483647) := ⟨i32_lo _, i32_hi _⟩
        have bv_43 : ((-2147483648) ≤ v_43.toInt ∧ v_43.toInt ≤ 2147483647) := ⟨i32_lo _, i32_hi _⟩
        have bv_50 : ((-2147483648) ≤ v_50.toInt ∧ v_50.toInt ≤ 2147483647) := ⟨i32_lo _, i32_hi _⟩
        obtain rfl : v_23 = v_45 := by have hk9 := hfc_32 o0 ko0; rw [hfo_40, hfo_18] at hk9; exact (Option.some.inj hk9).symm
        obtain rfl : v_26 = v_48 := by have hk9 := hfc_33 o0 ko0; rw [hfo_40, hfo_18] at hk9; exact (Option.some.inj hk9).symm
        obtain rfl : v_27 = v_49 := by have hk9 := hfc_34 o0 ko0; rw [hfo_40, hfo_18] at hk9; exact (Option.some.inj hk9).symm
        obtain rfl : a_19 = a_41 := by have hk9 := hrc_35 o0 ko0; rw [hfo_40, hfo_18] at hk9; exact (Option.some.inj hk9).symm
        obtain rfl : a_22 = a_44 := by have hk9 := hrc_36 o0 ko0; rw [hfo_40, hfo_18] at hk9; exact (Option.some.inj hk9).symm
        have hqhpost_37 := hpost_37 v_24 v_46 (by rw [hfo_18]; rfl) (by rw [hfo_40]; rfl)
        obtain ⟨g_52, hfo_51, hbg_52⟩ := un_533 (hG _ ma_22) ka_22
        have hpkx_29 := hxp_38 a_22 g_52 v_46 (by rw [hfo_40]; rfl) hfo_51 (by rw [hfo_40]; rfl)
        refine tk_SiP (As := [.int x_29]) (rest := []) (n := 1) hx hb hml hown hU hN hZ (s_X2_startsItem l (dC, dI) cI cL cZ cR cG cH Z kd L f_30 hG x_29) wd_451 wd_452 wd_33 wd_453 (by decide +kernel) ⟨Nat.le_of_ble_eq_true rfl, Nat.le_of_ble_eq_true rfl⟩ hK hP hD hS rfl hl.1 rfl (Nat.le_of_ble_eq_true rfl) dX2_readItems_11 ⟨Nat.le_of_ble_eq_true rfl, Nat.le_of_ble_eq_true rfl⟩ (fun x_53 f_54 H locs hw hP hD hS => ?_)
        obtain ⟨rfl, bx_53, relx_53⟩ := hw
        refine lv_if_eq (tgt := 165) hx hb dX2_readItems_14 (by decide) (fun c_56 => ?_) (fun c_56 => ?_)
        · skip
          rw [← Int32.toInt_inj, ti_0] at c_56
          refine lv_iconst (v := 1) hx hb dX2_readItems_165 (by decide) ?_
          exact W.zret (v := 1) (ty := .boolean) hx hb hr rfl (fun t ht hW => ⟨⟨1, f_30, rfl, ⟨hG, (by decide), hfr0, hfr2_4, hfr2_7, hfr2_8, hrr2_0, hrr2_3⟩, by rw [ht]; exact hP, va_K.moved hW.alike hK, pl_in hD⟩, hS.F ht⟩) hS.2.2 dX2_readItems_166
        · skip
          rw [← Int32.toInt_inj, ti_0] at c_56
          have hclc_57 : (0 ≤ v_46.toInt ∧ v_46.toInt ≤ 599) := by constructor <;> omega
          refine lv_aload_n hx hb dX2_readItems_17 rfl (lv_at hl 1 rfl) ?_
          refine tk_getP (D := (dC, dI)) (ci := 2) (v := .int v_46) (C := RX2) (T := TX2) (N := 10) hx hb hU inlX2 hown hK hP mo0 hfo_40 rfl 5 (by decide) (hU _ wd_256) (fun _ h9 => h9) rfl dX2_readItems_18 ?_
          refine lv_istore (lv' := [(4, .int v_46), (3, .int y_14), (0, .ref o0), (1, .ref o1), (2, .int p2)]) hx hb dX2_readItems_21 hl (by decide) rfl (fun ls hl => ?_)
          refine lv_aload_n hx hb dX2_readItems_23 rfl (lv_at hl 2 rfl) ?_
          refine tk_getP (D := (dC, dI)) (ci := 2) (v := .ref a_22) (C := RX2) (T := TX2) (N := 10) hx hb hU inlX2 hown hK hP mo0 hfo_40 rfl 3 (by decide) (hU _ wd_152) (fun _ h9 => h9) rfl dX2_readItems_24 ?_
          refine lv_aload_n hx hb dX2_readItems_27 rfl (lv_at hl 2 rfl) ?_
          refine tk_getP (D := (dC, dI)) (ci := 2) (v := .int v_46) (C := RX2) (T := TX2) (N := 10) hx hb hU inlX2 hown hK hP mo0 hfo_40 rfl 5 (by decide) (hU _ wd_256) (fun _ h9 => h9) rfl dX2_readItems_28 ?_
          refine tk_ildP hx hb hK hP 0 ma_22 hfo_51 rfl (vp_in_iff.mpr (by constructor <;> omega)) dX2_readItems_31 ?_
          refine lv_topi (fun x_58 ex_58 => ?_)
          have bx_58 : ((-2147483648) ≤ x_58.toInt ∧ x_58.toInt ≤ 2147483647) := ⟨i32_lo _, i32_hi _⟩
          refine lv_istore (lv' := [(5, .int x_58), (4, .int v_46), (3, .int y_14), (0, .ref o0), (1, .ref o1), (2, .int p2)]) hx hb dX2_readItems_32 hl (by decide) rfl (fun ls hl => ?_)
          refine lv_aload_n hx hb dX2_readItems_34 rfl (lv_at hl 3 rfl) ?_
          refine tk_ViP (As := []) (rest := []) (n := 0) hx hb hml hown hU hN hZ (s_X2_readX_k2 l (dC, dI) cI cL cZ cR cG cH Z kd L f_30 hG o0 mo0 ko0) wd_454 wd_455 wd_456 wd_33 wd_457 (by decide +kernel) ⟨Nat.le_of_ble_eq_true rfl, Nat.le_of_ble_eq_true rfl⟩ hK hP hD hS mo0 hfo_40 2 rfl rfl rfl hl.1 rfl (Nat.le_of_ble_eq_true rfl) dX2_readItems_35 ⟨Nat.le_of_ble_eq_true rfl, Nat.le_of_ble_eq_true rfl⟩ (fun x_59 f_60 H locs hw hP hD hS => ?_)
          obtain ⟨hG, bx_59, hkc_61, hfc_62, hfc_63, hfc_64, hrc_65, hrc_66, hpost_67⟩ := hw
          have hfo_69 : f_60 a_22 = .inl (cI, 600, .inl g_52) := by rw [hkc_61 a_22 (by rw [ka_22]; decide)]; exact hfo_51
          have hfr0 : ∀ b, kd b ≠ 2 → kd b ≠ 205 → kd b ≠ 558 → f_60 b = f b := fun b q2 q205 q558 => (hkc_61 b q2).trans (hfr0 b q2 q205 q558)
          have hfr2_4 : ∀ b, kd b = 2 → fldI (f_60 b) 4 = fldI (f b) 4 := fun b kb => (hfc_62 b kb).trans (hfr2_4 b kb)
          have hfr2_7 : ∀ b, kd b = 2 → fldI (f_60 b) 7 = fldI (f b) 7 := fun b kb => (hfc_63 b kb).trans (hfr2_7 b kb)
          have hfr2_8 : ∀ b, kd b = 2 → fldI (f_60 b) 8 = fldI (f b) 8 := fun b kb => (hfc_64 b kb).trans (hfr2_8 b kb)
          have hrr2_0 : ∀ b, kd b = 2 → fldR (f_60 b) 0 = fldR (f b) 0 := fun b kb => (hrc_65 b kb).trans (hrr2_0 b kb)
          have hrr2_3 : ∀ b, kd b = 2 → fldR (f_60 b) 3 = fldR (f b) 3 := fun b kb => (hrc_66 b kb).trans (hrr2_3 b kb)
          obtain ⟨a_71, v_72, v_73, a_74, v_75, v_76, v_77, v_78, v_79, v_80, hfo_70, ⟨ma_71, ka_71⟩, ⟨ma_74, ka_74⟩, bv_75, bv_76, bv_77, bv_78, bv_79⟩ := un_2 (hG _ mo0) ko0
          have bv_72 : ((-2147483648) ≤ v_72.toInt ∧ v_72.toInt ≤ 2147483647) := ⟨i32_lo _, i32_hi _⟩
          have bv_73 : ((-2147483648) ≤ v_73.toInt ∧ v_73.toInt ≤ 2147483647) := ⟨i32_lo _, i32_hi _⟩
          have bv_80 : ((-2147483648) ≤ v_80.toInt ∧ v_80.toInt ≤ 2147483647) := ⟨i32_lo _, i32_hi _⟩
          obtain rfl : v_23 = v_75 := by have hk9 := hfc_62 o0 ko0; rw [hfo_70, hfo_40] at hk9; exact (Option.some.inj hk9).symm
          obtain rfl : v_26 = v_78 := by have hk9 := hfc_63 o0 ko0; rw [hfo_70, hfo_40] at hk9; exact (Option.some.inj hk9).symm
          obtain rfl : v_27 = v_79 := by have hk9 := hfc_64 o0 ko0; rw [hfo_70, hfo_40] at hk9; exact (Option.some.inj hk9).symm
          obtain rfl : a_19 = a_71 := by have hk9 := hrc_65 o0 ko0; rw [hfo_70, hfo_40] at hk9; exact (Option.some.inj hk9).symm
          obtain rfl : a_22 = a_74 := by have hk9 := hrc_66 o0 ko0; rw [hfo_70, hfo_40] at hk9; exact (Option.some.inj hk9).symm
          have hqhpost_67 := hpost_67 v_46 v_76 (by rw [hfo_40]; rfl) (by rw [hfo_70]; rfl)
          refine lv_if_ne (tgt := 43) hx hb dX2_readItems_38 (by decide) (fun c_81 => ?_) (fun c_81 => ?_)
          · skip
            rw [← Int32.toInt_inj, ti_0] at c_81
            refine lv_aload_n hx hb dX2_readItems_43 rfl (lv_at hl 3 rfl) ?_
            refine tk_getP (D := (dC, dI)) (ci := 2) (v := .int v_80) (C := RX2) (T := TX2) (N := 10) hx hb hU inlX2 hown hK hP mo0 hfo_70 rfl 9 (by decide) (hU _ wd_450) (fun _ h9 => h9) rfl dX2_readItems_44 ?_
            refine lv_istore (lv' := [(6, .int v_80), (5, .int x_58), (4, .int v_46), (3, .int y_14), (0, .ref o0), (1, .ref o1), (2, .int p2)]) hx hb dX2_readItems_47 hl (by decide) rfl (fun ls hl => ?_)
            refine lv_iload hx hb dX2_readItems_49 (lv_at hl 1 rfl) ?_
            refine tk_SiP (As := [.int x_58]) (rest := []) (n := 1) hx hb hml hown hU hN hZ (s_X2_isClass l (dC, dI) cI cL cZ cR cG cH Z kd L f_60 hG x_58) wd_366 wd_367 wd_33 wd_368 (by decide +kernel) ⟨Nat.le_of_ble_eq_true rfl, Nat.le_of_ble_eq_true rfl⟩ hK hP hD hS rfl hl.1 rfl (Nat.le_of_ble_eq_true rfl) dX2_readItems_51 ⟨Nat.le_of_ble_eq_true rfl, Nat.le_of_ble_eq_true rfl⟩ (fun x_82 f_83 H locs hw hP hD hS => ?_)
            obtain ⟨rfl, bx_82, relx_82⟩ := hw
            have hcut_86 : ∀ (y_85 : Int32), ((-2147483648) ≤ y_85.toInt ∧ y_85.toInt ≤ 2147483647) → ∀ (ls : Array Slot), lv_has ls 9 [(6, .int v_80), (5, .int x_58), (4, .int v_46), (3, .int y_14), (0, .ref o0), (1, .ref o1), (2, .int p2)] → W p l e (headSpec (wU yX2_readItems cX2_readItems 9 (some .boolean)) { frames := 2, cells := 0, slots := 0, locals := 66 }).room s m [.ref o0, .ref o1, .int p2].toArray below meth c H locs 0 0 (MQ below (va_Qi (fun (r : Int32) (f9 : Nat → va_E) => GI (okc cI cL cZ cR cG cH L kd) kd L f9 ∧ (0 ≤ r.toInt ∧ r.toInt ≤ 1) ∧ (∀ b, kd b ≠ 2 → kd b ≠ 205 → kd b ≠ 558 → f9 b = f b) ∧ (∀ b, kd b = 2 → fldI (f9 b) 4 = fldI (f b) 4) ∧ (∀ b, kd b = 2 → fldI (f9 b) 7 = fldI (f b) 7) ∧ (∀ b, kd b = 2 → fldI (f9 b) 8 = fldI (f b) 8) ∧ (∀ b, kd b = 2 → fldR (f9 b) 0 = fldR (f b) 0) ∧ (∀ b, kd b = 2 → fldR (f9 b) 3 = fldR (f b) 3)) (qP (dC, dI) cI cL cZ cR cG cH L) (fun q => q ∈ L)) [.ref o0, .ref o1, .int p2].toArray s 0 0 (fun q => q ∈ L)) (F0 m 72 ls [.int y_85]) := by
              intro y_85 by_85 ls hl
              refine lv_istore (lv' := [(7, .int y_85), (6, .int v_80), (5, .int x_58), (4, .int v_46), (3, .int y_14), (0, .ref o0), (1, .ref o1), (2, .int p2)]) hx hb dX2_readItems_72 hl (by decide) rfl (fun ls hl => ?_)
              refine lv_aload_n hx hb dX2_readItems_74 rfl (lv_at hl 5 rfl) ?_
              refine lv_bipush (v := 58) hx hb dX2_readItems_75 (by decide) ?_
              refine tk_ViP (As := [.int 58]) (rest := []) (n := 1) hx hb hml hown hU hN hZ (s_X2_skipIf_k2 l (dC, dI) cI cL cZ cR cG cH Z kd L f_60 hG o0 mo0 ko0 58 (by decide)) wd_384 wd_385 wd_386 wd_33 wd_387 (by decide +kernel) ⟨Nat.le_of_ble_eq_true rfl, Nat.le_of_ble_eq_true rfl⟩ hK hP hD hS mo0 hfo_70 2 rfl rfl rfl hl.1 rfl (Nat.le_of_ble_eq_true rfl) dX2_readItems_77 ⟨Nat.le_of_ble_eq_true rfl, Nat.le_of_ble_eq_true rfl⟩ (fun x_87 f_88 H locs hw hP hD hS => ?_)
              obtain ⟨hG, bx_87, hkc_89, hfc_90, hfc_91, hfc_92, hrc_93, hrc_94, hpost_95⟩ := hw
              have hfo_97 : f_88 a_22 = .inl (cI, 600, .inl g_52) := by rw [hkc_89 a_22 (by rw [ka_22]; decide)]; exact hfo_69
              have hfr0 : ∀ b, kd b ≠ 2 → kd b ≠ 205 → kd b ≠ 558 → f_88 b = f b := fun b q2 q205 q558 => (hkc_89 b q2).trans (hfr0 b q2 q205 q558)
              have hfr2_4 : ∀ b, kd b = 2 → fldI (f_88 b) 4 = fldI (f b) 4 := fun b kb => (hfc_90 b kb).trans (hfr2_4 b kb)
              have hfr2_7 : ∀ b, kd b = 2 → fldI (f_88 b) 7 = fldI (f b) 7 := fun b kb => (hfc_91 b kb).trans (hfr2_7 b kb)
              have hfr2_8 : ∀ b, kd b = 2 → fldI (f_88 b) 8 = fldI (f b) 8 := fun b kb => (hfc_92 b kb).trans (hfr2_8 b kb)
              have hrr2_0 : ∀ b, kd b = 2 → fldR (f_88 b) 0 = fldR (f b) 0 := fun b kb => (hrc_93 b kb).trans (hrr2_0 b kb)
              have hrr2_3 : ∀ b, kd b = 2 → fldR (f_88 b) 3 = fldR (f b) 3 := fun b kb => (hrc_94 b kb).trans (hrr2_3 b kb)
              obtain ⟨a_99, v_100, v_101, a_102, v_103, v_104, v_105, v_106, v_107, v_108, hfo_98, ⟨ma_99, ka_99⟩, ⟨ma_102, ka_102⟩, bv_103, bv_104, bv_105, bv_106, bv_107⟩ := un_2 (hG _ mo0) ko0
              have bv_100 : ((-2147483648) ≤ v_100.toInt ∧ v_100.toInt ≤ 2147483647) := ⟨i32_lo _, i32_hi _⟩
              have bv_101 : ((-2147483648) ≤ v_101.toInt ∧ v_101.toInt ≤ 2147483647) := ⟨i32_lo _, i32_hi _⟩
              have bv_108 : ((-2147483648) ≤ v_108.toInt ∧ v_108.toInt ≤ 2147483647) := ⟨i32_lo _, i32_hi _⟩
              obtain rfl : v_23 = v_103 := by have hk9 := hfc_90 o0 ko0; rw [hfo_98, hfo_70] at hk9; exact (Option.some.inj hk9).symm
              obtain rfl : v_26 = v_106 := by have hk9 := hfc_91 o0 ko0; rw [hfo_98, hfo_70] at hk9; exact (Option.some.inj hk9).symm
              obtain rfl : v_27 = v_107 := by have hk9 := hfc_92 o0 ko0; rw [hfo_98, hfo_70] at hk9; exact (Option.some.inj hk9).symm
              obtain rfl : a_19 = a_99 := by have hk9 := hrc_93 o0 ko0; rw [hfo_98, hfo_70] at hk9; exact (Option.some.inj hk9).symm
              obtain rfl : a_22 = a_102 := by have hk9 := hrc_94 o0 ko0; rw [hfo_98, hfo_70] at hk9; exact (Option.some.inj hk9).symm
              have hqhpost_95 := hpost_95 v_76 v_104 (by rw [hfo_70]; rfl) (by rw [hfo_98]; rfl)
              try rw [ti_58] at hqhpost_95
              refine lv_istore (lv' := [(8, .int x_87), (7, .int y_85), (6, .int v_80), (5, .int x_58), (4, .int v_46), (3, .int y_14), (0, .ref o0), (1, .ref o1), (2, .int p2)]) hx hb dX2_readItems_80 hl (by decide) rfl (fun ls hl => ?_)
              refine lv_iload hx hb dX2_readItems_82 (lv_at hl 0 rfl) ?_
              refine lv_if_eq (tgt := 111) hx hb dX2_readItems_84 (by decide) (fun c_109 => ?_) (fun c_109 => ?_)
              · skip
                rw [← Int32.toInt_inj, ti_0] at c_109
                refine lv_iload_n hx hb dX2_readItems_111 rfl (lv_at hl 5 rfl) ?_
                refine lv_iconst (v := 5) hx hb dX2_readItems_112 (by decide) ?_
                refine lv_icmp_ne (tgt := 124) hx hb dX2_readItems_113 (by decide) (fun c_110 => ?_) (fun c_110 => ?_)
                · skip
                  rw [← Int32.toInt_inj, ti_5] at c_110
                  refine lv_iload hx hb dX2_readItems_124 (lv_at hl 0 rfl) ?_
                  refine lv_if_eq (tgt := 144) hx hb dX2_readItems_126 (by decide) (fun c_111 => ?_) (fun c_111 => ?_)
                  · skip
                    rw [← Int32.toInt_inj, ti_0] at c_111
                    refine lv_aload_n hx hb dX2_readItems_144 rfl (lv_at hl 7 rfl) ?_
                    refine lv_iload_n hx hb dX2_readItems_145 rfl (lv_at hl 8 rfl) ?_
                    refine lv_iload hx hb dX2_readItems_146 (lv_at hl 2 rfl) ?_
                    refine lv_iload hx hb dX2_readItems_148 (lv_at hl 1 rfl) ?_
                    refine lv_aload_n hx hb dX2_readItems_150 rfl (lv_at hl 6 rfl) ?_
                    refine lv_bipush (v := 42) hx hb dX2_readItems_151 (by decide) ?_
                    refine tk_ViP (As := [.int 42]) (rest := [.int y_85, .int v_80, .int p2, .ref o1]) (n := 1) hx hb hml hown hU hN hZ (s_X2_skipIf_k2 l (dC, dI) cI cL cZ cR cG cH Z kd L f_88 hG o0 mo0 ko0 42 (by decide)) wd_384 wd_385 wd_386 wd_33 wd_387 (by decide +kernel) ⟨Nat.le_of_ble_eq_true rfl, Nat.le_of_ble_eq_true rfl⟩ hK hP hD hS mo0 hfo_98 2 rfl rfl rfl hl.1 rfl (Nat.le_of_ble_eq_true rfl) dX2_readItems_153 ⟨Nat.le_of_ble_eq_true rfl, Nat.le_of_ble_eq_true rfl⟩ (fun x_112 f_113 H locs hw hP hD hS => ?_)
                    obtain ⟨hG, bx_112, hkc_114, hfc_115, hfc_116, hfc_117, hrc_118, hrc_119, hpost_120⟩ := hw
                    have hfo_122 : f_113 a_22 = .inl (cI, 600, .inl g_52) := by rw [hkc_114 a_22 (by rw [ka_22]; decide)]; exact hfo_97
                    have hfr0 : ∀ b, kd b ≠ 2 → kd b ≠ 205 → kd b ≠ 558 → f_113 b = f b := fun b q2 q205 q558 => (hkc_114 b q2).trans (hfr0 b q2 q205 q558)
                    have hfr2_4 : ∀ b, kd b = 2 → fldI (f_113 b) 4 = fldI (f b) 4 := fun b kb => (hfc_115 b kb).trans (hfr2_4 b kb)
                    have hfr2_7 : ∀ b, kd b = 2 → fldI (f_113 b) 7 = fldI (f b) 7 := fun b kb => (hfc_116 b kb).trans (hfr2_7 b kb)
                    have hfr2_8 : ∀ b, kd b = 2 → fldI (f_113 b) 8 = fldI (f b) 8 := fun b kb => (hfc_117 b kb).trans (hfr2_8 b kb)
                    have hrr2_0 : ∀ b, kd b = 2 → fldR (f_113 b) 0 = fldR (f b) 0 := fun b kb => (hrc_118 b kb).trans (hrr2_0 b kb)
                    have hrr2_3 : ∀ b, kd b = 2 → fldR (f_113 b) 3 = fldR (f b) 3 := fun b kb => (hrc_119 b kb).trans (hrr2_3 b kb)
                    obtain ⟨a_124, v_125, v_126, a_127, v_128, v_129, v_130, v_131, v_132, v_133, hfo_123, ⟨ma_124, ka_124⟩, ⟨ma_127, ka_127⟩, bv_128, bv_129, bv_130, bv_131, bv_132⟩ := un_2 (hG _ mo0) ko0
                    have bv_125 : ((-2147483648) ≤ v_125.toInt ∧ v_125.toInt ≤ 2147483647) := ⟨i32_lo _, i32_hi _⟩
                    have bv_126 : ((-2147483648) ≤ v_126.toInt ∧ v_126.toInt ≤ 2147483647) := ⟨i32_lo _, i32_hi _⟩
                    have bv_133 : ((-2147483648) ≤ v_133.toInt ∧ v_133.toInt ≤ 2147483647) := ⟨i32_lo _, i32_hi _⟩
                    obtain rfl : v_23 = v_128 := by have hk9 := hfc_115 o0 ko0; rw [hfo_123, hfo_98] at hk9; exact (Option.some.inj hk9).symm
                    obtain rfl : v_26 = v_131 := by have hk9 := hfc_116 o0 ko0; rw [hfo_123, hfo_98] at hk9; exact (Option.some.inj hk9).symm
                    obtain rfl : v_27 = v_132 := by have hk9 := hfc_117 o0 ko0; rw [hfo_123, hfo_98] at hk9; exact (Option.some.inj hk9).symm
                    obtain rfl : a_19 = a_124 := by have hk9 := hrc_118 o0 ko0; rw [hfo_123, hfo_98] at hk9; exact (Option.some.inj hk9).symm
                    obtain rfl : a_22 = a_127 := by have hk9 := hrc_119 o0 ko0; rw [hfo_123, hfo_98] at hk9; exact (Option.some.inj hk9).symm
                    have hqhpost_120 := hpost_120 v_104 v_129 (by rw [hfo_98]; rfl) (by rw [hfo_123]; rfl)
                    try rw [ti_42] at hqhpost_120
                    obtain ⟨a_135, a_136, a_137, v_138, v_139, v_140, hfo_134, ⟨ma_135, ka_135⟩, ⟨ma_136, ka_136⟩, ⟨ma_137, ka_137⟩⟩ := un_205 (hG _ mo1) ko1
                    have bv_138 : ((-2147483648) ≤ v_138.toInt ∧ v_138.toInt ≤ 2147483647) := ⟨i32_lo _, i32_hi _⟩
                    have bv_139 : ((-2147483648) ≤ v_139.toInt ∧ v_139.toInt ≤ 2147483647) := ⟨i32_lo _, i32_hi _⟩
                    have bv_140 : ((-2147483648) ≤ v_140.toInt ∧ v_140.toInt ≤ 2147483647) := ⟨i32_lo _, i32_hi _⟩
                    refine tk_VvP (As := [.int p2, .int v_80, .int y_85, .int x_112]) (rest := []) (n := 4) hx hb hml hown hU hN hZ (s_X5_addItem_k205 l (dC, dI) cI cL cZ cR cG cH Z kd L f_113 hG o1 mo1 ko1 p2 (by constructor <;> omega) v_80 y_85 x_112 (by constructor <;> omega)) wd_462 wd_463 wd_464 wd_102 wd_465 (by decide +kernel) ⟨Nat.le_of_ble_eq_true rfl, Nat.le_of_ble_eq_true rfl⟩ hK hP hD hS mo1 hfo_134 5 rfl rfl rfl hl.1 rfl (Nat.le_of_ble_eq_true rfl) dX2_readItems_156 ⟨Nat.le_of_ble_eq_true rfl, Nat.le_of_ble_eq_true rfl⟩ (fun f_142 H locs hw hP hD hS => ?_)
                    obtain ⟨hG, hkc_143⟩ := hw
                    have hfo_145 : f_142 a_22 = .inl (cI, 600, .inl g_52) := by rw [hkc_143 a_22 (by rw [ka_22]; decide) (by rw [ka_22]; decide)]; exact hfo_122
                    have hfo_146 : f_142 o0 = .inr (2, [.ref a_19, .int v_125, .int v_126, .ref a_22, .int v_23, .int v_129, .int v_130, .int v_26, .int v_27, .int v_133]) := by rw [hkc_143 o0 (by rw [ko0]; decide) (by rw [ko0]; decide)]; exact hfo_123
                    have hfr0 : ∀ b, kd b ≠ 2 → kd b ≠ 205 → kd b ≠ 558 → f_142 b = f b := fun b q2 q205 q558 => (hkc_143 b q205 q558).trans (hfr0 b q2 q205 q558)
                    have hfr2_4 : ∀ b, kd b = 2 → fldI (f_142 b) 4 = fldI (f b) 4 := fun b kb => (congrArg (fun x => fldI x 4) (hkc_143 b (by rw [kb]; decide) (by rw [kb]; decide))).trans (hfr2_4 b kb)
                    have hfr2_7 : ∀ b, kd b = 2 → fldI (f_142 b) 7 = fldI (f b) 7 := fun b kb => (congrArg (fun x => fldI x 7) (hkc_143 b (by rw [kb]; decide) (by rw [kb]; decide))).trans (hfr2_7 b kb)
                    have hfr2_8 : ∀ b, kd b = 2 → fldI (f_142 b) 8 = fldI (f b) 8 := fun b kb => (congrArg (fun x => fldI x 8) (hkc_143 b (by rw [kb]; decide) (by rw [kb]; decide))).trans (hfr2_8 b kb)
                    have hrr2_0 : ∀ b, kd b = 2 → fldR (f_142 b) 0 = fldR (f b) 0 := fun b kb => (congrArg (fun x => fldR x 0) (hkc_143 b (by rw [kb]; decide) (by rw [kb]; decide))).trans (hrr2_0 b kb)
                    have hrr2_3 : ∀ b, kd b = 2 → fldR (f_142 b) 3 = fldR (f b) 3 := fun b kb => (congrArg (fun x => fldR x 3) (hkc_143 b (by rw [kb]; decide) (by rw [kb]; decide))).trans (hrr2_3 b kb)
                    obtain ⟨x_147, ex_147⟩ : ∃ y : Int32, y_14 + 1 = y := ⟨_, rfl⟩
                    have hx_147 : x_147.toInt = y_14.toInt + 1 := by rw [← ex_147, ad_I (by rw [ti_1]; omega) (by rw [ti_1]; omega), ti_1]
                    have bx_147 : (1 ≤ x_147.toInt ∧ x_147.toInt ≤ 5) := by constructor <;> omega
                    refine lv_iinc (v := x_147) (lv' := [(3, .int x_147), (8, .int x_87), (7, .int y_85), (6, .int v_80), (5, .int x_58), (4, .int v_46), (0, .ref o0), (1, .ref o1), (2, .int p2)]) hx hb dX2_readItems_159 hl (k := 5) rfl ex_147 (by decide) rfl (fun ls hl => ?_)
                    refine lv_goto (tgt := 2) hx hb dX2_readItems_162 (by decide) ?_
                    exact ih_hloop_13 x_147 (by constructor <;> omega) f_142 hG _ _ hP hS hD hfr0 hfr2_4 hfr2_7 hfr2_8 hrr2_0 hrr2_3 (by omega) ls (lv_sub hl [0, 6, 7, 8] rfl)
                  · skip
                    rw [← Int32.toInt_inj, ti_0] at c_111
                    exfalso
                    omega
                · skip
                  rw [← Int32.toInt_inj, ti_5] at c_110
                  refine lv_aload_n hx hb dX2_readItems_116 rfl (lv_at hl 6 rfl) ?_
                  refine lv_iconst (v := 3) hx hb dX2_readItems_117 (by decide) ?_
                  refine lv_iload hx hb dX2_readItems_118 (lv_at hl 4 rfl) ?_
                  refine tk_ViP (As := [.int 3, .int v_46]) (rest := []) (n := 2) hx hb hml hown hU hN hZ (s_X2_fail_k2 l (dC, dI) cI cL cZ cR cG cH Z kd L f_88 hG o0 mo0 ko0 3 v_46) wd_349 wd_350 wd_351 wd_33 wd_352 (by decide +kernel) ⟨Nat.le_of_ble_eq_true rfl, Nat.le_of_ble_eq_true rfl⟩ hK hP hD hS mo0 hfo_98 2 rfl rfl rfl hl.1 rfl (Nat.le_of_ble_eq_true rfl) dX2_readItems_120 ⟨Nat.le_of_ble_eq_true rfl, Nat.le_of_ble_eq_true rfl⟩ (fun x_148 f_149 H locs hw hP hD hS => ?_)
                  obtain ⟨hG, bx_148, hkc_150, hfc_151, hfc_152, hfc_153, hfc_154, hrc_155, hrc_156⟩ := hw
                  have hfo_158 : f_149 a_22 = .inl (cI, 600, .inl g_52) := by rw [hkc_150 a_22 (by rw [ka_22]; decide)]; exact hfo_97
                  have hfr0 : ∀ b, kd b ≠ 2 → kd b ≠ 205 → kd b ≠ 558 → f_149 b = f b := fun b q2 q205 q558 => (hkc_150 b q2).trans (hfr0 b q2 q205 q558)
                  have hfr2_4 : ∀ b, kd b = 2 → fldI (f_149 b) 4 = fldI (f b) 4 := fun b kb => (hfc_151 b kb).trans (hfr2_4 b kb)
                  have hfr2_7 : ∀ b, kd b = 2 → fldI (f_149 b) 7 = fldI (f b) 7 := fun b kb => (hfc_153 b kb).trans (hfr2_7 b kb)
                  have hfr2_8 : ∀ b, kd b = 2 → fldI (f_149 b) 8 = fldI (f b) 8 := fun b kb => (hfc_154 b kb).trans (hfr2_8 b kb)
                  have hrr2_0 : ∀ b, kd b = 2 → fldR (f_149 b) 0 = fldR (f b) 0 := fun b kb => (hrc_155 b kb).trans (hrr2_0 b kb)
                  have hrr2_3 : ∀ b, kd b = 2 → fldR (f_149 b) 3 = fldR (f b) 3 := fun b kb => (hrc_156 b kb).trans (hrr2_3 b kb)
                  obtain ⟨a_160, v_161, v_162, a_163, v_164, v_165, v_166, v_167, v_168, v_169, hfo_159, ⟨ma_160, ka_160⟩, ⟨ma_163, ka_163⟩, bv_164, bv_165, bv_166, bv_167, bv_168⟩ := un_2 (hG _ mo0) ko0
                  have bv_161 : ((-2147483648) ≤ v_161.toInt ∧ v_161.toInt ≤ 2147483647) := ⟨i32_lo _, i32_hi _⟩
                  have bv_162 : ((-2147483648) ≤ v_162.toInt ∧ v_162.toInt ≤ 2147483647) := ⟨i32_lo _, i32_hi _⟩
                  have bv_169 : ((-2147483648) ≤ v_169.toInt ∧ v_169.toInt ≤ 2147483647) := ⟨i32_lo _, i32_hi _⟩
                  obtain rfl : v_23 = v_164 := by have hk9 := hfc_151 o0 ko0; rw [hfo_159, hfo_98] at hk9; exact (Option.some.inj hk9).symm
                  obtain rfl : v_104 = v_165 := by have hk9 := hfc_152 o0 ko0; rw [hfo_159, hfo_98] at hk9; exact (Option.some.inj hk9).symm
                  obtain rfl : v_26 = v_167 := by have hk9 := hfc_153 o0 ko0; rw [hfo_159, hfo_98] at hk9; exact (Option.some.inj hk9).symm
                  obtain rfl : v_27 = v_168 := by have hk9 := hfc_154 o0 ko0; rw [hfo_159, hfo_98] at hk9; exact (Option.some.inj hk9).symm
                  obtain rfl : a_19 = a_160 := by have hk9 := hrc_155 o0 ko0; rw [hfo_159, hfo_98] at hk9; exact (Option.some.inj hk9).symm
                  obtain rfl : a_22 = a_163 := by have hk9 := hrc_156 o0 ko0; rw [hfo_159, hfo_98] at hk9; exact (Option.some.inj hk9).symm
                  exact W.zret (v := x_148) (ty := .boolean) hx hb hr (zb_n (by constructor <;> omega)) (fun t ht hW => ⟨⟨x_148, f_149, rfl, ⟨hG, (by constructor <;> omega), hfr0, hfr2_4, hfr2_7, hfr2_8, hrr2_0, hrr2_3⟩, by rw [ht]; exact hP, va_K.moved hW.alike hK, pl_in hD⟩, hS.F ht⟩) hS.2.2 dX2_readItems_123
              · skip
                rw [← Int32.toInt_inj, ti_0] at c_109
                refine lv_iload hx hb dX2_readItems_87 (lv_at hl 3 rfl) ?_
                refine lv_bipush (v := 48) hx hb dX2_readItems_89 (by decide) ?_
                refine lv_icmp_ne (tgt := 111) hx hb dX2_readItems_91 (by decide) (fun c_170 => ?_) (fun c_170 => ?_)
                · skip
                  rw [← Int32.toInt_inj, ti_48] at c_170
                  refine lv_iload_n hx hb dX2_readItems_111 rfl (lv_at hl 5 rfl) ?_
                  refine lv_iconst (v := 5) hx hb dX2_readItems_112 (by decide) ?_
                  refine lv_icmp_ne (tgt := 124) hx hb dX2_readItems_113 (by decide) (fun c_171 => ?_) (fun c_171 => ?_)
                  · skip
                    rw [← Int32.toInt_inj, ti_5] at c_171
                    refine lv_iload hx hb dX2_readItems_124 (lv_at hl 0 rfl) ?_
                    refine lv_if_eq (tgt := 144) hx hb dX2_readItems_126 (by decide) (fun c_172 => ?_) (fun c_172 => ?_)
                    · skip
                      rw [← Int32.toInt_inj, ti_0] at c_172
                      exfalso
                      omega
                    · skip
                      rw [← Int32.toInt_inj, ti_0] at c_172
                      refine lv_aload_n hx hb dX2_readItems_129 rfl (lv_at hl 6 rfl) ?_
                      refine tk_ViP (As := []) (rest := []) (n := 0) hx hb hml hown hU hN hZ (s_X2_readX_k2 l (dC, dI) cI cL cZ cR cG cH Z kd L f_88 hG o0 mo0 ko0) wd_454 wd_455 wd_456 wd_33 wd_457 (by decide +kernel) ⟨Nat.le_of_ble_eq_true rfl, Nat.le_of_ble_eq_true rfl⟩ hK hP hD hS mo0 hfo_98 2 rfl rfl rfl hl.1 rfl (Nat.le_of_ble_eq_true rfl) dX2_readItems_130 ⟨Nat.le_of_ble_eq_true rfl, Nat.le_of_ble_eq_true rfl⟩ (fun x_173 f_174 H locs hw hP hD hS => ?_)
                      obtain ⟨hG, bx_173, hkc_175, hfc_176, hfc_177, hfc_178, hrc_179, hrc_180, hpost_181⟩ := hw
                      have hfo_183 : f_174 a_22 = .inl (cI, 600, .inl g_52) := by rw [hkc_175 a_22 (by rw [ka_22]; decide)]; exact hfo_97
                      have hfr0 : ∀ b, kd b ≠ 2 → kd b ≠ 205 → kd b ≠ 558 → f_174 b = f b := fun b q2 q205 q558 => (hkc_175 b q2).trans (hfr0 b q2 q205 q558)
                      have hfr2_4 : ∀ b, kd b = 2 → fldI (f_174 b) 4 = fldI (f b) 4 := fun b kb => (hfc_176 b kb).trans (hfr2_4 b kb)
                      have hfr2_7 : ∀ b, kd b = 2 → fldI (f_174 b) 7 = fldI (f b) 7 := fun b kb => (hfc_177 b kb).trans (hfr2_7 b kb)
                      have hfr2_8 : ∀ b, kd b = 2 → fldI (f_174 b) 8 = fldI (f b) 8 := fun b kb => (hfc_178 b kb).trans (hfr2_8 b kb)
                      have hrr2_0 : ∀ b, kd b = 2 → fldR (f_174 b) 0 = fldR (f b) 0 := fun b kb => (hrc_179 b kb).trans (hrr2_0 b kb)
                      have hrr2_3 : ∀ b, kd b = 2 → fldR (f_174 b) 3 = fldR (f b) 3 := fun b kb => (hrc_180 b kb).trans (hrr2_3 b kb)
                      obtain ⟨a_185, v_186, v_187, a_188, v_189, v_190, v_191, v_192, v_193, v_194, hfo_184, ⟨ma_185, ka_185⟩, ⟨ma_188, ka_188⟩, bv_189, bv_190, bv_191, bv_192, bv_193⟩ := un_2 (hG _ mo0) ko0
                      have bv_186 : ((-2147483648) ≤ v_186.toInt ∧ v_186.toInt ≤ 2147483647) := ⟨i32_lo _, i32_hi _⟩
                      have bv_187 : ((-2147483648) ≤ v_187.toInt ∧ v_187.toInt ≤ 2147483647) := ⟨i32_lo _, i32_hi _⟩
                      have bv_194 : ((-2147483648) ≤ v_194.toInt ∧ v_194.toInt ≤ 2147483647) := ⟨i32_lo _, i32_hi _⟩
                      obtain rfl : v_23 = v_189 := by have hk9 := hfc_176 o0 ko0; rw [hfo_184, hfo_98] at hk9; exact (Option.some.inj hk9).symm
                      obtain rfl : v_26 = v_192 := by have hk9 := hfc_177 o0 ko0; rw [hfo_184, hfo_98] at hk9; exact (Option.some.inj hk9).symm
                      obtain rfl : v_27 = v_193 := by have hk9 := hfc_178 o0 ko0; rw [hfo_184, hfo_98] at hk9; exact (Option.some.inj hk9).symm
                      obtain rfl : a_19 = a_185 := by have hk9 := hrc_179 o0 ko0; rw [hfo_184, hfo_98] at hk9; exact (Option.some.inj hk9).symm
                      obtain rfl : a_22 = a_188 := by have hk9 := hrc_180 o0 ko0; rw [hfo_184, hfo_98] at hk9; exact (Option.some.inj hk9).symm
                      have hqhpost_181 := hpost_181 v_104 v_190 (by rw [hfo_98]; rfl) (by rw [hfo_184]; rfl)
                      refine lv_if_ne (tgt := 138) hx hb dX2_readItems_133 (by decide) (fun c_195 => ?_) (fun c_195 => ?_)
                      · skip
                        rw [← Int32.toInt_inj, ti_0] at c_195
                        refine lv_aload_n hx hb dX2_readItems_138 rfl (lv_at hl 6 rfl) ?_
                        refine tk_getP (D := (dC, dI)) (ci := 2) (v := .int v_194) (C := RX2) (T := TX2) (N := 10) hx hb hU inlX2 hown hK hP mo0 hfo_184 rfl 9 (by decide) (hU _ wd_450) (fun _ h9 => h9) rfl dX2_readItems_139 ?_
                        refine lv_istore (lv' := [(7, .int v_194), (8, .int x_87), (6, .int v_80), (5, .int x_58), (4, .int v_46), (3, .int y_14), (0, .ref o0), (1, .ref o1), (2, .int p2)]) hx hb dX2_readItems_142 hl (by decide) rfl (fun ls hl => ?_)
                        refine lv_aload_n hx hb dX2_readItems_144 rfl (lv_at hl 7 rfl) ?_
                        refine lv_iload_n hx hb dX2_readItems_145 rfl (lv_at hl 8 rfl) ?_
                        refine lv_iload hx hb dX2_readItems_146 (lv_at hl 2 rfl) ?_
                        refine lv_iload hx hb dX2_readItems_148 (lv_at hl 0 rfl) ?_
                        refine lv_aload_n hx hb dX2_readItems_150 rfl (lv_at hl 6 rfl) ?_
                        refine lv_bipush (v := 42) hx hb dX2_readItems_151 (by decide) ?_
                        refine tk_ViP (As := [.int 42]) (rest := [.int v_194, .int v_80, .int p2, .ref o1]) (n := 1) hx hb hml hown hU hN hZ (s_X2_skipIf_k2 l (dC, dI) cI cL cZ cR cG cH Z kd L f_174 hG o0 mo0 ko0 42 (by decide)) wd_384 wd_385 wd_386 wd_33 wd_387 (by decide +kernel) ⟨Nat.le_of_ble_eq_true rfl, Nat.le_of_ble_eq_true rfl⟩ hK hP hD hS mo0 hfo_184 2 rfl rfl rfl hl.1 rfl (Nat.le_of_ble_eq_true rfl) dX2_readItems_153 ⟨Nat.le_of_ble_eq_true rfl, Nat.le_of_ble_eq_true rfl⟩ (fun x_196 f_197 H locs hw hP hD hS => ?_)
                        obtain ⟨hG, bx_196, hkc_198, hfc_199, hfc_200, hfc_201, hrc_202, hrc_203, hpost_204⟩ := hw
                        have hfo_206 : f_197 a_22 = .inl (cI, 600, .inl g_52) := by rw [hkc_198 a_22 (by rw [ka_22]; decide)]; exact hfo_183
                        have hfr0 : ∀ b, kd b ≠ 2 → kd b ≠ 205 → kd b ≠ 558 → f_197 b = f b := fun b q2 q205 q558 => (hkc_198 b q2).trans (hfr0 b q2 q205 q558)
                        have hfr2_4 : ∀ b, kd b = 2 → fldI (f_197 b) 4 = fldI (f b) 4 := fun b kb => (hfc_199 b kb).trans (hfr2_4 b kb)
                        have hfr2_7 : ∀ b, kd b = 2 → fldI (f_197 b) 7 = fldI (f b) 7 := fun b kb => (hfc_200 b kb).trans (hfr2_7 b kb)
                        have hfr2_8 : ∀ b, kd b = 2 → fldI (f_197 b) 8 = fldI (f b) 8 := fun b kb => (hfc_201 b kb).trans (hfr2_8 b kb)
                        have hrr2_0 : ∀ b, kd b = 2 → fldR (f_197 b) 0 = fldR (f b) 0 := fun b kb => (hrc_202 b kb).trans (hrr2_0 b kb)
                        have hrr2_3 : ∀ b, kd b = 2 → fldR (f_197 b) 3 = fldR (f b) 3 := fun b kb => (hrc_203 b kb).trans (hrr2_3 b kb)
                        obtain ⟨a_208, v_209, v_210, a_211, v_212, v_213, v_214, v_215, v_216, v_217, hfo_207, ⟨ma_208, ka_208⟩, ⟨ma_211, ka_211⟩, bv_212, bv_213, bv_214, bv_215, bv_216⟩ := un_2 (hG _ mo0) ko0
                        have bv_209 : ((-2147483648) ≤ v_209.toInt ∧ v_209.toInt ≤ 2147483647) := ⟨i32_lo _, i32_hi _⟩
                        have bv_210 : ((-2147483648) ≤ v_210.toInt ∧ v_210.toInt ≤ 2147483647) := ⟨i32_lo _, i32_hi _⟩
                        have bv_217 : ((-2147483648) ≤ v_217.toInt ∧ v_217.toInt ≤ 2147483647) := ⟨i32_lo _, i32_hi _⟩
                        obtain rfl : v_23 = v_212 := by have hk9 := hfc_199 o0 ko0; rw [hfo_207, hfo_184] at hk9; exact (Option.some.inj hk9).symm
                        obtain rfl : v_26 = v_215 := by have hk9 := hfc_200 o0 ko0; rw [hfo_207, hfo_184] at hk9; exact (Option.some.inj hk9).symm
                        obtain rfl : v_27 = v_216 := by have hk9 := hfc_201 o0 ko0; rw [hfo_207, hfo_184] at hk9; exact (Option.some.inj hk9).symm
                        obtain rfl : a_19 = a_208 := by have hk9 := hrc_202 o0 ko0; rw [hfo_207, hfo_184] at hk9; exact (Option.some.inj hk9).symm
                        obtain rfl : a_22 = a_211 := by have hk9 := hrc_203 o0 ko0; rw [hfo_207, hfo_184] at hk9; exact (Option.some.inj hk9).symm
                        have hqhpost_204 := hpost_204 v_190 v_213 (by rw [hfo_184]; rfl) (by rw [hfo_207]; rfl)
                        try rw [ti_42] at hqhpost_204
                        obtain ⟨a_219, a_220, a_221, v_222, v_223, v_224, hfo_218, ⟨ma_219, ka_219⟩, ⟨ma_220, ka_220⟩, ⟨ma_221, ka_221⟩⟩ := un_205 (hG _ mo1) ko1
                        have bv_222 : ((-2147483648) ≤ v_222.toInt ∧ v_222.toInt ≤ 2147483647) := ⟨i32_lo _, i32_hi _⟩
                        have bv_223 : ((-2147483648) ≤ v_223.toInt ∧ v_223.toInt ≤ 2147483647) := ⟨i32_lo _, i32_hi _⟩
                        have bv_224 : ((-2147483648) ≤ v_224.toInt ∧ v_224.toInt ≤ 2147483647) := ⟨i32_lo _, i32_hi _⟩
                        refine tk_VvP (As := [.int p2, .int v_80, .int v_194, .int x_196]) (rest := []) (n := 4) hx hb hml hown hU hN hZ (s_X5_addItem_k205 l (dC, dI) cI cL cZ cR cG cH Z kd L f_197 hG o1 mo1 ko1 p2 (by constructor <;> omega) v_80 v_194 x_196 (by constructor <;> omega)) wd_462 wd_463 wd_464 wd_102 wd_465 (by decide +kernel) ⟨Nat.le_of_ble_eq_true rfl, Nat.le_of_ble_eq_true rfl⟩ hK hP hD hS mo1 hfo_218 5 rfl rfl rfl hl.1 rfl (Nat.le_of_ble_eq_true rfl) dX2_readItems_156 ⟨Nat.le_of_ble_eq_true rfl, Nat.le_of_ble_eq_true rfl⟩ (fun f_226 H locs hw hP hD hS => ?_)
                        obtain ⟨hG, hkc_227⟩ := hw
                        have hfo_229 : f_226 a_22 = .inl (cI, 600, .inl g_52) := by rw [hkc_227 a_22 (by rw [ka_22]; decide) (by rw [ka_22]; decide)]; exact hfo_206
                        have hfo_230 : f_226 o0 = .inr (2, [.ref a_19, .int v_209, .int v_210, .ref a_22, .int v_23, .int v_213, .int v_214, .int v_26, .int v_27, .int v_217]) := by rw [hkc_227 o0 (by rw [ko0]; decide) (by rw [ko0]; decide)]; exact hfo_207
                        have hfr0 : ∀ b, kd b ≠ 2 → kd b ≠ 205 → kd b ≠ 558 → f_226 b = f b := fun b q2 q205 q558 => (hkc_227 b q205 q558).trans (hfr0 b q2 q205 q558)
                        have hfr2_4 : ∀ b, kd b = 2 → fldI (f_226 b) 4 = fldI (f b) 4 := fun b kb => (congrArg (fun x => fldI x 4) (hkc_227 b (by rw [kb]; decide) (by rw [kb]; decide))).trans (hfr2_4 b kb)
                        have hfr2_7 : ∀ b, kd b = 2 → fldI (f_226 b) 7 = fldI (f b) 7 := fun b kb => (congrArg (fun x => fldI x 7) (hkc_227 b (by rw [kb]; decide) (by rw [kb]; decide))).trans (hfr2_7 b kb)
                        have hfr2_8 : ∀ b, kd b = 2 → fldI (f_226 b) 8 = fldI (f b) 8 := fun b kb => (congrArg (fun x => fldI x 8) (hkc_227 b (by rw [kb]; decide) (by rw [kb]; decide))).trans (hfr2_8 b kb)
                        have hrr2_0 : ∀ b, kd b = 2 → fldR (f_226 b) 0 = fldR (f b) 0 := fun b kb => (congrArg (fun x => fldR x 0) (hkc_227 b (by rw [kb]; decide) (by rw [kb]; decide))).trans (hrr2_0 b kb)
                        have hrr2_3 : ∀ b, kd b = 2 → fldR (f_226 b) 3 = fldR (f b) 3 := fun b kb => (congrArg (fun x => fldR x 3) (hkc_227 b (by rw [kb]; decide) (by rw [kb]; decide))).trans (hrr2_3 b kb)
                        obtain ⟨x_231, ex_231⟩ : ∃ y : Int32, y_14 + 1 = y := ⟨_, rfl⟩
                        have hx_231 : x_231.toInt = y_14.toInt + 1 := by rw [← ex_231, ad_I (by rw [ti_1]; omega) (by rw [ti_1]; omega), ti_1]
                        have bx_231 : (1 ≤ x_231.toInt ∧ x_231.toInt ≤ 5) := by constructor <;> omega
                        refine lv_iinc (v := x_231) (lv' := [(3, .int x_231), (7, .int v_194), (8, .int x_87), (6, .int v_80), (5, .int x_58), (4, .int v_46), (0, .ref o0), (1, .ref o1), (2, .int p2)]) hx hb dX2_readItems_159 hl (k := 5) rfl ex_231 (by decide) rfl (fun ls hl => ?_)
                        refine lv_goto (tgt := 2) hx hb dX2_readItems_162 (by decide) ?_
                        exact ih_hloop_13 x_231 (by constructor <;> omega) f_226 hG _ _ hP hS hD hfr0 hfr2_4 hfr2_7 hfr2_8 hrr2_0 hrr2_3 (by omega) ls (lv_sub hl [0, 6, 7, 8] rfl)
                      · skip
                        rw [← Int32.toInt_inj, ti_0] at c_195
                        refine lv_iconst (v := 0) hx hb dX2_readItems_136 (by decide) ?_
                        exact W.zret (v := 0) (ty := .boolean) hx hb hr rfl (fun t ht hW => ⟨⟨0, f_174, rfl, ⟨hG, (by decide), hfr0, hfr2_4, hfr2_7, hfr2_8, hrr2_0, hrr2_3⟩, by rw [ht]; exact hP, va_K.moved hW.alike hK, pl_in hD⟩, hS.F ht⟩) hS.2.2 dX2_readItems_137
                  · skip
                    rw [← Int32.toInt_inj, ti_5] at c_171
                    refine lv_aload_n hx hb dX2_readItems_116 rfl (lv_at hl 6 rfl) ?_
                    refine lv_iconst (v := 3) hx hb dX2_readItems_117 (by decide) ?_
                    refine lv_iload hx hb dX2_readItems_118 (lv_at hl 4 rfl) ?_
                    refine tk_ViP (As := [.int 3, .int v_46]) (rest := []) (n := 2) hx hb hml hown hU hN hZ (s_X2_fail_k2 l (dC, dI) cI cL cZ cR cG cH Z kd L f_88 hG o0 mo0 ko0 3 v_46) wd_349 wd_350 wd_351 wd_33 wd_352 (by decide +kernel) ⟨Nat.le_of_ble_eq_true rfl, Nat.le_of_ble_eq_true rfl⟩ hK hP hD hS mo0 hfo_98 2 rfl rfl rfl hl.1 rfl (Nat.le_of_ble_eq_true rfl) dX2_readItems_120 ⟨Nat.le_of_ble_eq_true rfl, Nat.le_of_ble_eq_true rfl⟩ (fun x_232 f_233 H locs hw hP hD hS => ?_)
                    obtain ⟨hG, bx_232, hkc_234, hfc_235, hfc_236, hfc_237, hfc_238, hrc_239, hrc_240⟩ := hw
                    have hfo_242 : f_233 a_22 = .inl (cI, 600, .inl g_52) := by rw [hkc_234 a_22 (by rw [ka_22]; decide)]; exact hfo_97
                    have hfr0 : ∀ b, kd b ≠ 2 → kd b ≠ 205 → kd b ≠ 558 → f_233 b = f b := fun b q2 q205 q558 => (hkc_234 b q2).trans (hfr0 b q2 q205 q558)
                    have hfr2_4 : ∀ b, kd b = 2 → fldI (f_233 b) 4 = fldI (f b) 4 := fun b kb => (hfc_235 b kb).trans (hfr2_4 b kb)
                    have hfr2_7 : ∀ b, kd b = 2 → fldI (f_233 b) 7 = fldI (f b) 7 := fun b kb => (hfc_237 b kb).trans (hfr2_7 b kb)
                    have hfr2_8 : ∀ b, kd b = 2 → fldI (f_233 b) 8 = fldI (f b) 8 := fun b kb => (hfc_238 b kb).trans (hfr2_8 b kb)
                    have hrr2_0 : ∀ b, kd b = 2 → fldR (f_233 b) 0 = fldR (f b) 0 := fun b kb => (hrc_239 b kb).trans (hrr2_0 b kb)
                    have hrr2_3 : ∀ b, kd b = 2 → fldR (f_233 b) 3 = fldR (f b) 3 := fun b kb => (hrc_240 b kb).trans (hrr2_3 b kb)
                    obtain ⟨a_244, v_245, v_246, a_247, v_248, v_249, v_250, v_251, v_252, v_253, hfo_243, ⟨ma_244, ka_244⟩, ⟨ma_247, ka_247⟩, bv_248, bv_249, bv_250, bv_251, bv_252⟩ := un_2 (hG _ mo0) ko0
                    have bv_245 : ((-2147483648) ≤ v_245.toInt ∧ v_245.toInt ≤ 2147483647) := ⟨i32_lo _, i32_hi _⟩
                    have bv_246 : ((-2147483648) ≤ v_246.toInt ∧ v_246.toInt ≤ 2147483647) := ⟨i32_lo _, i32_hi _⟩
                    have bv_253 : ((-2147483648) ≤ v_253.toInt ∧ v_253.toInt ≤ 2147483647) := ⟨i32_lo _, i32_hi _⟩
                    obtain rfl : v_23 = v_248 := by have hk9 := hfc_235 o0 ko0; rw [hfo_243, hfo_98] at hk9; exact (Option.some.inj hk9).symm
                    obtain rfl : v_104 = v_249 := by have hk9 := hfc_236 o0 ko0; rw [hfo_243, hfo_98] at hk9; exact (Option.some.inj hk9).symm
                    obtain rfl : v_26 = v_251 := by have hk9 := hfc_237 o0 ko0; rw [hfo_243, hfo_98] at hk9; exact (Option.some.inj hk9).symm
                    obtain rfl : v_27 = v_252 := by have hk9 := hfc_238 o0 ko0; rw [hfo_243, hfo_98] at hk9; exact (Option.some.inj hk9).symm
                    obtain rfl : a_19 = a_244 := by have hk9 := hrc_239 o0 ko0; rw [hfo_243, hfo_98] at hk9; exact (Option.some.inj hk9).symm
                    obtain rfl : a_22 = a_247 := by have hk9 := hrc_240 o0 ko0; rw [hfo_243, hfo_98] at hk9; exact (Option.some.inj hk9).symm
                    exact W.zret (v := x_232) (ty := .boolean) hx hb hr (zb_n (by constructor <;> omega)) (fun t ht hW => ⟨⟨x_232, f_233, rfl, ⟨hG, (by constructor <;> omega), hfr0, hfr2_4, hfr2_7, hfr2_8, hrr2_0, hrr2_3⟩, by rw [ht]; exact hP, va_K.moved hW.alike hK, pl_in hD⟩, hS.F ht⟩) hS.2.2 dX2_readItems_123
                · skip
                  rw [← Int32.toInt_inj, ti_48] at c_170
                  refine lv_aload_n hx hb dX2_readItems_94 rfl (lv_at hl 6 rfl) ?_
                  refine lv_bipush (v := 48) hx hb dX2_readItems_95 (by decide) ?_
                  refine tk_ViP (As := [.int 48]) (rest := []) (n := 1) hx hb hml hown hU hN hZ (s_X2_isNext_k2 l (dC, dI) cI cL cZ cR cG cH Z kd L f_88 hG o0 mo0 ko0 48 (by decide)) wd_458 wd_459 wd_460 wd_33 wd_461 (by decide +kernel) ⟨Nat.le_of_ble_eq_true rfl, Nat.le_of_ble_eq_true rfl⟩ hK hP hD hS mo0 hfo_98 2 rfl rfl rfl hl.1 rfl (Nat.le_of_ble_eq_true rfl) dX2_readItems_97 ⟨Nat.le_of_ble_eq_true rfl, Nat.le_of_ble_eq_true rfl⟩ (fun x_254 f_255 H locs hw hP hD hS => ?_)
                  obtain ⟨hG, bx_254, hkc_256, hfc_257, hfc_258, hfc_259, hrc_260, hrc_261, hpost_262⟩ := hw
                  have hfo_264 : f_255 a_22 = .inl (cI, 600, .inl g_52) := by rw [hkc_256 a_22 (by rw [ka_22]; decide)]; exact hfo_97
                  have hfr0 : ∀ b, kd b ≠ 2 → kd b ≠ 205 → kd b ≠ 558 → f_255 b = f b := fun b q2 q205 q558 => (hkc_256 b q2).trans (hfr0 b q2 q205 q558)
                  have hfr2_4 : ∀ b, kd b = 2 → fldI (f_255 b) 4 = fldI (f b) 4 := fun b kb => (hfc_257 b kb).trans (hfr2_4 b kb)
                  have hfr2_7 : ∀ b, kd b = 2 → fldI (f_255 b) 7 = fldI (f b) 7 := fun b kb => (hfc_258 b kb).trans (hfr2_7 b kb)
                  have hfr2_8 : ∀ b, kd b = 2 → fldI (f_255 b) 8 = fldI (f b) 8 := fun b kb => (hfc_259 b kb).trans (hfr2_8 b kb)
                  have hrr2_0 : ∀ b, kd b = 2 → fldR (f_255 b) 0 = fldR (f b) 0 := fun b kb => (hrc_260 b kb).trans (hrr2_0 b kb)
                  have hrr2_3 : ∀ b, kd b = 2 → fldR (f_255 b) 3 = fldR (f b) 3 := fun b kb => (hrc_261 b kb).trans (hrr2_3 b kb)
                  obtain ⟨a_266, v_267, v_268, a_269, v_270, v_271, v_272, v_273, v_274, v_275, hfo_265, ⟨ma_266, ka_266⟩, ⟨ma_269, ka_269⟩, bv_270, bv_271, bv_272, bv_273, bv_274⟩ := un_2 (hG _ mo0) ko0
                  have bv_267 : ((-2147483648) ≤ v_267.toInt ∧ v_267.toInt ≤ 2147483647) := ⟨i32_lo _, i32_hi _⟩
                  have bv_268 : ((-2147483648) ≤ v_268.toInt ∧ v_268.toInt ≤ 2147483647) := ⟨i32_lo _, i32_hi _⟩
                  have bv_275 : ((-2147483648) ≤ v_275.toInt ∧ v_275.toInt ≤ 2147483647) := ⟨i32_lo _, i32_hi _⟩
                  obtain rfl : v_23 = v_270 := by have hk9 := hfc_257 o0 ko0; rw [hfo_265, hfo_98] at hk9; exact (Option.some.inj hk9).symm
                  obtain rfl : v_26 = v_273 := by have hk9 := hfc_258 o0 ko0; rw [hfo_265, hfo_98] at hk9; exact (Option.some.inj hk9).symm
                  obtain rfl : v_27 = v_274 := by have hk9 := hfc_259 o0 ko0; rw [hfo_265, hfo_98] at hk9; exact (Option.some.inj hk9).symm
                  obtain rfl : a_19 = a_266 := by have hk9 := hrc_260 o0 ko0; rw [hfo_265, hfo_98] at hk9; exact (Option.some.inj hk9).symm
                  obtain rfl : a_22 = a_269 := by have hk9 := hrc_261 o0 ko0; rw [hfo_265, hfo_98] at hk9; exact (Option.some.inj hk9).symm
                  have hqhpost_262 := hpost_262 v_104 v_271 (by rw [hfo_98]; rfl) (by rw [hfo_265]; rfl)
                  try rw [ti_48] at hqhpost_262
                  refine lv_if_eq (tgt := 111) hx hb dX2_readItems_100 (by decide) (fun c_276 => ?_) (fun c_276 => ?_)
                  · skip
                    rw [← Int32.toInt_inj, ti_0] at c_276
                    refine lv_iload_n hx hb dX2_readItems_111 rfl (lv_at hl 5 rfl) ?_
                    refine lv_iconst (v := 5) hx hb dX2_readItems_112 (by decide) ?_
                    refine lv_icmp_ne (tgt := 124) hx hb dX2_readItems_113 (by decide) (fun c_277 => ?_) (fun c_277 => ?_)
                    · skip
                      rw [← Int32.toInt_inj, ti_5] at c_277
                      refine lv_iload hx hb dX2_readItems_124 (lv_at hl 0 rfl) ?_
                      refine lv_if_eq (tgt := 144) hx hb dX2_readItems_126 (by decide) (fun c_278 => ?_) (fun c_278 => ?_)
                      · skip
                        rw [← Int32.toInt_inj, ti_0] at c_278
                        exfalso
                        omega
                      · skip
                        rw [← Int32.toInt_inj, ti_0] at c_278
                        refine lv_aload_n hx hb dX2_readItems_129 rfl (lv_at hl 6 rfl) ?_
                        refine tk_ViP (As := []) (rest := []) (n := 0) hx hb hml hown hU hN hZ (s_X2_readX_k2 l (dC, dI) cI cL cZ cR cG cH Z kd L f_255 hG o0 mo0 ko0) wd_454 wd_455 wd_456 wd_33 wd_457 (by decide +kernel) ⟨Nat.le_of_ble_eq_true rfl, Nat.le_of_ble_eq_true rfl⟩ hK hP hD hS mo0 hfo_265 2 rfl rfl rfl hl.1 rfl (Nat.le_of_ble_eq_true rfl) dX2_readItems_130 ⟨Nat.le_of_ble_eq_true rfl, Nat.le_of_ble_eq_true rfl⟩ (fun x_279 f_280 H locs hw hP hD hS => ?_)
                        obtain ⟨hG, bx_279, hkc_281, hfc_282, hfc_283, hfc_284, hrc_285, hrc_286, hpost_287⟩ := hw
                        have hfo_289 : f_280 a_22 = .inl (cI, 600, .inl g_52) := by rw [hkc_281 a_22 (by rw [ka_22]; decide)]; exact hfo_264
                        have hfr0 : ∀ b, kd b ≠ 2 → kd b ≠ 205 → kd b ≠ 558 → f_280 b = f b := fun b q2 q205 q558 => (hkc_281 b q2).trans (hfr0 b q2 q205 q558)
                        have hfr2_4 : ∀ b, kd b = 2 → fldI (f_280 b) 4 = fldI (f b) 4 := fun b kb => (hfc_282 b kb).trans (hfr2_4 b kb)
                        have hfr2_7 : ∀ b, kd b = 2 → fldI (f_280 b) 7 = fldI (f b) 7 := fun b kb => (hfc_283 b kb).trans (hfr2_7 b kb)
                        have hfr2_8 : ∀ b, kd b = 2 → fldI (f_280 b) 8 = fldI (f b) 8 := fun b kb => (hfc_284 b kb).trans (hfr2_8 b kb)
                        have hrr2_0 : ∀ b, kd b = 2 → fldR (f_280 b) 0 = fldR (f b) 0 := fun b kb => (hrc_285 b kb).trans (hrr2_0 b kb)
                        have hrr2_3 : ∀ b, kd b = 2 → fldR (f_280 b) 3 = fldR (f b) 3 := fun b kb => (hrc_286 b kb).trans (hrr2_3 b kb)
                        obtain ⟨a_291, v_292, v_293, a_294, v_295, v_296, v_297, v_298, v_299, v_300, hfo_290, ⟨ma_291, ka_291⟩, ⟨ma_294, ka_294⟩, bv_295, bv_296, bv_297, bv_298, bv_299⟩ := un_2 (hG _ mo0) ko0
                        have bv_292 : ((-2147483648) ≤ v_292.toInt ∧ v_292.toInt ≤ 2147483647) := ⟨i32_lo _, i32_hi _⟩
                        have bv_293 : ((-2147483648) ≤ v_293.toInt ∧ v_293.toInt ≤ 2147483647) := ⟨i32_lo _, i32_hi _⟩
                        have bv_300 : ((-2147483648) ≤ v_300.toInt ∧ v_300.toInt ≤ 2147483647) := ⟨i32_lo _, i32_hi _⟩
                        obtain rfl : v_23 = v_295 := by have hk9 := hfc_282 o0 ko0; rw [hfo_290, hfo_265] at hk9; exact (Option.some.inj hk9).symm
                        obtain rfl : v_26 = v_298 := by have hk9 := hfc_283 o0 ko0; rw [hfo_290, hfo_265] at hk9; exact (Option.some.inj hk9).symm
                        obtain rfl : v_27 = v_299 := by have hk9 := hfc_284 o0 ko0; rw [hfo_290, hfo_265] at hk9; exact (Option.some.inj hk9).symm
                        obtain rfl : a_19 = a_291 := by have hk9 := hrc_285 o0 ko0; rw [hfo_290, hfo_265] at hk9; exact (Option.some.inj hk9).symm
                        obtain rfl : a_22 = a_294 := by have hk9 := hrc_286 o0 ko0; rw [hfo_290, hfo_265] at hk9; exact (Option.some.inj hk9).symm
                        have hqhpost_287 := hpost_287 v_271 v_296 (by rw [hfo_265]; rfl) (by rw [hfo_290]; rfl)
                        refine lv_if_ne (tgt := 138) hx hb dX2_readItems_133 (by decide) (fun c_301 => ?_) (fun c_301 => ?_)
                        · skip
                          rw [← Int32.toInt_inj, ti_0] at c_301
                          refine lv_aload_n hx hb dX2_readItems_138 rfl (lv_at hl 6 rfl) ?_
                          refine tk_getP (D := (dC, dI)) (ci := 2) (v := .int v_300) (C := RX2) (T := TX2) (N := 10) hx hb hU inlX2 hown hK hP mo0 hfo_290 rfl 9 (by decide) (hU _ wd_450) (fun _ h9 => h9) rfl dX2_readItems_139 ?_
                          refine lv_istore (lv' := [(7, .int v_300), (8, .int x_87), (6, .int v_80), (5, .int x_58), (4, .int v_46), (3, .int y_14), (0, .ref o0), (1, .ref o1), (2, .int p2)]) hx hb dX2_readItems_142 hl (by decide) rfl (fun ls hl => ?_)
                          refine lv_aload_n hx hb dX2_readItems_144 rfl (lv_at hl 7 rfl) ?_
                          refine lv_iload_n hx hb dX2_readItems_145 rfl (lv_at hl 8 rfl) ?_
                          refine lv_iload hx hb dX2_readItems_146 (lv_at hl 2 rfl) ?_
                          refine lv_iload hx hb dX2_readItems_148 (lv_at hl 0 rfl) ?_
                          refine lv_aload_n hx hb dX2_readItems_150 rfl (lv_at hl 6 rfl) ?_
                          refine lv_bipush (v := 42) hx hb dX2_readItems_151 (by decide) ?_
                          refine tk_ViP (As := [.int 42]) (rest := [.int v_300, .int v_80, .int p2, .ref o1]) (n := 1) hx hb hml hown hU hN hZ (s_X2_skipIf_k2 l (dC, dI) cI cL cZ cR cG cH Z kd L f_280 hG o0 mo0 ko0 42 (by decide)) wd_384 wd_385 wd_386 wd_33 wd_387 (by decide +kernel) ⟨Nat.le_of_ble_eq_true rfl, Nat.le_of_ble_eq_true rfl⟩ hK hP hD hS mo0 hfo_290 2 rfl rfl rfl hl.1 rfl (Nat.le_of_ble_eq_true rfl) dX2_readItems_153 ⟨Nat.le_of_ble_eq_true rfl, Nat.le_of_ble_eq_true rfl⟩ (fun x_302 f_303 H locs hw hP hD hS => ?_)
                          obtain ⟨hG, bx_302, hkc_304, hfc_305, hfc_306, hfc_307, hrc_308, hrc_309, hpost_310⟩ := hw
                          have hfo_312 : f_303 a_22 = .inl (cI, 600, .inl g_52) := by rw [hkc_304 a_22 (by rw [ka_22]; decide)]; exact hfo_289
                          have hfr0 : ∀ b, kd b ≠ 2 → kd b ≠ 205 → kd b ≠ 558 → f_303 b = f b := fun b q2 q205 q558 => (hkc_304 b q2).trans (hfr0 b q2 q205 q558)
                          have hfr2_4 : ∀ b, kd b = 2 → fldI (f_303 b) 4 = fldI (f b) 4 := fun b kb => (hfc_305 b kb).trans (hfr2_4 b kb)
                          have hfr2_7 : ∀ b, kd b = 2 → fldI (f_303 b) 7 = fldI (f b) 7 := fun b kb => (hfc_306 b kb).trans (hfr2_7 b kb)
                          have hfr2_8 : ∀ b, kd b = 2 → fldI (f_303 b) 8 = fldI (f b) 8 := fun b kb => (hfc_307 b kb).trans (hfr2_8 b kb)
                          have hrr2_0 : ∀ b, kd b = 2 → fldR (f_303 b) 0 = fldR (f b) 0 := fun b kb => (hrc_308 b kb).trans (hrr2_0 b kb)
                          have hrr2_3 : ∀ b, kd b = 2 → fldR (f_303 b) 3 = fldR (f b) 3 := fun b kb => (hrc_309 b kb).trans (hrr2_3 b kb)
                          obtain ⟨a_314, v_315, v_316, a_317, v_318, v_319, v_320, v_321, v_322, v_323, hfo_313, ⟨ma_314, ka_314⟩, ⟨ma_317, ka_317⟩, bv_318, bv_319, bv_320, bv_321, bv_322⟩ := un_2 (hG _ mo0) ko0
                          have bv_315 : ((-2147483648) ≤ v_315.toInt ∧ v_315.toInt ≤ 2147483647) := ⟨i32_lo _, i32_hi _⟩
                          have bv_316 : ((-2147483648) ≤ v_316.toInt ∧ v_316.toInt ≤ 2147483647) := ⟨i32_lo _, i32_hi _⟩
                          have bv_323 : ((-2147483648) ≤ v_323.toInt ∧ v_323.toInt ≤ 2147483647) := ⟨i32_lo _, i32_hi _⟩
                          obtain rfl : v_23 = v_318 := by have hk9 := hfc_305 o0 ko0; rw [hfo_313, hfo_290] at hk9; exact (Option.some.inj hk9).symm
                          obtain rfl : v_26 = v_321 := by have hk9 := hfc_306 o0 ko0; rw [hfo_313, hfo_290] at hk9; exact (Option.some.inj hk9).symm
                          obtain rfl : v_27 = v_322 := by have hk9 := hfc_307 o0 ko0; rw [hfo_313, hfo_290] at hk9; exact (Option.some.inj hk9).symm
                          obtain rfl : a_19 = a_314 := by have hk9 := hrc_308 o0 ko0; rw [hfo_313, hfo_290] at hk9; exact (Option.some.inj hk9).symm
                          obtain rfl : a_22 = a_317 := by have hk9 := hrc_309 o0 ko0; rw [hfo_313, hfo_290] at hk9; exact (Option.some.inj hk9).symm
                          have hqhpost_310 := hpost_310 v_296 v_319 (by rw [hfo_290]; rfl) (by rw [hfo_313]; rfl)
                          try rw [ti_42] at hqhpost_310
                          obtain ⟨a_325, a_326, a_327, v_328, v_329, v_330, hfo_324, ⟨ma_325, ka_325⟩, ⟨ma_326, ka_326⟩, ⟨ma_327, ka_327⟩⟩ := un_205 (hG _ mo1) ko1
                          have bv_328 : ((-2147483648) ≤ v_328.toInt ∧ v_328.toInt ≤ 2147483647) := ⟨i32_lo _, i32_hi _⟩
                          have bv_329 : ((-2147483648) ≤ v_329.toInt ∧ v_329.toInt ≤ 2147483647) := ⟨i32_lo _, i32_hi _⟩
                          have bv_330 : ((-2147483648) ≤ v_330.toInt ∧ v_330.toInt ≤ 2147483647) := ⟨i32_lo _, i32_hi _⟩
                          refine tk_VvP (As := [.int p2, .int v_80, .int v_300, .int x_302]) (rest := []) (n := 4) hx hb hml hown hU hN hZ (s_X5_addItem_k205 l (dC, dI) cI cL cZ cR cG cH Z kd L f_303 hG o1 mo1 ko1 p2 (by constructor <;> omega) v_80 v_300 x_302 (by constructor <;> omega)) wd_462 wd_463 wd_464 wd_102 wd_465 (by decide +kernel) ⟨Nat.le_of_ble_eq_true rfl, Nat.le_of_ble_eq_true rfl⟩ hK hP hD hS mo1 hfo_324 5 rfl rfl rfl hl.1 rfl (Nat.le_of_ble_eq_true rfl) dX2_readItems_156 ⟨Nat.le_of_ble_eq_true rfl, Nat.le_of_ble_eq_true rfl⟩ (fun f_332 H locs hw hP hD hS => ?_)
                          obtain ⟨hG, hkc_333⟩ := hw
                          have hfo_335 : f_332 a_22 = .inl (cI, 600, .inl g_52) := by rw [hkc_333 a_22 (by rw [ka_22]; decide) (by rw [ka_22]; decide)]; exact hfo_312
                          have hfo_336 : f_332 o0 = .inr (2, [.ref a_19, .int v_315, .int v_316, .ref a_22, .int v_23, .int v_319, .int v_320, .int v_26, .int v_27, .int v_323]) := by rw [hkc_333 o0 (by rw [ko0]; decide) (by rw [ko0]; decide)]; exact hfo_313
                          have hfr0 : ∀ b, kd b ≠ 2 → kd b ≠ 205 → kd b ≠ 558 → f_332 b = f b := fun b q2 q205 q558 => (hkc_333 b q205 q558).trans (hfr0 b q2 q205 q558)
                          have hfr2_4 : ∀ b, kd b = 2 → fldI (f_332 b) 4 = fldI (f b) 4 := fun b kb => (congrArg (fun x => fldI x 4) (hkc_333 b (by rw [kb]; decide) (by rw [kb]; decide))).trans (hfr2_4 b kb)
                          have hfr2_7 : ∀ b, kd b = 2 → fldI (f_332 b) 7 = fldI (f b) 7 := fun b kb => (congrArg (fun x => fldI x 7) (hkc_333 b (by rw [kb]; decide) (by rw [kb]; decide))).trans (hfr2_7 b kb)
                          have hfr2_8 : ∀ b, kd b = 2 → fldI (f_332 b) 8 = fldI (f b) 8 := fun b kb => (congrArg (fun x => fldI x 8) (hkc_333 b (by rw [kb]; decide) (by rw [kb]; decide))).trans (hfr2_8 b kb)
                          have hrr2_0 : ∀ b, kd b = 2 → fldR (f_332 b) 0 = fldR (f b) 0 := fun b kb => (congrArg (fun x => fldR x 0) (hkc_333 b (by rw [kb]; decide) (by rw [kb]; decide))).trans (hrr2_0 b kb)
                          have hrr2_3 : ∀ b, kd b = 2 → fldR (f_332 b) 3 = fldR (f b) 3 := fun b kb => (congrArg (fun x => fldR x 3) (hkc_333 b (by rw [kb]; decide) (by rw [kb]; decide))).trans (hrr2_3 b kb)
                          obtain ⟨x_337, ex_337⟩ : ∃ y : Int32, y_14 + 1 = y := ⟨_, rfl⟩
                          have hx_337 : x_337.toInt = y_14.toInt + 1 := by rw [← ex_337, ad_I (by rw [ti_1]; omega) (by rw [ti_1]; omega), ti_1]
                          have bx_337 : (1 ≤ x_337.toInt ∧ x_337.toInt ≤ 5) := by constructor <;> omega
                          refine lv_iinc (v := x_337) (lv' := [(3, .int x_337), (7, .int v_300), (8, .int x_87), (6, .int v_80), (5, .int x_58), (4, .int v_46), (0, .ref o0), (1, .ref o1), (2, .int p2)]) hx hb dX2_readItems_159 hl (k := 5) rfl ex_337 (by decide) rfl (fun ls hl => ?_)
                          refine lv_goto (tgt := 2) hx hb dX2_readItems_162 (by decide) ?_
                          exact ih_hloop_13 x_337 (by constructor <;> omega) f_332 hG _ _ hP hS hD hfr0 hfr2_4 hfr2_7 hfr2_8 hrr2_0 hrr2_3 (by omega) ls (lv_sub hl [0, 6, 7, 8] rfl)
                        · skip
                          rw [← Int32.toInt_inj, ti_0] at c_301
                          refine lv_iconst (v := 0) hx hb dX2_readItems_136 (by decide) ?_
                          exact W.zret (v := 0) (ty := .boolean) hx hb hr rfl (fun t ht hW => ⟨⟨0, f_280, rfl, ⟨hG, (by decide), hfr0, hfr2_4, hfr2_7, hfr2_8, hrr2_0, hrr2_3⟩, by rw [ht]; exact hP, va_K.moved hW.alike hK, pl_in hD⟩, hS.F ht⟩) hS.2.2 dX2_readItems_137
                    · skip
                      rw [← Int32.toInt_inj, ti_5] at c_277
                      refine lv_aload_n hx hb dX2_readItems_116 rfl (lv_at hl 6 rfl) ?_
                      refine lv_iconst (v := 3) hx hb dX2_readItems_117 (by decide) ?_
                      refine lv_iload hx hb dX2_readItems_118 (lv_at hl 4 rfl) ?_
                      refine tk_ViP (As := [.int 3, .int v_46]) (rest := []) (n := 2) hx hb hml hown hU hN hZ (s_X2_fail_k2 l (dC, dI) cI cL cZ cR cG cH Z kd L f_255 hG o0 mo0 ko0 3 v_46) wd_349 wd_350 wd_351 wd_33 wd_352 (by decide +kernel) ⟨Nat.le_of_ble_eq_true rfl, Nat.le_of_ble_eq_true rfl⟩ hK hP hD hS mo0 hfo_265 2 rfl rfl rfl hl.1 rfl (Nat.le_of_ble_eq_true rfl) dX2_readItems_120 ⟨Nat.le_of_ble_eq_true rfl, Nat.le_of_ble_eq_true rfl⟩ (fun x_338 f_339 H locs hw hP hD hS => ?_)
                      obtain ⟨hG, bx_338, hkc_340, hfc_341, hfc_342, hfc_343, hfc_344, hrc_345, hrc_346⟩ := hw
                      have hfo_348 : f_339 a_22 = .inl (cI, 600, .inl g_52) := by rw [hkc_340 a_22 (by rw [ka_22]; decide)]; exact hfo_264
                      have hfr0 : ∀ b, kd b ≠ 2 → kd b ≠ 205 → kd b ≠ 558 → f_339 b = f b := fun b q2 q205 q558 => (hkc_340 b q2).trans (hfr0 b q2 q205 q558)
                      have hfr2_4 : ∀ b, kd b = 2 → fldI (f_339 b) 4 = fldI (f b) 4 := fun b kb => (hfc_341 b kb).trans (hfr2_4 b kb)
                      have hfr2_7 : ∀ b, kd b = 2 → fldI (f_339 b) 7 = fldI (f b) 7 := fun b kb => (hfc_343 b kb).trans (hfr2_7 b kb)
                      have hfr2_8 : ∀ b, kd b = 2 → fldI (f_339 b) 8 = fldI (f b) 8 := fun b kb => (hfc_344 b kb).trans (hfr2_8 b kb)
                      have hrr2_0 : ∀ b, kd b = 2 → fldR (f_339 b) 0 = fldR (f b) 0 := fun b kb => (hrc_345 b kb).trans (hrr2_0 b kb)
                      have hrr2_3 : ∀ b, kd b = 2 → fldR (f_339 b) 3 = fldR (f b) 3 := fun b kb => (hrc_346 b kb).trans (hrr2_3 b kb)
                      obtain ⟨a_350, v_351, v_352, a_353, v_354, v_355, v_356, v_357, v_358, v_359, hfo_349, ⟨ma_350, ka_350⟩, ⟨ma_353, ka_353⟩, bv_354, bv_355, bv_356, bv_357, bv_358⟩ := un_2 (hG _ mo0) ko0
                      have bv_351 : ((-2147483648) ≤ v_351.toInt ∧ v_351.toInt ≤ 2147483647) := ⟨i32_lo _, i32_hi _⟩
                      have bv_352 : ((-2147483648) ≤ v_352.toInt ∧ v_352.toInt ≤ 2147483647) := ⟨i32_lo _, i32_hi _⟩
                      have bv_359 : ((-2147483648) ≤ v_359.toInt ∧ v_359.toInt ≤ 2147483647) := ⟨i32_lo _, i32_hi _⟩
                      obtain rfl : v_23 = v_354 := by have hk9 := hfc_341 o0 ko0; rw [hfo_349, hfo_265] at hk9; exact (Option.some.inj hk9).symm
                      obtain rfl : v_271 = v_355 := by have hk9 := hfc_342 o0 ko0; rw [hfo_349, hfo_265] at hk9; exact (Option.some.inj hk9).symm
                      obtain rfl : v_26 = v_357 := by have hk9 := hfc_343 o0 ko0; rw [hfo_349, hfo_265] at hk9; exact (Option.some.inj hk9).symm
                      obtain rfl : v_27 = v_358 := by have hk9 := hfc_344 o0 ko0; rw [hfo_349, hfo_265] at hk9; exact (Option.some.inj hk9).symm
                      obtain rfl : a_19 = a_350 := by have hk9 := hrc_345 o0 ko0; rw [hfo_349, hfo_265] at hk9; exact (Option.some.inj hk9).symm
                      obtain rfl : a_22 = a_353 := by have hk9 := hrc_346 o0 ko0; rw [hfo_349, hfo_265] at hk9; exact (Option.some.inj hk9).symm
                      exact W.zret (v := x_338) (ty := .boolean) hx hb hr (zb_n (by constructor <;> omega)) (fun t ht hW => ⟨⟨x_338, f_339, rfl, ⟨hG, (by constructor <;> omega), hfr0, hfr2_4, hfr2_7, hfr2_8, hrr2_0, hrr2_3⟩, by rw [ht]; exact hP, va_K.moved hW.alike hK, pl_in hD⟩, hS.F ht⟩) hS.2.2 dX2_readItems_123
                  · skip
                    rw [← Int32.toInt_inj, ti_0] at c_276
                    refine lv_aload_n hx hb dX2_readItems_103 rfl (lv_at hl 6 rfl) ?_
                    refine lv_iconst (v := 2) hx hb dX2_readItems_104 (by decide) ?_
                    refine lv_iload hx hb dX2_readItems_105 (lv_at hl 4 rfl) ?_
                    refine tk_ViP (As := [.int 2, .int v_46]) (rest := []) (n := 2) hx hb hml hown hU hN hZ (s_X2_fail_k2 l (dC, dI) cI cL cZ cR cG cH Z kd L f_255 hG o0 mo0 ko0 2 v_46) wd_349 wd_350 wd_351 wd_33 wd_352 (by decide +kernel) ⟨Nat.le_of_ble_eq_true rfl, Nat.le_of_ble_eq_true rfl⟩ hK hP hD hS mo0 hfo_265 2 rfl rfl rfl hl.1 rfl (Nat.le_of_ble_eq_true rfl) dX2_readItems_107 ⟨Nat.le_of_ble_eq_true rfl, Nat.le_of_ble_eq_true rfl⟩ (fun x_360 f_361 H locs hw hP hD hS => ?_)
                    obtain ⟨hG, bx_360, hkc_362, hfc_363, hfc_364, hfc_365, hfc_366, hrc_367, hrc_368⟩ := hw
                    have hfo_370 : f_361 a_22 = .inl (cI, 600, .inl g_52) := by rw [hkc_362 a_22 (by rw [ka_22]; decide)]; exact hfo_264
                    have hfr0 : ∀ b, kd b ≠ 2 → kd b ≠ 205 → kd b ≠ 558 → f_361 b = f b := fun b q2 q205 q558 => (hkc_362 b q2).trans (hfr0 b q2 q205 q558)
                    have hfr2_4 : ∀ b, kd b = 2 → fldI (f_361 b) 4 = fldI (f b) 4 := fun b kb => (hfc_363 b kb).trans (hfr2_4 b kb)
                    have hfr2_7 : ∀ b, kd b = 2 → fldI (f_361 b) 7 = fldI (f b) 7 := fun b kb => (hfc_365 b kb).trans (hfr2_7 b kb)
                    have hfr2_8 : ∀ b, kd b = 2 → fldI (f_361 b) 8 = fldI (f b) 8 := fun b kb => (hfc_366 b kb).trans (hfr2_8 b kb)
                    have hrr2_0 : ∀ b, kd b = 2 → fldR (f_361 b) 0 = fldR (f b) 0 := fun b kb => (hrc_367 b kb).trans (hrr2_0 b kb)
                    have hrr2_3 : ∀ b, kd b = 2 → fldR (f_361 b) 3 = fldR (f b) 3 := fun b kb => (hrc_368 b kb).trans (hrr2_3 b kb)
                    obtain ⟨a_372, v_373, v_374, a_375, v_376, v_377, v_378, v_379, v_380, v_381, hfo_371, ⟨ma_372, ka_372⟩, ⟨ma_375, ka_375⟩, bv_376, bv_377, bv_378, bv_379, bv_380⟩ := un_2 (hG _ mo0) ko0
                    have bv_373 : ((-2147483648) ≤ v_373.toInt ∧ v_373.toInt ≤ 2147483647) := ⟨i32_lo _, i32_hi _⟩
                    have bv_374 : ((-2147483648) ≤ v_374.toInt ∧ v_374.toInt ≤ 2147483647) := ⟨i32_lo _, i32_hi _⟩
                    have bv_381 : ((-2147483648) ≤ v_381.toInt ∧ v_381.toInt ≤ 2147483647) := ⟨i32_lo _, i32_hi _⟩
                    obtain rfl : v_23 = v_376 := by have hk9 := hfc_363 o0 ko0; rw [hfo_371, hfo_265] at hk9; exact (Option.some.inj hk9).symm
                    obtain rfl : v_271 = v_377 := by have hk9 := hfc_364 o0 ko0; rw [hfo_371, hfo_265] at hk9; exact (Option.some.inj hk9).symm
                    obtain rfl : v_26 = v_379 := by have hk9 := hfc_365 o0 ko0; rw [hfo_371, hfo_265] at hk9; exact (Option.some.inj hk9).symm
                    obtain rfl : v_27 = v_380 := by have hk9 := hfc_366 o0 ko0; rw [hfo_371, hfo_265] at hk9; exact (Option.some.inj hk9).symm
                    obtain rfl : a_19 = a_372 := by have hk9 := hrc_367 o0 ko0; rw [hfo_371, hfo_265] at hk9; exact (Option.some.inj hk9).symm
                    obtain rfl : a_22 = a_375 := by have hk9 := hrc_368 o0 ko0; rw [hfo_371, hfo_265] at hk9; exact (Option.some.inj hk9).symm
                    exact W.zret (v := x_360) (ty := .boolean) hx hb hr (zb_n (by constructor <;> omega)) (fun t ht hW => ⟨⟨x_360, f_361, rfl, ⟨hG, (by constructor <;> omega), hfr0, hfr2_4, hfr2_7, hfr2_8, hrr2_0, hrr2_3⟩, by rw [ht]; exact hP, va_K.moved hW.alike hK, pl_in hD⟩, hS.F ht⟩) hS.2.2 dX2_readItems_110
            refine lv_if_eq (tgt := 68) hx hb dX2_readItems_54 (by decide) (fun c_382 => ?_) (fun c_382 => ?_)
            · skip
              rw [← Int32.toInt_inj, ti_0] at c_382
              refine lv_aload_n hx hb dX2_readItems_68 rfl (lv_at hl 4 rfl) ?_
              refine tk_getP (D := (dC, dI)) (ci := 2) (v := .int v_80) (C := RX2) (T := TX2) (N := 10) hx hb hU inlX2 hown hK hP mo0 hfo_70 rfl 9 (by decide) (hU _ wd_450) (fun _ h9 => h9) rfl dX2_readItems_69 ?_
              exact hcut_86 v_80 (by constructor <;> omega) ls (lv_sub hl [0, 1, 2, 3, 4, 5, 6] rfl)
            · skip
              rw [← Int32.toInt_inj, ti_0] at c_382
              refine lv_aload_n hx hb dX2_readItems_57 rfl (lv_at hl 4 rfl) ?_
              refine tk_getP (D := (dC, dI)) (ci := 2) (v := .int v_80) (C := RX2) (T := TX2) (N := 10) hx hb hU inlX2 hown hK hP mo0 hfo_70 rfl 9 (by decide) (hU _ wd_450) (fun _ h9 => h9) rfl dX2_readItems_58 ?_
              refine lv_sipush (v := 512) hx hb dX2_readItems_61 (by decide) ?_
              refine lv_ior hx hb dX2_readItems_64 ?_
              refine lv_topi (fun x_383 ex_383 => ?_)
              have bx_383 : ((-2147483648) ≤ x_383.toInt ∧ x_383.toInt ≤ 2147483647) := ⟨i32_lo _, i32_hi _⟩
              refine lv_goto (tgt := 72) hx hb dX2_readItems_65 (by decide) ?_
              exact hcut_86 x_383 (by constructor <;> omega) ls (lv_sub hl [0, 1, 2, 3, 4, 5, 6] rfl)
          · skip
            rw [← Int32.toInt_inj, ti_0] at c_81
            refine lv_iconst (v := 0) hx hb dX2_readItems_41 (by decide) ?_
            exact W.zret (v := 0) (ty := .boolean) hx hb hr rfl (fun t ht hW => ⟨⟨0, f_60, rfl, ⟨hG, (by decide), hfr0, hfr2_4, hfr2_7, hfr2_8, hrr2_0, hrr2_3⟩, by rw [ht]; exact hP, va_K.moved hW.alike hK, pl_in hD⟩, hS.F ht⟩) hS.2.2 dX2_readItems_42
  exact hloop_13 6 0 (by decide) f hG _ _ hP hS hD hfr0 hfr2_4 hfr2_7 hfr2_8 hrr2_0 hrr2_3 (by (try rw [ti_0]) <;> omega) ls hl
