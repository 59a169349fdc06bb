set_option maxHeartbeats 8000000 in
set_option maxRecDepth 100000 in
theorem s_X2_readItems_k2_k205 (l : Launch) (D : va_G) (cI cL cZ cR cG cH : ClassId) (Z : zT) (kd : Nat → Nat) (L : List Nat) (f : Nat → va_E) (hG : GI (okc cI cL cZ cR cG cH L kd) kd L f) (o0 : Nat) (mo0 : o0 ∈ L) (ko0 : kd o0 = 2) (o1 : Nat) (mo1 : o1 ∈ L) (ko1 : kd o1 = 205) (p2 : Int32) (bp2 : (0 ≤ p2.toInt ∧ p2.toInt ≤ 2)) : mPI l D cI cL cZ cR cG cH Z yX2_readItems cX2_readItems 9 (some .boolean) 2 66 [.ref o0, .ref o1, .int p2] L f (fun (r : Int32) (f9 : Nat → va_E) => GI (okc cI cL cZ cR cG cH L kd) kd L f9 ∧ (0 ≤ r.toInt ∧ r.toInt ≤ 1) ∧ (∀ b, kd b ≠ 2 → kd b ≠ 205 → kd b ≠ 558 → f9 b = f b) ∧ (∀ b, kd b = 2 → fldI (f9 b) 4 = fldI (f b) 4) ∧ (∀ b, kd b = 2 → fldI (f9 b) 7 = fldI (f b) 7) ∧ (∀ b, kd b = 2 → fldI (f9 b) 8 = fldI (f b) 8) ∧ (∀ b, kd b = 2 → fldR (f9 b) 0 = fldR (f b) 0) ∧ (∀ b, kd b = 2 → fldR (f9 b) 3 = fldR (f b) 3) ∧ (∀ (w5 z5 : Int32), fldI (f o0) 5 = some w5 → fldI (f9 o0) 5 = some z5 → w5.toInt ≤ z5.toInt)) := by
  obtain ⟨dC, dI⟩ := D
  refine Met.ofW (cc := cX2_readItems) (maxL := 9) (ret := (some .boolean)) (by decide) rfl ?_
  intro p e s m args below meth c s₁ B hml hv
  obtain ⟨rfl, hP, hK, hD0, hN, hZ⟩ := hv
  have hx := B.exec
  have hb := B.bytes
  have hr := B.returns
  have hU : ∀ w ∈ wsU, w.before _ s = true := fun w h => atoms_spec (ws := wU yX2_readItems cX2_readItems 9 (some .boolean)) B.pre w (List.mem_cons_of_mem _ h)
  have hown : s.vm.findClass RX2 = some m.cls := findClass_of_methodNamed B.named
  have hlocks := B.notSynchronized
  have hD := pl_in hD0
  have hS : va_S (fun q => q ∈ L) s.heap s.heap [] := va_S.rf
  have hl := lv_entry ([.ref o0, .ref o1, .int p2]) (n := 9) (Nat.le_of_ble_eq_true rfl)
  rw [lg_entry_eq]
  generalize (lg_sl ([.ref o0, .ref o1, .int p2]) ++ List.replicate (9 - (lg_sl ([.ref o0, .ref o1, .int p2])).length) Slot.unset).toArray = ls at hl ⊢
  have hl : lv_has ls 9 [(0, .ref o0), (1, .ref o1), (2, .int p2)] := hl
  have hfr0 : ∀ b, kd b ≠ 2 → kd b ≠ 205 → kd b ≠ 558 → f b = f b := fun _ _ _ _ => rfl
  have hfr2_4 : ∀ b, kd b = 2 → fldI (f b) 4 = fldI (f b) 4 := fun _ _ => rfl
  have hfr2_7 : ∀ b, kd b = 2 → fldI (f b) 7 = fldI (f b) 7 := fun _ _ => rfl
  have hfr2_8 : ∀ b, kd b = 2 → fldI (f b) 8 = fldI (f b) 8 := fun _ _ => rfl
  have hrr2_0 : ∀ b, kd b = 2 → fldR (f b) 0 = fldR (f b) 0 := fun _ _ => rfl
  have hrr2_3 : ∀ b, kd b = 2 → fldR (f b) 3 = fldR (f b) 3 := fun _ _ => rfl
  obtain ⟨a_2, v_3, v_4, a_5, v_6, v_7, v_8, v_9, v_10, v_11, hfo_1, ⟨ma_2, ka_2⟩, ⟨ma_5, ka_5⟩, bv_6, bv_7, bv_8, bv_9, bv_10⟩ := un_2 (hG _ mo0) ko0
  have bv_3 : ((-2147483648) ≤ v_3.toInt ∧ v_3.toInt ≤ 2147483647) := ⟨i32_lo _, i32_hi _⟩
  have bv_4 : ((-2147483648) ≤ v_4.toInt ∧ v_4.toInt ≤ 2147483647) := ⟨i32_lo _, i32_hi _⟩
  have bv_11 : ((-2147483648) ≤ v_11.toInt ∧ v_11.toInt ≤ 2147483647) := ⟨i32_lo _, i32_hi _⟩
  refine lv_iconst (v := 0) hx hb dX2_readItems_0 (by decide) ?_
  refine lv_istore_n (lv' := [(3, .int 0), (0, .ref o0), (1, .ref o1), (2, .int p2)]) hx hb dX2_readItems_1 rfl hl (by decide) rfl (fun ls hl => ?_)
  have hloop_25 : ∀ (n : Nat), ∀ (y_26 : Int32), (0 ≤ y_26.toInt ∧ y_26.toInt ≤ 5) → ∀ (f_28 : Nat → va_E), GI (okc cI cL cZ cR cG cH L kd) kd L f_28 → ∀ (H : Heap) (locs : List Loc), va_P (dC, dI) vwCl (va_pl L f_28) H → va_S (fun q => q ∈ L) s.heap H locs → va_D (fun q => q ∈ L) (va_pl L f_28) → (∀ b, kd b ≠ 2 → kd b ≠ 205 → kd b ≠ 558 → f_28 b = f b) → (∀ b, kd b = 2 → fldI (f_28 b) 4 = fldI (f b) 4) → (∀ b, kd b = 2 → fldI (f_28 b) 7 = fldI (f b) 7) → (∀ b, kd b = 2 → fldI (f_28 b) 8 = fldI (f b) 8) → (∀ b, kd b = 2 → fldR (f_28 b) 0 = fldR (f b) 0) → (∀ b, kd b = 2 → fldR (f_28 b) 3 = fldR (f b) 3) → 5 - y_26.toInt < (n : Int) → ∀ (ls : Array Slot), lv_has ls 9 [(3, .int y_26), (0, .ref o0), (1, .ref o1), (2, .int p2)] → W p l e (headSpec (wU yX2_readItems cX2_readItems 9 (some .boolean)) { frames := 2, cells := 0, slots := 0, locals := 66 }).room s m [.ref o0, .ref o1, .int p2].toArray below meth c H locs 0 0 (MQ below (va_Qi (fun (r : Int32) (f9 : Nat → va_E) => GI (okc cI cL cZ cR cG cH L kd) kd L f9 ∧ (0 ≤ r.toInt ∧ r.toInt ≤ 1) ∧ (∀ b, kd b ≠ 2 → kd b ≠ 205 → kd b ≠ 558 → f9 b = f b) ∧ (∀ b, kd b = 2 → fldI (f9 b) 4 = fldI (f b) 4) ∧ (∀ b, kd b = 2 → fldI (f9 b) 7 = fldI (f b) 7) ∧ (∀ b, kd b = 2 → fldI (f9 b) 8 = fldI (f b) 8) ∧ (∀ b, kd b = 2 → fldR (f9 b) 0 = fldR (f b) 0) ∧ (∀ b, kd b = 2 → fldR (f9 b) 3 = fldR (f b) 3) ∧ (∀ (w5 z5 : Int32), fldI (f o0) 5 = some w5 → fldI (f9 o0) 5 = some z5 → w5.toInt ≤ z5.toInt)) (qP (dC, dI) cI cL cZ cR cG cH L) (fun q => q ∈ L)) [.ref o0, .ref o1, .int p2].toArray s 0 0 (fun q => q ∈ L)) (F0 m 2 ls []) := by
    intro n
    induction n with
    | zero => intro y_26 by_26 f_28 hG H locs hP hS hD hfr0 hfr2_4 hfr2_7 hfr2_8 hrr2_0 hrr2_3 hmuhloop_25 ls hl; exfalso; omega
    | succ n ih_hloop_25 =>
      intro y_26 by_26 f_28 hG H locs hP hS hD hfr0 hfr2_4 hfr2_7 hfr2_8 hrr2_0 hrr2_3 hmuhloop_25 ls hl
      refine lv_iload_n hx hb dX2_readItems_2 rfl (lv_at hl 0 rfl) ?_
      refine lv_iconst (v := 5) hx hb dX2_readItems_3 (by decide) ?_
      refine lv_icmp_gt (tgt := 165) hx hb dX2_readItems_4 (by decide) (fun c_29 => ?_) (fun c_29 => ?_)
      · skip
        rw [Int32.lt_iff_toInt_lt, ti_5] at c_29
        exfalso
        omega
      · skip
        rw [Int32.lt_iff_toInt_lt, ti_5] at c_29
        refine lv_aload_n hx hb dX2_readItems_7 rfl (lv_at hl 1 rfl) ?_
        obtain ⟨a_31, v_32, v_33, a_34, v_35, v_36, v_37, v_38, v_39, v_40, hfo_30, ⟨ma_31, ka_31⟩, ⟨ma_34, ka_34⟩, bv_35, bv_36, bv_37, bv_38, bv_39⟩ := un_2 (hG _ mo0) ko0
        have bv_32 : ((-2147483648) ≤ v_32.toInt ∧ v_32.toInt ≤ 2147483647) := ⟨i32_lo _, i32_hi _⟩
        have bv_33 : ((-2147483648) ≤ v_33.toInt ∧ v_33.toInt ≤ 2147483647) := ⟨i32_lo _, i32_hi _⟩
        have bv_40 : ((-2147483648) ≤ v_40.toInt ∧ v_40.toInt ≤ 2147483647) := ⟨i32_lo _, i32_hi _⟩
        obtain rfl : a_2 = a_31 := by have hk9 := hrr2_0 o0 ko0; rw [hfo_30, hfo_1] at hk9; exact (Option.some.inj hk9).symm
        obtain rfl : a_5 = a_34 := by have hk9 := hrr2_3 o0 ko0; rw [hfo_30, hfo_1] at hk9; exact (Option.some.inj hk9).symm
        refine tk_ViP (As := []) (rest := []) (n := 0) hx hb hml hown hU hN hZ (s_X2_peek_k2 l (dC, dI) cI cL cZ cR cG cH Z kd L f_28 hG o0 mo0 ko0) wd_274 wd_275 wd_276 wd_33 wd_277 (by decide +kernel) ⟨Nat.le_of_ble_eq_true rfl, Nat.le_of_ble_eq_true rfl⟩ hK hP hD hS mo0 hfo_30 2 rfl rfl rfl hl.1 rfl (Nat.le_of_ble_eq_true rfl) dX2_readItems_8 ⟨Nat.le_of_ble_eq_true rfl, Nat.le_of_ble_eq_true rfl⟩ (fun x_41 f_42 H locs hw hP hD hS => ?_)
        obtain ⟨hG, bx_41, hkc_43, hfc_44, hfc_45, hfc_46, hrc_47, hrc_48, hpost_49, hxp_50⟩ := hw
        have hfr0 : ∀ b, kd b ≠ 2 → kd b ≠ 205 → kd b ≠ 558 → f_42 b = f b := fun b q2 q205 q558 => (hkc_43 b q2).trans (hfr0 b q2 q205 q558)
        have hfr2_4 : ∀ b, kd b = 2 → fldI (f_42 b) 4 = fldI (f b) 4 := fun b kb => (hfc_44 b kb).trans (hfr2_4 b kb)
        have hfr2_7 : ∀ b, kd b = 2 → fldI (f_42 b) 7 = fldI (f b) 7 := fun b kb => (hfc_45 b kb).trans (hfr2_7 b kb)
        have hfr2_8 : ∀ b, kd b = 2 → fldI (f_42 b) 8 = fldI (f b) 8 := fun b kb => (hfc_46 b kb).trans (hfr2_8 b kb)
        have hrr2_0 : ∀ b, kd b = 2 → fldR (f_42 b) 0 = fldR (f b) 0 := fun b kb => (hrc_47 b kb).trans (hrr2_0 b kb)
        have hrr2_3 : ∀ b, kd b = 2 → fldR (f_42 b) 3 = fldR (f b) 3 := fun b kb => (hrc_48 b kb).trans (hrr2_3 b kb)
        obtain ⟨a_53, v_54, v_55, a_56, v_57, v_58, v_59, v_60, v_61, v_62, hfo_52, ⟨ma_53, ka_53⟩, ⟨ma_56, ka_56⟩, bv_57, bv_58, bv_59, bv_60, bv_61⟩ := un_2 (hG _ mo0) ko0
        have bv_54 : ((-2147483648) ≤ v_54.toInt ∧ v_54.toInt ≤ 2147483647) := ⟨i32_lo _, i32_hi _⟩
        have bv_55 : ((-2147483648) ≤ v_55.toInt ∧ v_55.toInt ≤ 2147483647) := ⟨i32_lo _, i32_hi _⟩
        have bv_62 : ((-2147483648) ≤ v_62.toInt ∧ v_62.toInt ≤ 2147483647) := ⟨i32_lo _, i32_hi _⟩
        obtain rfl : a_2 = a_53 := by have hk9 := hrr2_0 o0 ko0; rw [hfo_52, hfo_1] at hk9; exact (Option.some.inj hk9).symm
        obtain rfl : a_5 = a_56 := by have hk9 := hrr2_3 o0 ko0; rw [hfo_52, hfo_1] at hk9; exact (Option.some.inj hk9).symm
        obtain rfl : v_35 = v_57 := by have hk9 := hfc_44 o0 ko0; rw [hfo_52, hfo_30] at hk9; exact (Option.some.inj hk9).symm
        obtain rfl : v_38 = v_60 := by have hk9 := hfc_45 o0 ko0; rw [hfo_52, hfo_30] at hk9; exact (Option.some.inj hk9).symm
        obtain rfl : v_39 = v_61 := by have hk9 := hfc_46 o0 ko0; rw [hfo_52, hfo_30] at hk9; exact (Option.some.inj hk9).symm
        have hqhpost_49 := hpost_49 v_36 v_58 (by rw [hfo_30]; rfl) (by rw [hfo_52]; rfl)
        obtain ⟨g_64, hfo_63, hbg_64⟩ := un_533 (hG _ ma_5) ka_5
        have hpkx_41 := hxp_50 a_5 g_64 v_58 (by rw [hfo_52]; rfl) hfo_63 (by rw [hfo_52]; rfl)
        refine tk_SiP (As := [.int x_41]) (rest := []) (n := 1) hx hb hml hown hU hN hZ (s_X2_startsItem l (dC, dI) cI cL cZ cR cG cH Z kd L f_42 hG x_41) wd_451 wd_452 wd_33 wd_453 (by decide +kernel) ⟨Nat.le_of_ble_eq_true rfl, Nat.le_of_ble_eq_true rfl⟩ hK hP hD hS rfl hl.1 rfl (Nat.le_of_ble_eq_true rfl) dX2_readItems_11 ⟨Nat.le_of_ble_eq_true rfl, Nat.le_of_ble_eq_true rfl⟩ (fun x_65 f_66 H locs hw hP hD hS => ?_)
        obtain ⟨rfl, bx_65, relx_65⟩ := hw
        refine lv_if_eq (tgt := 165) hx hb dX2_readItems_14 (by decide) (fun c_68 => ?_) (fun c_68 => ?_)
        · skip
          rw [← Int32.toInt_inj, ti_0] at c_68
          refine lv_iconst (v := 1) hx hb dX2_readItems_165 (by decide) ?_
          exact W.zret (v := 1) (ty := .boolean) hx hb hr rfl (fun t ht hW => ⟨⟨1, f_42, rfl, ⟨hG, (by decide), hfr0, hfr2_4, hfr2_7, hfr2_8, hrr2_0, hrr2_3, (by intro w5 z5 e5 d5; rw [hfo_1] at e5; rw [hfo_52] at d5; obtain rfl := Option.some.inj e5; obtain rfl := Option.some.inj d5; (try rw [ti_1]) <;> omega)⟩, by rw [ht]; exact hP, va_K.moved hW.alike hK, pl_in hD⟩, hS.F ht⟩) hS.2.2 dX2_readItems_166
        · skip
          rw [← Int32.toInt_inj, ti_0] at c_68
          have hclc_69 : (0 ≤ v_58.toInt ∧ v_58.toInt ≤ 599) := by constructor <;> omega
          refine lv_aload_n hx hb dX2_readItems_17 rfl (lv_at hl 1 rfl) ?_
          refine tk_getP (D := (dC, dI)) (ci := 2) (v := .int v_58) (C := RX2) (T := TX2) (N := 10) hx hb hU inlX2 hown hK hP mo0 hfo_52 rfl 5 (by decide) (hU _ wd_256) (fun _ h9 => h9) rfl dX2_readItems_18 ?_
          refine lv_istore (lv' := [(4, .int v_58), (3, .int y_26), (0, .ref o0), (1, .ref o1), (2, .int p2)]) hx hb dX2_readItems_21 hl (by decide) rfl (fun ls hl => ?_)
          refine lv_aload_n hx hb dX2_readItems_23 rfl (lv_at hl 2 rfl) ?_
          refine tk_getP (D := (dC, dI)) (ci := 2) (v := .ref a_5) (C := RX2) (T := TX2) (N := 10) hx hb hU inlX2 hown hK hP mo0 hfo_52 rfl 3 (by decide) (hU _ wd_152) (fun _ h9 => h9) rfl dX2_readItems_24 ?_
          refine lv_aload_n hx hb dX2_readItems_27 rfl (lv_at hl 2 rfl) ?_
          refine tk_getP (D := (dC, dI)) (ci := 2) (v := .int v_58) (C := RX2) (T := TX2) (N := 10) hx hb hU inlX2 hown hK hP mo0 hfo_52 rfl 5 (by decide) (hU _ wd_256) (fun _ h9 => h9) rfl dX2_readItems_28 ?_
          refine tk_ildP hx hb hK hP 0 ma_5 hfo_63 rfl (vp_in_iff.mpr (by constructor <;> omega)) dX2_readItems_31 ?_
          refine lv_topi (fun x_70 ex_70 => ?_)
          have bx_70 : ((-2147483648) ≤ x_70.toInt ∧ x_70.toInt ≤ 2147483647) := ⟨i32_lo _, i32_hi _⟩
          refine lv_istore (lv' := [(5, .int x_70), (4, .int v_58), (3, .int y_26), (0, .ref o0), (1, .ref o1), (2, .int p2)]) hx hb dX2_readItems_32 hl (by decide) rfl (fun ls hl => ?_)
          refine lv_aload_n hx hb dX2_readItems_34 rfl (lv_at hl 3 rfl) ?_
          refine tk_ViP (As := []) (rest := []) (n := 0) hx hb hml hown hU hN hZ (s_X2_readX_k2 l (dC, dI) cI cL cZ cR cG cH Z kd L f_42 hG o0 mo0 ko0) wd_454 wd_455 wd_456 wd_33 wd_457 (by decide +kernel) ⟨Nat.le_of_ble_eq_true rfl, Nat.le_of_ble_eq_true rfl⟩ hK hP hD hS mo0 hfo_52 2 rfl rfl rfl hl.1 rfl (Nat.le_of_ble_eq_true rfl) dX2_readItems_35 ⟨Nat.le_of_ble_eq_true rfl, Nat.le_of_ble_eq_true rfl⟩ (fun x_71 f_72 H locs hw hP hD hS => ?_)
          obtain ⟨hG, bx_71, hkc_73, hfc_74, hfc_75, hfc_76, hrc_77, hrc_78, hpost_79⟩ := hw
          have hfo_81 : f_72 a_5 = .inl (cI, 600, .inl g_64) := by rw [hkc_73 a_5 (by rw [ka_5]; decide)]; exact hfo_63
          have hfr0 : ∀ b, kd b ≠ 2 → kd b ≠ 205 → kd b ≠ 558 → f_72 b = f b := fun b q2 q205 q558 => (hkc_73 b q2).trans (hfr0 b q2 q205 q558)
          have hfr2_4 : ∀ b, kd b = 2 → fldI (f_72 b) 4 = fldI (f b) 4 := fun b kb => (hfc_74 b kb).trans (hfr2_4 b kb)
          have hfr2_7 : ∀ b, kd b = 2 → fldI (f_72 b) 7 = fldI (f b) 7 := fun b kb => (hfc_75 b kb).trans (hfr2_7 b kb)
          have hfr2_8 : ∀ b, kd b = 2 → fldI (f_72 b) 8 = fldI (f b) 8 := fun b kb => (hfc_76 b kb).trans (hfr2_8 b kb)
          have hrr2_0 : ∀ b, kd b = 2 → fldR (f_72 b) 0 = fldR (f b) 0 := fun b kb => (hrc_77 b kb).trans (hrr2_0 b kb)
          have hrr2_3 : ∀ b, kd b = 2 → fldR (f_72 b) 3 = fldR (f b) 3 := fun b kb => (hrc_78 b kb).trans (hrr2_3 b kb)
          obtain ⟨a_83, v_84, v_85, a_86, v_87, v_88, v_89, v_90, v_91, v_92, hfo_82, ⟨ma_83, ka_83⟩, ⟨ma_86, ka_86⟩, bv_87, bv_88, bv_89, bv_90, bv_91⟩ := un_2 (hG _ mo0) ko0
          have bv_84 : ((-2147483648) ≤ v_84.toInt ∧ v_84.toInt ≤ 2147483647) := ⟨i32_lo _, i32_hi _⟩
          have bv_85 : ((-2147483648) ≤ v_85.toInt ∧ v_85.toInt ≤ 2147483647) := ⟨i32_lo _, i32_hi _⟩
          have bv_92 : ((-2147483648) ≤ v_92.toInt ∧ v_92.toInt ≤ 2147483647) := ⟨i32_lo _, i32_hi _⟩
          obtain rfl : a_2 = a_83 := by have hk9 := hrr2_0 o0 ko0; rw [hfo_82, hfo_1] at hk9; exact (Option.some.inj hk9).symm
          obtain rfl : a_5 = a_86 := by have hk9 := hrr2_3 o0 ko0; rw [hfo_82, hfo_1] at hk9; exact (Option.some.inj hk9).symm
          obtain rfl : v_35 = v_87 := by have hk9 := hfc_74 o0 ko0; rw [hfo_82, hfo_52] at hk9; exact (Option.some.inj hk9).symm
          obtain rfl : v_38 = v_90 := by have hk9 := hfc_75 o0 ko0; rw [hfo_82, hfo_52] at hk9; exact (Option.some.inj hk9).symm
          obtain rfl : v_39 = v_91 := by have hk9 := hfc_76 o0 ko0; rw [hfo_82, hfo_52] at hk9; exact (Option.some.inj hk9).symm
          have hqhpost_79 := hpost_79 v_58 v_88 (by rw [hfo_52]; rfl) (by rw [hfo_82]; rfl)
          refine lv_if_ne (tgt := 43) hx hb dX2_readItems_38 (by decide) (fun c_93 => ?_) (fun c_93 => ?_)
          · skip
            rw [← Int32.toInt_inj, ti_0] at c_93
            refine lv_aload_n hx hb dX2_readItems_43 rfl (lv_at hl 3 rfl) ?_
            refine tk_getP (D := (dC, dI)) (ci := 2) (v := .int v_92) (C := RX2) (T := TX2) (N := 10) hx hb hU inlX2 hown hK hP mo0 hfo_82 rfl 9 (by decide) (hU _ wd_450) (fun _ h9 => h9) rfl dX2_readItems_44 ?_
            refine lv_istore (lv' := [(6, .int v_92), (5, .int x_70), (4, .int v_58), (3, .int y_26), (0, .ref o0), (1, .ref o1), (2, .int p2)]) hx hb dX2_readItems_47 hl (by decide) rfl (fun ls hl => ?_)
            refine lv_iload hx hb dX2_readItems_49 (lv_at hl 1 rfl) ?_
            refine tk_SiP (As := [.int x_70]) (rest := []) (n := 1) hx hb hml hown hU hN hZ (s_X2_isClass l (dC, dI) cI cL cZ cR cG cH Z kd L f_72 hG x_70) wd_366 wd_367 wd_33 wd_368 (by decide +kernel) ⟨Nat.le_of_ble_eq_true rfl, Nat.le_of_ble_eq_true rfl⟩ hK hP hD hS rfl hl.1 rfl (Nat.le_of_ble_eq_true rfl) dX2_readItems_51 ⟨Nat.le_of_ble_eq_true rfl, Nat.le_of_ble_eq_true rfl⟩ (fun x_94 f_95 H locs hw hP hD hS => ?_)
            obtain ⟨rfl, bx_94, relx_94⟩ := hw
            have hcut_98 : ∀ (y_97 : Int32), ((-2147483648) ≤ y_97.toInt ∧ y_97.toInt ≤ 2147483647) → ∀ (ls : Array Slot), lv_has ls 9 [(6, .int v_92), (5, .int x_70), (4, .int v_58), (3, .int y_26), (0, .ref o0), (1, .ref o1), (2, .int p2)] → W p l e (headSpec (wU yX2_readItems cX2_readItems 9 (some .boolean)) { frames := 2, cells := 0, slots := 0, locals := 66 }).room s m [.ref o0, .ref o1, .int p2].toArray below meth c H locs 0 0 (MQ below (va_Qi (fun (r : Int32) (f9 : Nat → va_E) => GI (okc cI cL cZ cR cG cH L kd) kd L f9 ∧ (0 ≤ r.toInt ∧ r.toInt ≤ 1) ∧ (∀ b, kd b ≠ 2 → kd b ≠ 205 → kd b ≠ 558 → f9 b = f b) ∧ (∀ b, kd b = 2 → fldI (f9 b) 4 = fldI (f b) 4) ∧ (∀ b, kd b = 2 → fldI (f9 b) 7 = fldI (f b) 7) ∧ (∀ b, kd b = 2 → fldI (f9 b) 8 = fldI (f b) 8) ∧ (∀ b, kd b = 2 → fldR (f9 b) 0 = fldR (f b) 0) ∧ (∀ b, kd b = 2 → fldR (f9 b) 3 = fldR (f b) 3) ∧ (∀ (w5 z5 : Int32), fldI (f o0) 5 = some w5 → fldI (f9 o0) 5 = some z5 → w5.toInt ≤ z5.toInt)) (qP (dC, dI) cI cL cZ cR cG cH L) (fun q => q ∈ L)) [.ref o0, .ref o1, .int p2].toArray s 0 0 (fun q => q ∈ L)) (F0 m 72 ls [.int y_97]) := by
              intro y_97 by_97 ls hl
              refine lv_istore (lv' := [(7, .int y_97), (6, .int v_92), (5, .int x_70), (4, .int v_58), (3, .int y_26), (0, .ref o0), (1, .ref o1), (2, .int p2)]) hx hb dX2_readItems_72 hl (by decide) rfl (fun ls hl => ?_)
              refine lv_aload_n hx hb dX2_readItems_74 rfl (lv_at hl 5 rfl) ?_
              refine lv_bipush (v := 58) hx hb dX2_readItems_75 (by decide) ?_
              refine tk_ViP (As := [.int 58]) (rest := []) (n := 1) hx hb hml hown hU hN hZ (s_X2_skipIf_k2 l (dC, dI) cI cL cZ cR cG cH Z kd L f_72 hG o0 mo0 ko0 58 (by decide)) wd_384 wd_385 wd_386 wd_33 wd_387 (by decide +kernel) ⟨Nat.le_of_ble_eq_true rfl, Nat.le_of_ble_eq_true rfl⟩ hK hP hD hS mo0 hfo_82 2 rfl rfl rfl hl.1 rfl (Nat.le_of_ble_eq_true rfl) dX2_readItems_77 ⟨Nat.le_of_ble_eq_true rfl, Nat.le_of_ble_eq_true rfl⟩ (fun x_99 f_100 H locs hw hP hD hS => ?_)
              obtain ⟨hG, bx_99, hkc_101, hfc_102, hfc_103, hfc_104, hrc_105, hrc_106, hpost_107⟩ := hw
              have hfo_109 : f_100 a_5 = .inl (cI, 600, .inl g_64) := by rw [hkc_101 a_5 (by rw [ka_5]; decide)]; exact hfo_81
              have hfr0 : ∀ b, kd b ≠ 2 → kd b ≠ 205 → kd b ≠ 558 → f_100 b = f b := fun b q2 q205 q558 => (hkc_101 b q2).trans (hfr0 b q2 q205 q558)
              have hfr2_4 : ∀ b, kd b = 2 → fldI (f_100 b) 4 = fldI (f b) 4 := fun b kb => (hfc_102 b kb).trans (hfr2_4 b kb)
              have hfr2_7 : ∀ b, kd b = 2 → fldI (f_100 b) 7 = fldI (f b) 7 := fun b kb => (hfc_103 b kb).trans (hfr2_7 b kb)
              have hfr2_8 : ∀ b, kd b = 2 → fldI (f_100 b) 8 = fldI (f b) 8 := fun b kb => (hfc_104 b kb).trans (hfr2_8 b kb)
              have hrr2_0 : ∀ b, kd b = 2 → fldR (f_100 b) 0 = fldR (f b) 0 := fun b kb => (hrc_105 b kb).trans (hrr2_0 b kb)
              have hrr2_3 : ∀ b, kd b = 2 → fldR (f_100 b) 3 = fldR (f b) 3 := fun b kb => (hrc_106 b kb).trans (hrr2_3 b kb)
              obtain ⟨a_111, v_112, v_113, a_114, v_115, v_116, v_117, v_118, v_119, v_120, hfo_110, ⟨ma_111, ka_111⟩, ⟨ma_114, ka_114⟩, bv_115, bv_116, bv_117, bv_118, bv_119⟩ := un_2 (hG _ mo0) ko0
              have bv_112 : ((-2147483648) ≤ v_112.toInt ∧ v_112.toInt ≤ 2147483647) := ⟨i32_lo _, i32_hi _⟩
              have bv_113 : ((-2147483648) ≤ v_113.toInt ∧ v_113.toInt ≤ 2147483647) := ⟨i32_lo _, i32_hi _⟩
              have bv_120 : ((-2147483648) ≤ v_120.toInt ∧ v_120.toInt ≤ 2147483647) := ⟨i32_lo _, i32_hi _⟩
              obtain rfl : a_2 = a_111 := by have hk9 := hrr2_0 o0 ko0; rw [hfo_110, hfo_1] at hk9; exact (Option.some.inj hk9).symm
              obtain rfl : a_5 = a_114 := by have hk9 := hrr2_3 o0 ko0; rw [hfo_110, hfo_1] at hk9; exact (Option.some.inj hk9).symm
              obtain rfl : v_35 = v_115 := by have hk9 := hfc_102 o0 ko0; rw [hfo_110, hfo_82] at hk9; exact (Option.some.inj hk9).symm
              obtain rfl : v_38 = v_118 := by have hk9 := hfc_103 o0 ko0; rw [hfo_110, hfo_82] at hk9; exact (Option.some.inj hk9).symm
              obtain rfl : v_39 = v_119 := by have hk9 := hfc_104 o0 ko0; rw [hfo_110, hfo_82] at hk9; exact (Option.some.inj hk9).symm
              have hqhpost_107 := hpost_107 v_88 v_116 (by rw [hfo_82]; rfl) (by rw [hfo_110]; rfl)
              try rw [ti_58] at hqhpost_107
              refine lv_istore (lv' := [(8, .int x_99), (7, .int y_97), (6, .int v_92), (5, .int x_70), (4, .int v_58), (3, .int y_26), (0, .ref o0), (1, .ref o1), (2, .int p2)]) hx hb dX2_readItems_80 hl (by decide) rfl (fun ls hl => ?_)
              refine lv_iload hx hb dX2_readItems_82 (lv_at hl 0 rfl) ?_
              refine lv_if_eq (tgt := 111) hx hb dX2_readItems_84 (by decide) (fun c_121 => ?_) (fun c_121 => ?_)
              · skip
                rw [← Int32.toInt_inj, ti_0] at c_121
                refine lv_iload_n hx hb dX2_readItems_111 rfl (lv_at hl 5 rfl) ?_
                refine lv_iconst (v := 5) hx hb dX2_readItems_112 (by decide) ?_
                refine lv_icmp_ne (tgt := 124) hx hb dX2_readItems_113 (by decide) (fun c_122 => ?_) (fun c_122 => ?_)
                · skip
                  rw [← Int32.toInt_inj, ti_5] at c_122
                  refine lv_iload hx hb dX2_readItems_124 (lv_at hl 0 rfl) ?_
                  refine lv_if_eq (tgt := 144) hx hb dX2_readItems_126 (by decide) (fun c_123 => ?_) (fun c_123 => ?_)
                  · skip
                    rw [← Int32.toInt_inj, ti_0] at c_123
                    refine lv_aload_n hx hb dX2_readItems_144 rfl (lv_at hl 7 rfl) ?_
                    refine lv_iload_n hx hb dX2_readItems_145 rfl (lv_at hl 8 rfl) ?_
                    refine lv_iload hx hb dX2_readItems_146 (lv_at hl 2 rfl) ?_
                    refine lv_iload hx hb dX2_readItems_148 (lv_at hl 1 rfl) ?_
                    refine lv_aload_n hx hb dX2_readItems_150 rfl (lv_at hl 6 rfl) ?_
                    refine lv_bipush (v := 42) hx hb dX2_readItems_151 (by decide) ?_
                    refine tk_ViP (As := [.int 42]) (rest := [.int y_97, .int v_92, .int p2, .ref o1]) (n := 1) hx hb hml hown hU hN hZ (s_X2_skipIf_k2 l (dC, dI) cI cL cZ cR cG cH Z kd L f_100 hG o0 mo0 ko0 42 (by decide)) wd_384 wd_385 wd_386 wd_33 wd_387 (by decide +kernel) ⟨Nat.le_of_ble_eq_true rfl, Nat.le_of_ble_eq_true rfl⟩ hK hP hD hS mo0 hfo_110 2 rfl rfl rfl hl.1 rfl (Nat.le_of_ble_eq_true rfl) dX2_readItems_153 ⟨Nat.le_of_ble_eq_true rfl, Nat.le_of_ble_eq_true rfl⟩ (fun x_124 f_125 H locs hw hP hD hS => ?_)
                    obtain ⟨hG, bx_124, hkc_126, hfc_127, hfc_128, hfc_129, hrc_130, hrc_131, hpost_132⟩ := hw
                    have hfo_134 : f_125 a_5 = .inl (cI, 600, .inl g_64) := by rw [hkc_126 a_5 (by rw [ka_5]; decide)]; exact hfo_109
                    have hfr0 : ∀ b, kd b ≠ 2 → kd b ≠ 205 → kd b ≠ 558 → f_125 b = f b := fun b q2 q205 q558 => (hkc_126 b q2).trans (hfr0 b q2 q205 q558)
                    have hfr2_4 : ∀ b, kd b = 2 → fldI (f_125 b) 4 = fldI (f b) 4 := fun b kb => (hfc_127 b kb).trans (hfr2_4 b kb)
                    have hfr2_7 : ∀ b, kd b = 2 → fldI (f_125 b) 7 = fldI (f b) 7 := fun b kb => (hfc_128 b kb).trans (hfr2_7 b kb)
                    have hfr2_8 : ∀ b, kd b = 2 → fldI (f_125 b) 8 = fldI (f b) 8 := fun b kb => (hfc_129 b kb).trans (hfr2_8 b kb)
                    have hrr2_0 : ∀ b, kd b = 2 → fldR (f_125 b) 0 = fldR (f b) 0 := fun b kb => (hrc_130 b kb).trans (hrr2_0 b kb)
                    have hrr2_3 : ∀ b, kd b = 2 → fldR (f_125 b) 3 = fldR (f b) 3 := fun b kb => (hrc_131 b kb).trans (hrr2_3 b kb)
                    obtain ⟨a_136, v_137, v_138, a_139, v_140, v_141, v_142, v_143, v_144, v_145, hfo_135, ⟨ma_136, ka_136⟩, ⟨ma_139, ka_139⟩, bv_140, bv_141, bv_142, bv_143, bv_144⟩ := un_2 (hG _ mo0) ko0
                    have bv_137 : ((-2147483648) ≤ v_137.toInt ∧ v_137.toInt ≤ 2147483647) := ⟨i32_lo _, i32_hi _⟩
                    have bv_138 : ((-2147483648) ≤ v_138.toInt ∧ v_138.toInt ≤ 2147483647) := ⟨i32_lo _, i32_hi _⟩
                    have bv_145 : ((-2147483648) ≤ v_145.toInt ∧ v_145.toInt ≤ 2147483647) := ⟨i32_lo _, i32_hi _⟩
                    obtain rfl : a_2 = a_136 := by have hk9 := hrr2_0 o0 ko0; rw [hfo_135, hfo_1] at hk9; exact (Option.some.inj hk9).symm
                    obtain rfl : a_5 = a_139 := by have hk9 := hrr2_3 o0 ko0; rw [hfo_135, hfo_1] at hk9; exact (Option.some.inj hk9).symm
                    obtain rfl : v_35 = v_140 := by have hk9 := hfc_127 o0 ko0; rw [hfo_135, hfo_110] at hk9; exact (Option.some.inj hk9).symm
                    obtain rfl : v_38 = v_143 := by have hk9 := hfc_128 o0 ko0; rw [hfo_135, hfo_110] at hk9; exact (Option.some.inj hk9).symm
                    obtain rfl : v_39 = v_144 := by have hk9 := hfc_129 o0 ko0; rw [hfo_135, hfo_110] at hk9; exact (Option.some.inj hk9).symm
                    have hqhpost_132 := hpost_132 v_116 v_141 (by rw [hfo_110]; rfl) (by rw [hfo_135]; rfl)
                    try rw [ti_42] at hqhpost_132
                    obtain ⟨a_147, a_148, a_149, v_150, v_151, v_152, hfo_146, ⟨ma_147, ka_147⟩, ⟨ma_148, ka_148⟩, ⟨ma_149, ka_149⟩⟩ := un_205 (hG _ mo1) ko1
                    have bv_150 : ((-2147483648) ≤ v_150.toInt ∧ v_150.toInt ≤ 2147483647) := ⟨i32_lo _, i32_hi _⟩
                    have bv_151 : ((-2147483648) ≤ v_151.toInt ∧ v_151.toInt ≤ 2147483647) := ⟨i32_lo _, i32_hi _⟩
                    have bv_152 : ((-2147483648) ≤ v_152.toInt ∧ v_152.toInt ≤ 2147483647) := ⟨i32_lo _, i32_hi _⟩
                    refine tk_VvP (As := [.int p2, .int v_92, .int y_97, .int x_124]) (rest := []) (n := 4) hx hb hml hown hU hN hZ (s_X5_addItem_k205 l (dC, dI) cI cL cZ cR cG cH Z kd L f_125 hG o1 mo1 ko1 p2 (by constructor <;> omega) v_92 y_97 x_124 (by constructor <;> omega)) wd_462 wd_463 wd_464 wd_102 wd_465 (by decide +kernel) ⟨Nat.le_of_ble_eq_true rfl, Nat.le_of_ble_eq_true rfl⟩ hK hP hD hS mo1 hfo_146 5 rfl rfl rfl hl.1 rfl (Nat.le_of_ble_eq_true rfl) dX2_readItems_156 ⟨Nat.le_of_ble_eq_true rfl, Nat.le_of_ble_eq_true rfl⟩ (fun f_154 H locs hw hP hD hS => ?_)
                    obtain ⟨hG, hkc_155⟩ := hw
                    have hfo_157 : f_154 a_5 = .inl (cI, 600, .inl g_64) := by rw [hkc_155 a_5 (by rw [ka_5]; decide) (by rw [ka_5]; decide)]; exact hfo_134
                    have hfo_158 : f_154 o0 = .inr (2, [.ref a_2, .int v_137, .int v_138, .ref a_5, .int v_35, .int v_141, .int v_142, .int v_38, .int v_39, .int v_145]) := by rw [hkc_155 o0 (by rw [ko0]; decide) (by rw [ko0]; decide)]; exact hfo_135
                    have hfr0 : ∀ b, kd b ≠ 2 → kd b ≠ 205 → kd b ≠ 558 → f_154 b = f b := fun b q2 q205 q558 => (hkc_155 b q205 q558).trans (hfr0 b q2 q205 q558)
                    have hfr2_4 : ∀ b, kd b = 2 → fldI (f_154 b) 4 = fldI (f b) 4 := fun b kb => (congrArg (fun x => fldI x 4) (hkc_155 b (by rw [kb]; decide) (by rw [kb]; decide))).trans (hfr2_4 b kb)
                    have hfr2_7 : ∀ b, kd b = 2 → fldI (f_154 b) 7 = fldI (f b) 7 := fun b kb => (congrArg (fun x => fldI x 7) (hkc_155 b (by rw [kb]; decide) (by rw [kb]; decide))).trans (hfr2_7 b kb)
                    have hfr2_8 : ∀ b, kd b = 2 → fldI (f_154 b) 8 = fldI (f b) 8 := fun b kb => (congrArg (fun x => fldI x 8) (hkc_155 b (by rw [kb]; decide) (by rw [kb]; decide))).trans (hfr2_8 b kb)
                    have hrr2_0 : ∀ b, kd b = 2 → fldR (f_154 b) 0 = fldR (f b) 0 := fun b kb => (congrArg (fun x => fldR x 0) (hkc_155 b (by rw [kb]; decide) (by rw [kb]; decide))).trans (hrr2_0 b kb)
                    have hrr2_3 : ∀ b, kd b = 2 → fldR (f_154 b) 3 = fldR (f b) 3 := fun b kb => (congrArg (fun x => fldR x 3) (hkc_155 b (by rw [kb]; decide) (by rw [kb]; decide))).trans (hrr2_3 b kb)
                    obtain ⟨x_159, ex_159⟩ : ∃ y : Int32, y_26 + 1 = y := ⟨_, rfl⟩
                    have hx_159 : x_159.toInt = y_26.toInt + 1 := by rw [← ex_159, ad_I (by rw [ti_1]; omega) (by rw [ti_1]; omega), ti_1]
                    have bx_159 : (1 ≤ x_159.toInt ∧ x_159.toInt ≤ 5) := by constructor <;> omega
                    refine lv_iinc (v := x_159) (lv' := [(3, .int x_159), (8, .int x_99), (7, .int y_97), (6, .int v_92), (5, .int x_70), (4, .int v_58), (0, .ref o0), (1, .ref o1), (2, .int p2)]) hx hb dX2_readItems_159 hl (k := 5) rfl ex_159 (by decide) rfl (fun ls hl => ?_)
                    refine lv_goto (tgt := 2) hx hb dX2_readItems_162 (by decide) ?_
                    exact ih_hloop_25 x_159 (by constructor <;> omega) f_154 hG _ _ hP hS hD hfr0 hfr2_4 hfr2_7 hfr2_8 hrr2_0 hrr2_3 (by omega) ls (lv_sub hl [0, 6, 7, 8] rfl)
                  · skip
                    rw [← Int32.toInt_inj, ti_0] at c_123
                    exfalso
                    omega
                · skip
                  rw [← Int32.toInt_inj, ti_5] at c_122
                  refine lv_aload_n hx hb dX2_readItems_116 rfl (lv_at hl 6 rfl) ?_
                  refine lv_iconst (v := 3) hx hb dX2_readItems_117 (by decide) ?_
                  refine lv_iload hx hb dX2_readItems_118 (lv_at hl 4 rfl) ?_
                  refine tk_ViP (As := [.int 3, .int v_58]) (rest := []) (n := 2) hx hb hml hown hU hN hZ (s_X2_fail_k2 l (dC, dI) cI cL cZ cR cG cH Z kd L f_100 hG o0 mo0 ko0 3 v_58) wd_349 wd_350 wd_351 wd_33 wd_352 (by decide +kernel) ⟨Nat.le_of_ble_eq_true rfl, Nat.le_of_ble_eq_true rfl⟩ hK hP hD hS mo0 hfo_110 2 rfl rfl rfl hl.1 rfl (Nat.le_of_ble_eq_true rfl) dX2_readItems_120 ⟨Nat.le_of_ble_eq_true rfl, Nat.le_of_ble_eq_true rfl⟩ (fun x_160 f_161 H locs hw hP hD hS => ?_)
                  obtain ⟨hG, bx_160, hkc_162, hfc_163, hfc_164, hfc_165, hfc_166, hrc_167, hrc_168⟩ := hw
                  have hfo_170 : f_161 a_5 = .inl (cI, 600, .inl g_64) := by rw [hkc_162 a_5 (by rw [ka_5]; decide)]; exact hfo_109
                  have hfr0 : ∀ b, kd b ≠ 2 → kd b ≠ 205 → kd b ≠ 558 → f_161 b = f b := fun b q2 q205 q558 => (hkc_162 b q2).trans (hfr0 b q2 q205 q558)
                  have hfr2_4 : ∀ b, kd b = 2 → fldI (f_161 b) 4 = fldI (f b) 4 := fun b kb => (hfc_163 b kb).trans (hfr2_4 b kb)
                  have hfr2_7 : ∀ b, kd b = 2 → fldI (f_161 b) 7 = fldI (f b) 7 := fun b kb => (hfc_165 b kb).trans (hfr2_7 b kb)
                  have hfr2_8 : ∀ b, kd b = 2 → fldI (f_161 b) 8 = fldI (f b) 8 := fun b kb => (hfc_166 b kb).trans (hfr2_8 b kb)
                  have hrr2_0 : ∀ b, kd b = 2 → fldR (f_161 b) 0 = fldR (f b) 0 := fun b kb => (hrc_167 b kb).trans (hrr2_0 b kb)
                  have hrr2_3 : ∀ b, kd b = 2 → fldR (f_161 b) 3 = fldR (f b) 3 := fun b kb => (hrc_168 b kb).trans (hrr2_3 b kb)
                  obtain ⟨a_172, v_173, v_174, a_175, v_176, v_177, v_178, v_179, v_180, v_181, hfo_171, ⟨ma_172, ka_172⟩, ⟨ma_175, ka_175⟩, bv_176, bv_177, bv_178, bv_179, bv_180⟩ := un_2 (hG _ mo0) ko0
                  have bv_173 : ((-2147483648) ≤ v_173.toInt ∧ v_173.toInt ≤ 2147483647) := ⟨i32_lo _, i32_hi _⟩
                  have bv_174 : ((-2147483648) ≤ v_174.toInt ∧ v_174.toInt ≤ 2147483647) := ⟨i32_lo _, i32_hi _⟩
                  have bv_181 : ((-2147483648) ≤ v_181.toInt ∧ v_181.toInt ≤ 2147483647) := ⟨i32_lo _, i32_hi _⟩
                  obtain rfl : a_2 = a_172 := by have hk9 := hrr2_0 o0 ko0; rw [hfo_171, hfo_1] at hk9; exact (Option.some.inj hk9).symm
                  obtain rfl : a_5 = a_175 := by have hk9 := hrr2_3 o0 ko0; rw [hfo_171, hfo_1] at hk9; exact (Option.some.inj hk9).symm
                  obtain rfl : v_35 = v_176 := by have hk9 := hfc_163 o0 ko0; rw [hfo_171, hfo_110] at hk9; exact (Option.some.inj hk9).symm
                  obtain rfl : v_116 = v_177 := by have hk9 := hfc_164 o0 ko0; rw [hfo_171, hfo_110] at hk9; exact (Option.some.inj hk9).symm
                  obtain rfl : v_38 = v_179 := by have hk9 := hfc_165 o0 ko0; rw [hfo_171, hfo_110] at hk9; exact (Option.some.inj hk9).symm
                  obtain rfl : v_39 = v_180 := by have hk9 := hfc_166 o0 ko0; rw [hfo_171, hfo_110] at hk9; exact (Option.some.inj hk9).symm
                  exact W.zret (v := x_160) (ty := .boolean) hx hb hr (zb_n (by constructor <;> omega)) (fun t ht hW => ⟨⟨x_160, f_161, rfl, ⟨hG, (by constructor <;> omega), hfr0, hfr2_4, hfr2_7, hfr2_8, hrr2_0, hrr2_3, (by intro w5 z5 e5 d5; rw [hfo_1] at e5; rw [hfo_171] at d5; obtain rfl := Option.some.inj e5; obtain rfl := Option.some.inj d5; omega)⟩, by rw [ht]; exact hP, va_K.moved hW.alike hK, pl_in hD⟩, hS.F ht⟩) hS.2.2 dX2_readItems_123
              · skip
                rw [← Int32.toInt_inj, ti_0] at c_121
                refine lv_iload hx hb dX2_readItems_87 (lv_at hl 3 rfl) ?_
                refine lv_bipush (v := 48) hx hb dX2_readItems_89 (by decide) ?_
                refine lv_icmp_ne (tgt := 111) hx hb dX2_readItems_91 (by decide) (fun c_182 => ?_) (fun c_182 => ?_)
                · skip
                  rw [← Int32.toInt_inj, ti_48] at c_182
                  refine lv_iload_n hx hb dX2_readItems_111 rfl (lv_at hl 5 rfl) ?_
                  refine lv_iconst (v := 5) hx hb dX2_readItems_112 (by decide) ?_
                  refine lv_icmp_ne (tgt := 124) hx hb dX2_readItems_113 (by decide) (fun c_183 => ?_) (fun c_183 => ?_)
                  · skip
                    rw [← Int32.toInt_inj, ti_5] at c_183
                    refine lv_iload hx hb dX2_readItems_124 (lv_at hl 0 rfl) ?_
                    refine lv_if_eq (tgt := 144) hx hb dX2_readItems_126 (by decide) (fun c_184 => ?_) (fun c_184 => ?_)
                    · skip
                      rw [← Int32.toInt_inj, ti_0] at c_184
                      exfalso
                      omega
                    · skip
                      rw [← Int32.toInt_inj, ti_0] at c_184
                      refine lv_aload_n hx hb dX2_readItems_129 rfl (lv_at hl 6 rfl) ?_
                      refine tk_ViP (As := []) (rest := []) (n := 0) hx hb hml hown hU hN hZ (s_X2_readX_k2 l (dC, dI) cI cL cZ cR cG cH Z kd L f_100 hG o0 mo0 ko0) wd_454 wd_455 wd_456 wd_33 wd_457 (by decide +kernel) ⟨Nat.le_of_ble_eq_true rfl, Nat.le_of_ble_eq_true rfl⟩ hK hP hD hS mo0 hfo_110 2 rfl rfl rfl hl.1 rfl (Nat.le_of_ble_eq_true rfl) dX2_readItems_130 ⟨Nat.le_of_ble_eq_true rfl, Nat.le_of_ble_eq_true rfl⟩ (fun x_185 f_186 H locs hw hP hD hS => ?_)
                      obtain ⟨hG, bx_185, hkc_187, hfc_188, hfc_189, hfc_190, hrc_191, hrc_192, hpost_193⟩ := hw
                      have hfo_195 : f_186 a_5 = .inl (cI, 600, .inl g_64) := by rw [hkc_187 a_5 (by rw [ka_5]; decide)]; exact hfo_109
                      have hfr0 : ∀ b, kd b ≠ 2 → kd b ≠ 205 → kd b ≠ 558 → f_186 b = f b := fun b q2 q205 q558 => (hkc_187 b q2).trans (hfr0 b q2 q205 q558)
                      have hfr2_4 : ∀ b, kd b = 2 → fldI (f_186 b) 4 = fldI (f b) 4 := fun b kb => (hfc_188 b kb).trans (hfr2_4 b kb)
                      have hfr2_7 : ∀ b, kd b = 2 → fldI (f_186 b) 7 = fldI (f b) 7 := fun b kb => (hfc_189 b kb).trans (hfr2_7 b kb)
                      have hfr2_8 : ∀ b, kd b = 2 → fldI (f_186 b) 8 = fldI (f b) 8 := fun b kb => (hfc_190 b kb).trans (hfr2_8 b kb)
                      have hrr2_0 : ∀ b, kd b = 2 → fldR (f_186 b) 0 = fldR (f b) 0 := fun b kb => (hrc_191 b kb).trans (hrr2_0 b kb)
                      have hrr2_3 : ∀ b, kd b = 2 → fldR (f_186 b) 3 = fldR (f b) 3 := fun b kb => (hrc_192 b kb).trans (hrr2_3 b kb)
                      obtain ⟨a_197, v_198, v_199, a_200, v_201, v_202, v_203, v_204, v_205, v_206, hfo_196, ⟨ma_197, ka_197⟩, ⟨ma_200, ka_200⟩, bv_201, bv_202, bv_203, bv_204, bv_205⟩ := un_2 (hG _ mo0) ko0
                      have bv_198 : ((-2147483648) ≤ v_198.toInt ∧ v_198.toInt ≤ 2147483647) := ⟨i32_lo _, i32_hi _⟩
                      have bv_199 : ((-2147483648) ≤ v_199.toInt ∧ v_199.toInt ≤ 2147483647) := ⟨i32_lo _, i32_hi _⟩
                      have bv_206 : ((-2147483648) ≤ v_206.toInt ∧ v_206.toInt ≤ 2147483647) := ⟨i32_lo _, i32_hi _⟩
                      obtain rfl : a_2 = a_197 := by have hk9 := hrr2_0 o0 ko0; rw [hfo_196, hfo_1] at hk9; exact (Option.some.inj hk9).symm
                      obtain rfl : a_5 = a_200 := by have hk9 := hrr2_3 o0 ko0; rw [hfo_196, hfo_1] at hk9; exact (Option.some.inj hk9).symm
                      obtain rfl : v_35 = v_201 := by have hk9 := hfc_188 o0 ko0; rw [hfo_196, hfo_110] at hk9; exact (Option.some.inj hk9).symm
                      obtain rfl : v_38 = v_204 := by have hk9 := hfc_189 o0 ko0; rw [hfo_196, hfo_110] at hk9; exact (Option.some.inj hk9).symm
                      obtain rfl : v_39 = v_205 := by have hk9 := hfc_190 o0 ko0; rw [hfo_196, hfo_110] at hk9; exact (Option.some.inj hk9).symm
                      have hqhpost_193 := hpost_193 v_116 v_202 (by rw [hfo_110]; rfl) (by rw [hfo_196]; rfl)
                      refine lv_if_ne (tgt := 138) hx hb dX2_readItems_133 (by decide) (fun c_207 => ?_) (fun c_207 => ?_)
                      · skip
                        rw [← Int32.toInt_inj, ti_0] at c_207
                        refine lv_aload_n hx hb dX2_readItems_138 rfl (lv_at hl 6 rfl) ?_
                        refine tk_getP (D := (dC, dI)) (ci := 2) (v := .int v_206) (C := RX2) (T := TX2) (N := 10) hx hb hU inlX2 hown hK hP mo0 hfo_196 rfl 9 (by decide) (hU _ wd_450) (fun _ h9 => h9) rfl dX2_readItems_139 ?_
                        refine lv_istore (lv' := [(7, .int v_206), (8, .int x_99), (6, .int v_92), (5, .int x_70), (4, .int v_58), (3, .int y_26), (0, .ref o0), (1, .ref o1), (2, .int p2)]) hx hb dX2_readItems_142 hl (by decide) rfl (fun ls hl => ?_)
                        refine lv_aload_n hx hb dX2_readItems_144 rfl (lv_at hl 7 rfl) ?_
                        refine lv_iload_n hx hb dX2_readItems_145 rfl (lv_at hl 8 rfl) ?_
                        refine lv_iload hx hb dX2_readItems_146 (lv_at hl 2 rfl) ?_
                        refine lv_iload hx hb dX2_readItems_148 (lv_at hl 0 rfl) ?_
                        refine lv_aload_n hx hb dX2_readItems_150 rfl (lv_at hl 6 rfl) ?_
                        refine lv_bipush (v := 42) hx hb dX2_readItems_151 (by decide) ?_
                        refine tk_ViP (As := [.int 42]) (rest := [.int v_206, .int v_92, .int p2, .ref o1]) (n := 1) hx hb hml hown hU hN hZ (s_X2_skipIf_k2 l (dC, dI) cI cL cZ cR cG cH Z kd L f_186 hG o0 mo0 ko0 42 (by decide)) wd_384 wd_385 wd_386 wd_33 wd_387 (by decide +kernel) ⟨Nat.le_of_ble_eq_true rfl, Nat.le_of_ble_eq_true rfl⟩ hK hP hD hS mo0 hfo_196 2 rfl rfl rfl hl.1 rfl (Nat.le_of_ble_eq_true rfl) dX2_readItems_153 ⟨Nat.le_of_ble_eq_true rfl, Nat.le_of_ble_eq_true rfl⟩ (fun x_208 f_209 H locs hw hP hD hS => ?_)
                        obtain ⟨hG, bx_208, hkc_210, hfc_211, hfc_212, hfc_213, hrc_214, hrc_215, hpost_216⟩ := hw
                        have hfo_218 : f_209 a_5 = .inl (cI, 600, .inl g_64) := by rw [hkc_210 a_5 (by rw [ka_5]; decide)]; exact hfo_195
                        have hfr0 : ∀ b, kd b ≠ 2 → kd b ≠ 205 → kd b ≠ 558 → f_209 b = f b := fun b q2 q205 q558 => (hkc_210 b q2).trans (hfr0 b q2 q205 q558)
                        have hfr2_4 : ∀ b, kd b = 2 → fldI (f_209 b) 4 = fldI (f b) 4 := fun b kb => (hfc_211 b kb).trans (hfr2_4 b kb)
                        have hfr2_7 : ∀ b, kd b = 2 → fldI (f_209 b) 7 = fldI (f b) 7 := fun b kb => (hfc_212 b kb).trans (hfr2_7 b kb)
                        have hfr2_8 : ∀ b, kd b = 2 → fldI (f_209 b) 8 = fldI (f b) 8 := fun b kb => (hfc_213 b kb).trans (hfr2_8 b kb)
                        have hrr2_0 : ∀ b, kd b = 2 → fldR (f_209 b) 0 = fldR (f b) 0 := fun b kb => (hrc_214 b kb).trans (hrr2_0 b kb)
                        have hrr2_3 : ∀ b, kd b = 2 → fldR (f_209 b) 3 = fldR (f b) 3 := fun b kb => (hrc_215 b kb).trans (hrr2_3 b kb)
                        obtain ⟨a_220, v_221, v_222, a_223, v_224, v_225, v_226, v_227, v_228, v_229, hfo_219, ⟨ma_220, ka_220⟩, ⟨ma_223, ka_223⟩, bv_224, bv_225, bv_226, bv_227, bv_228⟩ := un_2 (hG _ mo0) ko0
                        have bv_221 : ((-2147483648) ≤ v_221.toInt ∧ v_221.toInt ≤ 2147483647) := ⟨i32_lo _, i32_hi _⟩
                        have bv_222 : ((-2147483648) ≤ v_222.toInt ∧ v_222.toInt ≤ 2147483647) := ⟨i32_lo _, i32_hi _⟩
                        have bv_229 : ((-2147483648) ≤ v_229.toInt ∧ v_229.toInt ≤ 2147483647) := ⟨i32_lo _, i32_hi _⟩
                        obtain rfl : a_2 = a_220 := by have hk9 := hrr2_0 o0 ko0; rw [hfo_219, hfo_1] at hk9; exact (Option.some.inj hk9).symm
                        obtain rfl : a_5 = a_223 := by have hk9 := hrr2_3 o0 ko0; rw [hfo_219, hfo_1] at hk9; exact (Option.some.inj hk9).symm
                        obtain rfl : v_35 = v_224 := by have hk9 := hfc_211 o0 ko0; rw [hfo_219, hfo_196] at hk9; exact (Option.some.inj hk9).symm
                        obtain rfl : v_38 = v_227 := by have hk9 := hfc_212 o0 ko0; rw [hfo_219, hfo_196] at hk9; exact (Option.some.inj hk9).symm
                        obtain rfl : v_39 = v_228 := by have hk9 := hfc_213 o0 ko0; rw [hfo_219, hfo_196] at hk9; exact (Option.some.inj hk9).symm
                        have hqhpost_216 := hpost_216 v_202 v_225 (by rw [hfo_196]; rfl) (by rw [hfo_219]; rfl)
                        try rw [ti_42] at hqhpost_216
                        obtain ⟨a_231, a_232, a_233, v_234, v_235, v_236, hfo_230, ⟨ma_231, ka_231⟩, ⟨ma_232, ka_232⟩, ⟨ma_233, ka_233⟩⟩ := un_205 (hG _ mo1) ko1
                        have bv_234 : ((-2147483648) ≤ v_234.toInt ∧ v_234.toInt ≤ 2147483647) := ⟨i32_lo _, i32_hi _⟩
                        have bv_235 : ((-2147483648) ≤ v_235.toInt ∧ v_235.toInt ≤ 2147483647) := ⟨i32_lo _, i32_hi _⟩
                        have bv_236 : ((-2147483648) ≤ v_236.toInt ∧ v_236.toInt ≤ 2147483647) := ⟨i32_lo _, i32_hi _⟩
                        refine tk_VvP (As := [.int p2, .int v_92, .int v_206, .int x_208]) (rest := []) (n := 4) hx hb hml hown hU hN hZ (s_X5_addItem_k205 l (dC, dI) cI cL cZ cR cG cH Z kd L f_209 hG o1 mo1 ko1 p2 (by constructor <;> omega) v_92 v_206 x_208 (by constructor <;> omega)) wd_462 wd_463 wd_464 wd_102 wd_465 (by decide +kernel) ⟨Nat.le_of_ble_eq_true rfl, Nat.le_of_ble_eq_true rfl⟩ hK hP hD hS mo1 hfo_230 5 rfl rfl rfl hl.1 rfl (Nat.le_of_ble_eq_true rfl) dX2_readItems_156 ⟨Nat.le_of_ble_eq_true rfl, Nat.le_of_ble_eq_true rfl⟩ (fun f_238 H locs hw hP hD hS => ?_)
                        obtain ⟨hG, hkc_239⟩ := hw
                        have hfo_241 : f_238 a_5 = .inl (cI, 600, .inl g_64) := by rw [hkc_239 a_5 (by rw [ka_5]; decide) (by rw [ka_5]; decide)]; exact hfo_218
                        have hfo_242 : f_238 o0 = .inr (2, [.ref a_2, .int v_221, .int v_222, .ref a_5, .int v_35, .int v_225, .int v_226, .int v_38, .int v_39, .int v_229]) := by rw [hkc_239 o0 (by rw [ko0]; decide) (by rw [ko0]; decide)]; exact hfo_219
                        have hfr0 : ∀ b, kd b ≠ 2 → kd b ≠ 205 → kd b ≠ 558 → f_238 b = f b := fun b q2 q205 q558 => (hkc_239 b q205 q558).trans (hfr0 b q2 q205 q558)
                        have hfr2_4 : ∀ b, kd b = 2 → fldI (f_238 b) 4 = fldI (f b) 4 := fun b kb => (congrArg (fun x => fldI x 4) (hkc_239 b (by rw [kb]; decide) (by rw [kb]; decide))).trans (hfr2_4 b kb)
                        have hfr2_7 : ∀ b, kd b = 2 → fldI (f_238 b) 7 = fldI (f b) 7 := fun b kb => (congrArg (fun x => fldI x 7) (hkc_239 b (by rw [kb]; decide) (by rw [kb]; decide))).trans (hfr2_7 b kb)
                        have hfr2_8 : ∀ b, kd b = 2 → fldI (f_238 b) 8 = fldI (f b) 8 := fun b kb => (congrArg (fun x => fldI x 8) (hkc_239 b (by rw [kb]; decide) (by rw [kb]; decide))).trans (hfr2_8 b kb)
                        have hrr2_0 : ∀ b, kd b = 2 → fldR (f_238 b) 0 = fldR (f b) 0 := fun b kb => (congrArg (fun x => fldR x 0) (hkc_239 b (by rw [kb]; decide) (by rw [kb]; decide))).trans (hrr2_0 b kb)
                        have hrr2_3 : ∀ b, kd b = 2 → fldR (f_238 b) 3 = fldR (f b) 3 := fun b kb => (congrArg (fun x => fldR x 3) (hkc_239 b (by rw [kb]; decide) (by rw [kb]; decide))).trans (hrr2_3 b kb)
                        obtain ⟨x_243, ex_243⟩ : ∃ y : Int32, y_26 + 1 = y := ⟨_, rfl⟩
                        have hx_243 : x_243.toInt = y_26.toInt + 1 := by rw [← ex_243, ad_I (by rw [ti_1]; omega) (by rw [ti_1]; omega), ti_1]
                        have bx_243 : (1 ≤ x_243.toInt ∧ x_243.toInt ≤ 5) := by constructor <;> omega
                        refine lv_iinc (v := x_243) (lv' := [(3, .int x_243), (7, .int v_206), (8, .int x_99), (6, .int v_92), (5, .int x_70), (4, .int v_58), (0, .ref o0), (1, .ref o1), (2, .int p2)]) hx hb dX2_readItems_159 hl (k := 5) rfl ex_243 (by decide) rfl (fun ls hl => ?_)
                        refine lv_goto (tgt := 2) hx hb dX2_readItems_162 (by decide) ?_
                        exact ih_hloop_25 x_243 (by constructor <;> omega) f_238 hG _ _ hP hS hD hfr0 hfr2_4 hfr2_7 hfr2_8 hrr2_0 hrr2_3 (by omega) ls (lv_sub hl [0, 6, 7, 8] rfl)
                      · skip
                        rw [← Int32.toInt_inj, ti_0] at c_207
                        refine lv_iconst (v := 0) hx hb dX2_readItems_136 (by decide) ?_
                        exact W.zret (v := 0) (ty := .boolean) hx hb hr rfl (fun t ht hW => ⟨⟨0, f_186, rfl, ⟨hG, (by decide), hfr0, hfr2_4, hfr2_7, hfr2_8, hrr2_0, hrr2_3, (by intro w5 z5 e5 d5; rw [hfo_1] at e5; rw [hfo_196] at d5; obtain rfl := Option.some.inj e5; obtain rfl := Option.some.inj d5; (try rw [ti_0]) <;> omega)⟩, by rw [ht]; exact hP, va_K.moved hW.alike hK, pl_in hD⟩, hS.F ht⟩) hS.2.2 dX2_readItems_137
                  · skip
                    rw [← Int32.toInt_inj, ti_5] at c_183
                    refine lv_aload_n hx hb dX2_readItems_116 rfl (lv_at hl 6 rfl) ?_
                    refine lv_iconst (v := 3) hx hb dX2_readItems_117 (by decide) ?_
                    refine lv_iload hx hb dX2_readItems_118 (lv_at hl 4 rfl) ?_
                    refine tk_ViP (As := [.int 3, .int v_58]) (rest := []) (n := 2) hx hb hml hown hU hN hZ (s_X2_fail_k2 l (dC, dI) cI cL cZ cR cG cH Z kd L f_100 hG o0 mo0 ko0 3 v_58) wd_349 wd_350 wd_351 wd_33 wd_352 (by decide +kernel) ⟨Nat.le_of_ble_eq_true rfl, Nat.le_of_ble_eq_true rfl⟩ hK hP hD hS mo0 hfo_110 2 rfl rfl rfl hl.1 rfl (Nat.le_of_ble_eq_true rfl) dX2_readItems_120 ⟨Nat.le_of_ble_eq_true rfl, Nat.le_of_ble_eq_true rfl⟩ (fun x_244 f_245 H locs hw hP hD hS => ?_)
                    obtain ⟨hG, bx_244, hkc_246, hfc_247, hfc_248, hfc_249, hfc_250, hrc_251, hrc_252⟩ := hw
                    have hfo_254 : f_245 a_5 = .inl (cI, 600, .inl g_64) := by rw [hkc_246 a_5 (by rw [ka_5]; decide)]; exact hfo_109
                    have hfr0 : ∀ b, kd b ≠ 2 → kd b ≠ 205 → kd b ≠ 558 → f_245 b = f b := fun b q2 q205 q558 => (hkc_246 b q2).trans (hfr0 b q2 q205 q558)
                    have hfr2_4 : ∀ b, kd b = 2 → fldI (f_245 b) 4 = fldI (f b) 4 := fun b kb => (hfc_247 b kb).trans (hfr2_4 b kb)
                    have hfr2_7 : ∀ b, kd b = 2 → fldI (f_245 b) 7 = fldI (f b) 7 := fun b kb => (hfc_249 b kb).trans (hfr2_7 b kb)
                    have hfr2_8 : ∀ b, kd b = 2 → fldI (f_245 b) 8 = fldI (f b) 8 := fun b kb => (hfc_250 b kb).trans (hfr2_8 b kb)
                    have hrr2_0 : ∀ b, kd b = 2 → fldR (f_245 b) 0 = fldR (f b) 0 := fun b kb => (hrc_251 b kb).trans (hrr2_0 b kb)
                    have hrr2_3 : ∀ b, kd b = 2 → fldR (f_245 b) 3 = fldR (f b) 3 := fun b kb => (hrc_252 b kb).trans (hrr2_3 b kb)
                    obtain ⟨a_256, v_257, v_258, a_259, v_260, v_261, v_262, v_263, v_264, v_265, hfo_255, ⟨ma_256, ka_256⟩, ⟨ma_259, ka_259⟩, bv_260, bv_261, bv_262, bv_263, bv_264⟩ := un_2 (hG _ mo0) ko0
                    have bv_257 : ((-2147483648) ≤ v_257.toInt ∧ v_257.toInt ≤ 2147483647) := ⟨i32_lo _, i32_hi _⟩
                    have bv_258 : ((-2147483648) ≤ v_258.toInt ∧ v_258.toInt ≤ 2147483647) := ⟨i32_lo _, i32_hi _⟩
                    have bv_265 : ((-2147483648) ≤ v_265.toInt ∧ v_265.toInt ≤ 2147483647) := ⟨i32_lo _, i32_hi _⟩
                    obtain rfl : a_2 = a_256 := by have hk9 := hrr2_0 o0 ko0; rw [hfo_255, hfo_1] at hk9; exact (Option.some.inj hk9).symm
                    obtain rfl : a_5 = a_259 := by have hk9 := hrr2_3 o0 ko0; rw [hfo_255, hfo_1] at hk9; exact (Option.some.inj hk9).symm
                    obtain rfl : v_35 = v_260 := by have hk9 := hfc_247 o0 ko0; rw [hfo_255, hfo_110] at hk9; exact (Option.some.inj hk9).symm
                    obtain rfl : v_116 = v_261 := by have hk9 := hfc_248 o0 ko0; rw [hfo_255, hfo_110] at hk9; exact (Option.some.inj hk9).symm
                    obtain rfl : v_38 = v_263 := by have hk9 := hfc_249 o0 ko0; rw [hfo_255, hfo_110] at hk9; exact (Option.some.inj hk9).symm
                    obtain rfl : v_39 = v_264 := by have hk9 := hfc_250 o0 ko0; rw [hfo_255, hfo_110] at hk9; exact (Option.some.inj hk9).symm
                    exact W.zret (v := x_244) (ty := .boolean) hx hb hr (zb_n (by constructor <;> omega)) (fun t ht hW => ⟨⟨x_244, f_245, rfl, ⟨hG, (by constructor <;> omega), hfr0, hfr2_4, hfr2_7, hfr2_8, hrr2_0, hrr2_3, (by intro w5 z5 e5 d5; rw [hfo_1] at e5; rw [hfo_255] at d5; obtain rfl := Option.some.inj e5; obtain rfl := Option.some.inj d5; omega)⟩, by rw [ht]; exact hP, va_K.moved hW.alike hK, pl_in hD⟩, hS.F ht⟩) hS.2.2 dX2_readItems_123
                · skip
                  rw [← Int32.toInt_inj, ti_48] at c_182
                  refine lv_aload_n hx hb dX2_readItems_94 rfl (lv_at hl 6 rfl) ?_
                  refine lv_bipush (v := 48) hx hb dX2_readItems_95 (by decide) ?_
                  refine tk_ViP (As := [.int 48]) (rest := []) (n := 1) hx hb hml hown hU hN hZ (s_X2_isNext_k2 l (dC, dI) cI cL cZ cR cG cH Z kd L f_100 hG o0 mo0 ko0 48 (by decide)) wd_458 wd_459 wd_460 wd_33 wd_461 (by decide +kernel) ⟨Nat.le_of_ble_eq_true rfl, Nat.le_of_ble_eq_true rfl⟩ hK hP hD hS mo0 hfo_110 2 rfl rfl rfl hl.1 rfl (Nat.le_of_ble_eq_true rfl) dX2_readItems_97 ⟨Nat.le_of_ble_eq_true rfl, Nat.le_of_ble_eq_true rfl⟩ (fun x_266 f_267 H locs hw hP hD hS => ?_)
                  obtain ⟨hG, bx_266, hkc_268, hfc_269, hfc_270, hfc_271, hrc_272, hrc_273, hpost_274⟩ := hw
                  have hfo_276 : f_267 a_5 = .inl (cI, 600, .inl g_64) := by rw [hkc_268 a_5 (by rw [ka_5]; decide)]; exact hfo_109
                  have hfr0 : ∀ b, kd b ≠ 2 → kd b ≠ 205 → kd b ≠ 558 → f_267 b = f b := fun b q2 q205 q558 => (hkc_268 b q2).trans (hfr0 b q2 q205 q558)
                  have hfr2_4 : ∀ b, kd b = 2 → fldI (f_267 b) 4 = fldI (f b) 4 := fun b kb => (hfc_269 b kb).trans (hfr2_4 b kb)
                  have hfr2_7 : ∀ b, kd b = 2 → fldI (f_267 b) 7 = fldI (f b) 7 := fun b kb => (hfc_270 b kb).trans (hfr2_7 b kb)
                  have hfr2_8 : ∀ b, kd b = 2 → fldI (f_267 b) 8 = fldI (f b) 8 := fun b kb => (hfc_271 b kb).trans (hfr2_8 b kb)
                  have hrr2_0 : ∀ b, kd b = 2 → fldR (f_267 b) 0 = fldR (f b) 0 := fun b kb => (hrc_272 b kb).trans (hrr2_0 b kb)
                  have hrr2_3 : ∀ b, kd b = 2 → fldR (f_267 b) 3 = fldR (f b) 3 := fun b kb => (hrc_273 b kb).trans (hrr2_3 b kb)
                  obtain ⟨a_278, v_279, v_280, a_281, v_282, v_283, v_284, v_285, v_286, v_287, hfo_277, ⟨ma_278, ka_278⟩, ⟨ma_281, ka_281⟩, bv_282, bv_283, bv_284, bv_285, bv_286⟩ := un_2 (hG _ mo0) ko0
                  have bv_279 : ((-2147483648) ≤ v_279.toInt ∧ v_279.toInt ≤ 2147483647) := ⟨i32_lo _, i32_hi _⟩
                  have bv_280 : ((-2147483648) ≤ v_280.toInt ∧ v_280.toInt ≤ 2147483647) := ⟨i32_lo _, i32_hi _⟩
                  have bv_287 : ((-2147483648) ≤ v_287.toInt ∧ v_287.toInt ≤ 2147483647) := ⟨i32_lo _, i32_hi _⟩
                  obtain rfl : a_2 = a_278 := by have hk9 := hrr2_0 o0 ko0; rw [hfo_277, hfo_1] at hk9; exact (Option.some.inj hk9).symm
                  obtain rfl : a_5 = a_281 := by have hk9 := hrr2_3 o0 ko0; rw [hfo_277, hfo_1] at hk9; exact (Option.some.inj hk9).symm
                  obtain rfl : v_35 = v_282 := by have hk9 := hfc_269 o0 ko0; rw [hfo_277, hfo_110] at hk9; exact (Option.some.inj hk9).symm
                  obtain rfl : v_38 = v_285 := by have hk9 := hfc_270 o0 ko0; rw [hfo_277, hfo_110] at hk9; exact (Option.some.inj hk9).symm
                  obtain rfl : v_39 = v_286 := by have hk9 := hfc_271 o0 ko0; rw [hfo_277, hfo_110] at hk9; exact (Option.some.inj hk9).symm
                  have hqhpost_274 := hpost_274 v_116 v_283 (by rw [hfo_110]; rfl) (by rw [hfo_277]; rfl)
                  try rw [ti_48] at hqhpost_274
                  refine lv_if_eq (tgt := 111) hx hb dX2_readItems_100 (by decide) (fun c_288 => ?_) (fun c_288 => ?_)
                  · skip
                    rw [← Int32.toInt_inj, ti_0] at c_288
                    refine lv_iload_n hx hb dX2_readItems_111 rfl (lv_at hl 5 rfl) ?_
                    refine lv_iconst (v := 5) hx hb dX2_readItems_112 (by decide) ?_
                    refine lv_icmp_ne (tgt := 124) hx hb dX2_readItems_113 (by decide) (fun c_289 => ?_) (fun c_289 => ?_)
                    · skip
                      rw [← Int32.toInt_inj, ti_5] at c_289
                      refine lv_iload hx hb dX2_readItems_124 (lv_at hl 0 rfl) ?_
                      refine lv_if_eq (tgt := 144) hx hb dX2_readItems_126 (by decide) (fun c_290 => ?_) (fun c_290 => ?_)
                      · skip
                        rw [← Int32.toInt_inj, ti_0] at c_290
                        exfalso
                        omega
                      · skip
                        rw [← Int32.toInt_inj, ti_0] at c_290
                        refine lv_aload_n hx hb dX2_readItems_129 rfl (lv_at hl 6 rfl) ?_
                        refine tk_ViP (As := []) (rest := []) (n := 0) hx hb hml hown hU hN hZ (s_X2_readX_k2 l (dC, dI) cI cL cZ cR cG cH Z kd L f_267 hG o0 mo0 ko0) wd_454 wd_455 wd_456 wd_33 wd_457 (by decide +kernel) ⟨Nat.le_of_ble_eq_true rfl, Nat.le_of_ble_eq_true rfl⟩ hK hP hD hS mo0 hfo_277 2 rfl rfl rfl hl.1 rfl (Nat.le_of_ble_eq_true rfl) dX2_readItems_130 ⟨Nat.le_of_ble_eq_true rfl, Nat.le_of_ble_eq_true rfl⟩ (fun x_291 f_292 H locs hw hP hD hS => ?_)
                        obtain ⟨hG, bx_291, hkc_293, hfc_294, hfc_295, hfc_296, hrc_297, hrc_298, hpost_299⟩ := hw
                        have hfo_301 : f_292 a_5 = .inl (cI, 600, .inl g_64) := by rw [hkc_293 a_5 (by rw [ka_5]; decide)]; exact hfo_276
                        have hfr0 : ∀ b, kd b ≠ 2 → kd b ≠ 205 → kd b ≠ 558 → f_292 b = f b := fun b q2 q205 q558 => (hkc_293 b q2).trans (hfr0 b q2 q205 q558)
                        have hfr2_4 : ∀ b, kd b = 2 → fldI (f_292 b) 4 = fldI (f b) 4 := fun b kb => (hfc_294 b kb).trans (hfr2_4 b kb)
                        have hfr2_7 : ∀ b, kd b = 2 → fldI (f_292 b) 7 = fldI (f b) 7 := fun b kb => (hfc_295 b kb).trans (hfr2_7 b kb)
                        have hfr2_8 : ∀ b, kd b = 2 → fldI (f_292 b) 8 = fldI (f b) 8 := fun b kb => (hfc_296 b kb).trans (hfr2_8 b kb)
                        have hrr2_0 : ∀ b, kd b = 2 → fldR (f_292 b) 0 = fldR (f b) 0 := fun b kb => (hrc_297 b kb).trans (hrr2_0 b kb)
                        have hrr2_3 : ∀ b, kd b = 2 → fldR (f_292 b) 3 = fldR (f b) 3 := fun b kb => (hrc_298 b kb).trans (hrr2_3 b kb)
                        obtain ⟨a_303, v_304, v_305, a_306, v_307, v_308, v_309, v_310, v_311, v_312, hfo_302, ⟨ma_303, ka_303⟩, ⟨ma_306, ka_306⟩, bv_307, bv_308, bv_309, bv_310, bv_311⟩ := un_2 (hG _ mo0) ko0
                        have bv_304 : ((-2147483648) ≤ v_304.toInt ∧ v_304.toInt ≤ 2147483647) := ⟨i32_lo _, i32_hi _⟩
                        have bv_305 : ((-2147483648) ≤ v_305.toInt ∧ v_305.toInt ≤ 2147483647) := ⟨i32_lo _, i32_hi _⟩
                        have bv_312 : ((-2147483648) ≤ v_312.toInt ∧ v_312.toInt ≤ 2147483647) := ⟨i32_lo _, i32_hi _⟩
                        obtain rfl : a_2 = a_303 := by have hk9 := hrr2_0 o0 ko0; rw [hfo_302, hfo_1] at hk9; exact (Option.some.inj hk9).symm
                        obtain rfl : a_5 = a_306 := by have hk9 := hrr2_3 o0 ko0; rw [hfo_302, hfo_1] at hk9; exact (Option.some.inj hk9).symm
                        obtain rfl : v_35 = v_307 := by have hk9 := hfc_294 o0 ko0; rw [hfo_302, hfo_277] at hk9; exact (Option.some.inj hk9).symm
                        obtain rfl : v_38 = v_310 := by have hk9 := hfc_295 o0 ko0; rw [hfo_302, hfo_277] at hk9; exact (Option.some.inj hk9).symm
                        obtain rfl : v_39 = v_311 := by have hk9 := hfc_296 o0 ko0; rw [hfo_302, hfo_277] at hk9; exact (Option.some.inj hk9).symm
                        have hqhpost_299 := hpost_299 v_283 v_308 (by rw [hfo_277]; rfl) (by rw [hfo_302]; rfl)
                        refine lv_if_ne (tgt := 138) hx hb dX2_readItems_133 (by decide) (fun c_313 => ?_) (fun c_313 => ?_)
                        · skip
                          rw [← Int32.toInt_inj, ti_0] at c_313
                          refine lv_aload_n hx hb dX2_readItems_138 rfl (lv_at hl 6 rfl) ?_
                          refine tk_getP (D := (dC, dI)) (ci := 2) (v := .int v_312) (C := RX2) (T := TX2) (N := 10) hx hb hU inlX2 hown hK hP mo0 hfo_302 rfl 9 (by decide) (hU _ wd_450) (fun _ h9 => h9) rfl dX2_readItems_139 ?_
                          refine lv_istore (lv' := [(7, .int v_312), (8, .int x_99), (6, .int v_92), (5, .int x_70), (4, .int v_58), (3, .int y_26), (0, .ref o0), (1, .ref o1), (2, .int p2)]) hx hb dX2_readItems_142 hl (by decide) rfl (fun ls hl => ?_)
                          refine lv_aload_n hx hb dX2_readItems_144 rfl (lv_at hl 7 rfl) ?_
                          refine lv_iload_n hx hb dX2_readItems_145 rfl (lv_at hl 8 rfl) ?_
                          refine lv_iload hx hb dX2_readItems_146 (lv_at hl 2 rfl) ?_
                          refine lv_iload hx hb dX2_readItems_148 (lv_at hl 0 rfl) ?_
                          refine lv_aload_n hx hb dX2_readItems_150 rfl (lv_at hl 6 rfl) ?_
                          refine lv_bipush (v := 42) hx hb dX2_readItems_151 (by decide) ?_
                          refine tk_ViP (As := [.int 42]) (rest := [.int v_312, .int v_92, .int p2, .ref o1]) (n := 1) hx hb hml hown hU hN hZ (s_X2_skipIf_k2 l (dC, dI) cI cL cZ cR cG cH Z kd L f_292 hG o0 mo0 ko0 42 (by decide)) wd_384 wd_385 wd_386 wd_33 wd_387 (by decide +kernel) ⟨Nat.le_of_ble_eq_true rfl, Nat.le_of_ble_eq_true rfl⟩ hK hP hD hS mo0 hfo_302 2 rfl rfl rfl hl.1 rfl (Nat.le_of_ble_eq_true rfl) dX2_readItems_153 ⟨Nat.le_of_ble_eq_true rfl, Nat.le_of_ble_eq_true rfl⟩ (fun x_314 f_315 H locs hw hP hD hS => ?_)
                          obtain ⟨hG, bx_314, hkc_316, hfc_317, hfc_318, hfc_319, hrc_320, hrc_321, hpost_322⟩ := hw
                          have hfo_324 : f_315 a_5 = .inl (cI, 600, .inl g_64) := by rw [hkc_316 a_5 (by rw [ka_5]; decide)]; exact hfo_301
                          have hfr0 : ∀ b, kd b ≠ 2 → kd b ≠ 205 → kd b ≠ 558 → f_315 b = f b := fun b q2 q205 q558 => (hkc_316 b q2).trans (hfr0 b q2 q205 q558)
                          have hfr2_4 : ∀ b, kd b = 2 → fldI (f_315 b) 4 = fldI (f b) 4 := fun b kb => (hfc_317 b kb).trans (hfr2_4 b kb)
                          have hfr2_7 : ∀ b, kd b = 2 → fldI (f_315 b) 7 = fldI (f b) 7 := fun b kb => (hfc_318 b kb).trans (hfr2_7 b kb)
                          have hfr2_8 : ∀ b, kd b = 2 → fldI (f_315 b) 8 = fldI (f b) 8 := fun b kb => (hfc_319 b kb).trans (hfr2_8 b kb)
                          have hrr2_0 : ∀ b, kd b = 2 → fldR (f_315 b) 0 = fldR (f b) 0 := fun b kb => (hrc_320 b kb).trans (hrr2_0 b kb)
                          have hrr2_3 : ∀ b, kd b = 2 → fldR (f_315 b) 3 = fldR (f b) 3 := fun b kb => (hrc_321 b kb).trans (hrr2_3 b kb)
                          obtain ⟨a_326, v_327, v_328, a_329, v_330, v_331, v_332, v_333, v_334, v_335, hfo_325, ⟨ma_326, ka_326⟩, ⟨ma_329, ka_329⟩, bv_330, bv_331, bv_332, bv_333, bv_334⟩ := un_2 (hG _ mo0) ko0
                          have bv_327 : ((-2147483648) ≤ v_327.toInt ∧ v_327.toInt ≤ 2147483647) := ⟨i32_lo _, i32_hi _⟩
                          have bv_328 : ((-2147483648) ≤ v_328.toInt ∧ v_328.toInt ≤ 2147483647) := ⟨i32_lo _, i32_hi _⟩
                          have bv_335 : ((-2147483648) ≤ v_335.toInt ∧ v_335.toInt ≤ 2147483647) := ⟨i32_lo _, i32_hi _⟩
                          obtain rfl : a_2 = a_326 := by have hk9 := hrr2_0 o0 ko0; rw [hfo_325, hfo_1] at hk9; exact (Option.some.inj hk9).symm
                          obtain rfl : a_5 = a_329 := by have hk9 := hrr2_3 o0 ko0; rw [hfo_325, hfo_1] at hk9; exact (Option.some.inj hk9).symm
                          obtain rfl : v_35 = v_330 := by have hk9 := hfc_317 o0 ko0; rw [hfo_325, hfo_302] at hk9; exact (Option.some.inj hk9).symm
                          obtain rfl : v_38 = v_333 := by have hk9 := hfc_318 o0 ko0; rw [hfo_325, hfo_302] at hk9; exact (Option.some.inj hk9).symm
                          obtain rfl : v_39 = v_334 := by have hk9 := hfc_319 o0 ko0; rw [hfo_325, hfo_302] at hk9; exact (Option.some.inj hk9).symm
                          have hqhpost_322 := hpost_322 v_308 v_331 (by rw [hfo_302]; rfl) (by rw [hfo_325]; rfl)
                          try rw [ti_42] at hqhpost_322
                          obtain ⟨a_337, a_338, a_339, v_340, v_341, v_342, hfo_336, ⟨ma_337, ka_337⟩, ⟨ma_338, ka_338⟩, ⟨ma_339, ka_339⟩⟩ := un_205 (hG _ mo1) ko1
                          have bv_340 : ((-2147483648) ≤ v_340.toInt ∧ v_340.toInt ≤ 2147483647) := ⟨i32_lo _, i32_hi _⟩
                          have bv_341 : ((-2147483648) ≤ v_341.toInt ∧ v_341.toInt ≤ 2147483647) := ⟨i32_lo _, i32_hi _⟩
                          have bv_342 : ((-2147483648) ≤ v_342.toInt ∧ v_342.toInt ≤ 2147483647) := ⟨i32_lo _, i32_hi _⟩
                          refine tk_VvP (As := [.int p2, .int v_92, .int v_312, .int x_314]) (rest := []) (n := 4) hx hb hml hown hU hN hZ (s_X5_addItem_k205 l (dC, dI) cI cL cZ cR cG cH Z kd L f_315 hG o1 mo1 ko1 p2 (by constructor <;> omega) v_92 v_312 x_314 (by constructor <;> omega)) wd_462 wd_463 wd_464 wd_102 wd_465 (by decide +kernel) ⟨Nat.le_of_ble_eq_true rfl, Nat.le_of_ble_eq_true rfl⟩ hK hP hD hS mo1 hfo_336 5 rfl rfl rfl hl.1 rfl (Nat.le_of_ble_eq_true rfl) dX2_readItems_156 ⟨Nat.le_of_ble_eq_true rfl, Nat.le_of_ble_eq_true rfl⟩ (fun f_344 H locs hw hP hD hS => ?_)
                          obtain ⟨hG, hkc_345⟩ := hw
                          have hfo_347 : f_344 a_5 = .inl (cI, 600, .inl g_64) := by rw [hkc_345 a_5 (by rw [ka_5]; decide) (by rw [ka_5]; decide)]; exact hfo_324
                          have hfo_348 : f_344 o0 = .inr (2, [.ref a_2, .int v_327, .int v_328, .ref a_5, .int v_35, .int v_331, .int v_332, .int v_38, .int v_39, .int v_335]) := by rw [hkc_345 o0 (by rw [ko0]; decide) (by rw [ko0]; decide)]; exact hfo_325
                          have hfr0 : ∀ b, kd b ≠ 2 → kd b ≠ 205 → kd b ≠ 558 → f_344 b = f b := fun b q2 q205 q558 => (hkc_345 b q205 q558).trans (hfr0 b q2 q205 q558)
                          have hfr2_4 : ∀ b, kd b = 2 → fldI (f_344 b) 4 = fldI (f b) 4 := fun b kb => (congrArg (fun x => fldI x 4) (hkc_345 b (by rw [kb]; decide) (by rw [kb]; decide))).trans (hfr2_4 b kb)
                          have hfr2_7 : ∀ b, kd b = 2 → fldI (f_344 b) 7 = fldI (f b) 7 := fun b kb => (congrArg (fun x => fldI x 7) (hkc_345 b (by rw [kb]; decide) (by rw [kb]; decide))).trans (hfr2_7 b kb)
                          have hfr2_8 : ∀ b, kd b = 2 → fldI (f_344 b) 8 = fldI (f b) 8 := fun b kb => (congrArg (fun x => fldI x 8) (hkc_345 b (by rw [kb]; decide) (by rw [kb]; decide))).trans (hfr2_8 b kb)
                          have hrr2_0 : ∀ b, kd b = 2 → fldR (f_344 b) 0 = fldR (f b) 0 := fun b kb => (congrArg (fun x => fldR x 0) (hkc_345 b (by rw [kb]; decide) (by rw [kb]; decide))).trans (hrr2_0 b kb)
                          have hrr2_3 : ∀ b, kd b = 2 → fldR (f_344 b) 3 = fldR (f b) 3 := fun b kb => (congrArg (fun x => fldR x 3) (hkc_345 b (by rw [kb]; decide) (by rw [kb]; decide))).trans (hrr2_3 b kb)
                          obtain ⟨x_349, ex_349⟩ : ∃ y : Int32, y_26 + 1 = y := ⟨_, rfl⟩
                          have hx_349 : x_349.toInt = y_26.toInt + 1 := by rw [← ex_349, ad_I (by rw [ti_1]; omega) (by rw [ti_1]; omega), ti_1]
                          have bx_349 : (1 ≤ x_349.toInt ∧ x_349.toInt ≤ 5) := by constructor <;> omega
                          refine lv_iinc (v := x_349) (lv' := [(3, .int x_349), (7, .int v_312), (8, .int x_99), (6, .int v_92), (5, .int x_70), (4, .int v_58), (0, .ref o0), (1, .ref o1), (2, .int p2)]) hx hb dX2_readItems_159 hl (k := 5) rfl ex_349 (by decide) rfl (fun ls hl => ?_)
                          refine lv_goto (tgt := 2) hx hb dX2_readItems_162 (by decide) ?_
                          exact ih_hloop_25 x_349 (by constructor <;> omega) f_344 hG _ _ hP hS hD hfr0 hfr2_4 hfr2_7 hfr2_8 hrr2_0 hrr2_3 (by omega) ls (lv_sub hl [0, 6, 7, 8] rfl)
                        · skip
                          rw [← Int32.toInt_inj, ti_0] at c_313
                          refine lv_iconst (v := 0) hx hb dX2_readItems_136 (by decide) ?_
                          exact W.zret (v := 0) (ty := .boolean) hx hb hr rfl (fun t ht hW => ⟨⟨0, f_292, rfl, ⟨hG, (by decide), hfr0, hfr2_4, hfr2_7, hfr2_8, hrr2_0, hrr2_3, (by intro w5 z5 e5 d5; rw [hfo_1] at e5; rw [hfo_302] at d5; obtain rfl := Option.some.inj e5; obtain rfl := Option.some.inj d5; (try rw [ti_0]) <;> omega)⟩, by rw [ht]; exact hP, va_K.moved hW.alike hK, pl_in hD⟩, hS.F ht⟩) hS.2.2 dX2_readItems_137
                    · skip
                      rw [← Int32.toInt_inj, ti_5] at c_289
                      refine lv_aload_n hx hb dX2_readItems_116 rfl (lv_at hl 6 rfl) ?_
                      refine lv_iconst (v := 3) hx hb dX2_readItems_117 (by decide) ?_
                      refine lv_iload hx hb dX2_readItems_118 (lv_at hl 4 rfl) ?_
                      refine tk_ViP (As := [.int 3, .int v_58]) (rest := []) (n := 2) hx hb hml hown hU hN hZ (s_X2_fail_k2 l (dC, dI) cI cL cZ cR cG cH Z kd L f_267 hG o0 mo0 ko0 3 v_58) wd_349 wd_350 wd_351 wd_33 wd_352 (by decide +kernel) ⟨Nat.le_of_ble_eq_true rfl, Nat.le_of_ble_eq_true rfl⟩ hK hP hD hS mo0 hfo_277 2 rfl rfl rfl hl.1 rfl (Nat.le_of_ble_eq_true rfl) dX2_readItems_120 ⟨Nat.le_of_ble_eq_true rfl, Nat.le_of_ble_eq_true rfl⟩ (fun x_350 f_351 H locs hw hP hD hS => ?_)
                      obtain ⟨hG, bx_350, hkc_352, hfc_353, hfc_354, hfc_355, hfc_356, hrc_357, hrc_358⟩ := hw
                      have hfo_360 : f_351 a_5 = .inl (cI, 600, .inl g_64) := by rw [hkc_352 a_5 (by rw [ka_5]; decide)]; exact hfo_276
                      have hfr0 : ∀ b, kd b ≠ 2 → kd b ≠ 205 → kd b ≠ 558 → f_351 b = f b := fun b q2 q205 q558 => (hkc_352 b q2).trans (hfr0 b q2 q205 q558)
                      have hfr2_4 : ∀ b, kd b = 2 → fldI (f_351 b) 4 = fldI (f b) 4 := fun b kb => (hfc_353 b kb).trans (hfr2_4 b kb)
                      have hfr2_7 : ∀ b, kd b = 2 → fldI (f_351 b) 7 = fldI (f b) 7 := fun b kb => (hfc_355 b kb).trans (hfr2_7 b kb)
                      have hfr2_8 : ∀ b, kd b = 2 → fldI (f_351 b) 8 = fldI (f b) 8 := fun b kb => (hfc_356 b kb).trans (hfr2_8 b kb)
                      have hrr2_0 : ∀ b, kd b = 2 → fldR (f_351 b) 0 = fldR (f b) 0 := fun b kb => (hrc_357 b kb).trans (hrr2_0 b kb)
                      have hrr2_3 : ∀ b, kd b = 2 → fldR (f_351 b) 3 = fldR (f b) 3 := fun b kb => (hrc_358 b kb).trans (hrr2_3 b kb)
                      obtain ⟨a_362, v_363, v_364, a_365, v_366, v_367, v_368, v_369, v_370, v_371, hfo_361, ⟨ma_362, ka_362⟩, ⟨ma_365, ka_365⟩, bv_366, bv_367, bv_368, bv_369, bv_370⟩ := un_2 (hG _ mo0) ko0
                      have bv_363 : ((-2147483648) ≤ v_363.toInt ∧ v_363.toInt ≤ 2147483647) := ⟨i32_lo _, i32_hi _⟩
                      have bv_364 : ((-2147483648) ≤ v_364.toInt ∧ v_364.toInt ≤ 2147483647) := ⟨i32_lo _, i32_hi _⟩
                      have bv_371 : ((-2147483648) ≤ v_371.toInt ∧ v_371.toInt ≤ 2147483647) := ⟨i32_lo _, i32_hi _⟩
                      obtain rfl : a_2 = a_362 := by have hk9 := hrr2_0 o0 ko0; rw [hfo_361, hfo_1] at hk9; exact (Option.some.inj hk9).symm
                      obtain rfl : a_5 = a_365 := by have hk9 := hrr2_3 o0 ko0; rw [hfo_361, hfo_1] at hk9; exact (Option.some.inj hk9).symm
                      obtain rfl : v_35 = v_366 := by have hk9 := hfc_353 o0 ko0; rw [hfo_361, hfo_277] at hk9; exact (Option.some.inj hk9).symm
                      obtain rfl : v_283 = v_367 := by have hk9 := hfc_354 o0 ko0; rw [hfo_361, hfo_277] at hk9; exact (Option.some.inj hk9).symm
                      obtain rfl : v_38 = v_369 := by have hk9 := hfc_355 o0 ko0; rw [hfo_361, hfo_277] at hk9; exact (Option.some.inj hk9).symm
                      obtain rfl : v_39 = v_370 := by have hk9 := hfc_356 o0 ko0; rw [hfo_361, hfo_277] at hk9; exact (Option.some.inj hk9).symm
                      exact W.zret (v := x_350) (ty := .boolean) hx hb hr (zb_n (by constructor <;> omega)) (fun t ht hW => ⟨⟨x_350, f_351, rfl, ⟨hG, (by constructor <;> omega), hfr0, hfr2_4, hfr2_7, hfr2_8, hrr2_0, hrr2_3, (by intro w5 z5 e5 d5; rw [hfo_1] at e5; rw [hfo_361] at d5; obtain rfl := Option.some.inj e5; obtain rfl := Option.some.inj d5; omega)⟩, by rw [ht]; exact hP, va_K.moved hW.alike hK, pl_in hD⟩, hS.F ht⟩) hS.2.2 dX2_readItems_123
                  · skip
                    rw [← Int32.toInt_inj, ti_0] at c_288
                    refine lv_aload_n hx hb dX2_readItems_103 rfl (lv_at hl 6 rfl) ?_
                    refine lv_iconst (v := 2) hx hb dX2_readItems_104 (by decide) ?_
                    refine lv_iload hx hb dX2_readItems_105 (lv_at hl 4 rfl) ?_
                    refine tk_ViP (As := [.int 2, .int v_58]) (rest := []) (n := 2) hx hb hml hown hU hN hZ (s_X2_fail_k2 l (dC, dI) cI cL cZ cR cG cH Z kd L f_267 hG o0 mo0 ko0 2 v_58) wd_349 wd_350 wd_351 wd_33 wd_352 (by decide +kernel) ⟨Nat.le_of_ble_eq_true rfl, Nat.le_of_ble_eq_true rfl⟩ hK hP hD hS mo0 hfo_277 2 rfl rfl rfl hl.1 rfl (Nat.le_of_ble_eq_true rfl) dX2_readItems_107 ⟨Nat.le_of_ble_eq_true rfl, Nat.le_of_ble_eq_true rfl⟩ (fun x_372 f_373 H locs hw hP hD hS => ?_)
                    obtain ⟨hG, bx_372, hkc_374, hfc_375, hfc_376, hfc_377, hfc_378, hrc_379, hrc_380⟩ := hw
                    have hfo_382 : f_373 a_5 = .inl (cI, 600, .inl g_64) := by rw [hkc_374 a_5 (by rw [ka_5]; decide)]; exact hfo_276
                    have hfr0 : ∀ b, kd b ≠ 2 → kd b ≠ 205 → kd b ≠ 558 → f_373 b = f b := fun b q2 q205 q558 => (hkc_374 b q2).trans (hfr0 b q2 q205 q558)
                    have hfr2_4 : ∀ b, kd b = 2 → fldI (f_373 b) 4 = fldI (f b) 4 := fun b kb => (hfc_375 b kb).trans (hfr2_4 b kb)
                    have hfr2_7 : ∀ b, kd b = 2 → fldI (f_373 b) 7 = fldI (f b) 7 := fun b kb => (hfc_377 b kb).trans (hfr2_7 b kb)
                    have hfr2_8 : ∀ b, kd b = 2 → fldI (f_373 b) 8 = fldI (f b) 8 := fun b kb => (hfc_378 b kb).trans (hfr2_8 b kb)
                    have hrr2_0 : ∀ b, kd b = 2 → fldR (f_373 b) 0 = fldR (f b) 0 := fun b kb => (hrc_379 b kb).trans (hrr2_0 b kb)
                    have hrr2_3 : ∀ b, kd b = 2 → fldR (f_373 b) 3 = fldR (f b) 3 := fun b kb => (hrc_380 b kb).trans (hrr2_3 b kb)
                    obtain ⟨a_384, v_385, v_386, a_387, v_388, v_389, v_390, v_391, v_392, v_393, hfo_383, ⟨ma_384, ka_384⟩, ⟨ma_387, ka_387⟩, bv_388, bv_389, bv_390, bv_391, bv_392⟩ := un_2 (hG _ mo0) ko0
                    have bv_385 : ((-2147483648) ≤ v_385.toInt ∧ v_385.toInt ≤ 2147483647) := ⟨i32_lo _, i32_hi _⟩
                    have bv_386 : ((-2147483648) ≤ v_386.toInt ∧ v_386.toInt ≤ 2147483647) := ⟨i32_lo _, i32_hi _⟩
                    have bv_393 : ((-2147483648) ≤ v_393.toInt ∧ v_393.toInt ≤ 2147483647) := ⟨i32_lo _, i32_hi _⟩
                    obtain rfl : a_2 = a_384 := by have hk9 := hrr2_0 o0 ko0; rw [hfo_383, hfo_1] at hk9; exact (Option.some.inj hk9).symm
                    obtain rfl : a_5 = a_387 := by have hk9 := hrr2_3 o0 ko0; rw [hfo_383, hfo_1] at hk9; exact (Option.some.inj hk9).symm
                    obtain rfl : v_35 = v_388 := by have hk9 := hfc_375 o0 ko0; rw [hfo_383, hfo_277] at hk9; exact (Option.some.inj hk9).symm
                    obtain rfl : v_283 = v_389 := by have hk9 := hfc_376 o0 ko0; rw [hfo_383, hfo_277] at hk9; exact (Option.some.inj hk9).symm
                    obtain rfl : v_38 = v_391 := by have hk9 := hfc_377 o0 ko0; rw [hfo_383, hfo_277] at hk9; exact (Option.some.inj hk9).symm
                    obtain rfl : v_39 = v_392 := by have hk9 := hfc_378 o0 ko0; rw [hfo_383, hfo_277] at hk9; exact (Option.some.inj hk9).symm
                    exact W.zret (v := x_372) (ty := .boolean) hx hb hr (zb_n (by constructor <;> omega)) (fun t ht hW => ⟨⟨x_372, f_373, rfl, ⟨hG, (by constructor <;> omega), hfr0, hfr2_4, hfr2_7, hfr2_8, hrr2_0, hrr2_3, (by intro w5 z5 e5 d5; rw [hfo_1] at e5; rw [hfo_383] at d5; obtain rfl := Option.some.inj e5; obtain rfl := Option.some.inj d5; omega)⟩, by rw [ht]; exact hP, va_K.moved hW.alike hK, pl_in hD⟩, hS.F ht⟩) hS.2.2 dX2_readItems_110
            refine lv_if_eq (tgt := 68) hx hb dX2_readItems_54 (by decide) (fun c_394 => ?_) (fun c_394 => ?_)
            · skip
              rw [← Int32.toInt_inj, ti_0] at c_394
              refine lv_aload_n hx hb dX2_readItems_68 rfl (lv_at hl 4 rfl) ?_
              refine tk_getP (D := (dC, dI)) (ci := 2) (v := .int v_92) (C := RX2) (T := TX2) (N := 10) hx hb hU inlX2 hown hK hP mo0 hfo_82 rfl 9 (by decide) (hU _ wd_450) (fun _ h9 => h9) rfl dX2_readItems_69 ?_
              exact hcut_98 v_92 (by constructor <;> omega) ls (lv_sub hl [0, 1, 2, 3, 4, 5, 6] rfl)
            · skip
              rw [← Int32.toInt_inj, ti_0] at c_394
              refine lv_aload_n hx hb dX2_readItems_57 rfl (lv_at hl 4 rfl) ?_
              refine tk_getP (D := (dC, dI)) (ci := 2) (v := .int v_92) (C := RX2) (T := TX2) (N := 10) hx hb hU inlX2 hown hK hP mo0 hfo_82 rfl 9 (by decide) (hU _ wd_450) (fun _ h9 => h9) rfl dX2_readItems_58 ?_
              refine lv_sipush (v := 512) hx hb dX2_readItems_61 (by decide) ?_
              refine lv_ior hx hb dX2_readItems_64 ?_
              refine lv_topi (fun x_395 ex_395 => ?_)
              have bx_395 : ((-2147483648) ≤ x_395.toInt ∧ x_395.toInt ≤ 2147483647) := ⟨i32_lo _, i32_hi _⟩
              refine lv_goto (tgt := 72) hx hb dX2_readItems_65 (by decide) ?_
              exact hcut_98 x_395 (by constructor <;> omega) ls (lv_sub hl [0, 1, 2, 3, 4, 5, 6] rfl)
          · skip
            rw [← Int32.toInt_inj, ti_0] at c_93
            refine lv_iconst (v := 0) hx hb dX2_readItems_41 (by decide) ?_
            exact W.zret (v := 0) (ty := .boolean) hx hb hr rfl (fun t ht hW => ⟨⟨0, f_72, rfl, ⟨hG, (by decide), hfr0, hfr2_4, hfr2_7, hfr2_8, hrr2_0, hrr2_3, (by intro w5 z5 e5 d5; rw [hfo_1] at e5; rw [hfo_82] at d5; obtain rfl := Option.some.inj e5; obtain rfl := Option.some.inj d5; (try rw [ti_0]) <;> omega)⟩, by rw [ht]; exact hP, va_K.moved hW.alike hK, pl_in hD⟩, hS.F ht⟩) hS.2.2 dX2_readItems_42
  exact hloop_25 6 0 (by decide) f hG _ _ hP hS hD hfr0 hfr2_4 hfr2_7 hfr2_8 hrr2_0 hrr2_3 (by (try rw [ti_0]) <;> omega) ls hl
