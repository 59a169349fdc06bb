set_option maxHeartbeats 8000000 in
set_option maxRecDepth 100000 in
theorem s_X12_letters_k12 (l : Launch) (D : va_G) (cI cL cZ cR cG cH : ClassId) (Z : zT) (kd : Nat → Nat) (L : List Nat) (f : Nat → va_E) (hG : GI (okc cI cL cZ cR cG cH L kd) kd L f) (o0 : Nat) (mo0 : o0 ∈ L) (ko0 : kd o0 = 12) (hxtr0 : ∀ d9, fldR (f o0) 1 = some d9 → frel kd 576 8 f d9) : mPI l D cI cL cZ cR cG cH Z yX12_letters cX12_letters 3 (some .boolean) 3 61 [.ref o0] L f (fun (r : Int32) (f9 : Nat → va_E) => GI (okc cI cL cZ cR cG cH L kd) kd L f9 ∧ (0 ≤ r.toInt ∧ r.toInt ≤ 1) ∧ (∀ b, kd b ≠ 12 → kd b ≠ 576 → f9 b = f b) ∧ (∀ b, kd b = 12 → ∀ j, fldR (f9 b) j = fldR (f b) j) ∧ (∀ b, kd b = 12 → ∀ j, j ≠ 6 → j ≠ 7 → j ≠ 8 → fldI (f9 b) j = fldI (f b) j) ∧ (∀ (w6 z6 : Int32), fldI (f o0) 6 = some w6 → fldI (f9 o0) 6 = some z6 → w6.toInt ≤ z6.toInt) ∧ (∀ d9, fldR (f9 o0) 1 = some d9 → frel kd 576 8 f9 d9)) := by
  obtain ⟨dC, dI⟩ := D
  refine Met.ofW (cc := cX12_letters) (maxL := 3) (ret := (some .boolean)) (by decide) rfl ?_
  intro p e s m args below meth c s₁ B hml hv
  obtain ⟨rfl, hP, hK, hD0, hN, hZ⟩ := hv
  have hx := B.exec
  have hb := B.bytes
  have hr := B.returns
  have hU : ∀ w ∈ wsU, w.before _ s = true := fun w h => atoms_spec (ws := wU yX12_letters cX12_letters 3 (some .boolean)) B.pre w (List.mem_cons_of_mem _ h)
  have hown : s.vm.findClass RX12 = some m.cls := findClass_of_methodNamed B.named
  have hlocks := B.notSynchronized
  have hD := pl_in hD0
  have hS : va_S (fun q => q ∈ L) s.heap s.heap [] := va_S.rf
  have hl := lv_entry ([.ref o0]) (n := 3) (Nat.le_of_ble_eq_true rfl)
  rw [lg_entry_eq]
  generalize (lg_sl ([.ref o0]) ++ List.replicate (3 - (lg_sl ([.ref o0])).length) Slot.unset).toArray = ls at hl ⊢
  have hl : lv_has ls 3 [(0, .ref o0)] := hl
  have hfr0 : ∀ b, kd b ≠ 12 → kd b ≠ 576 → f b = f b := fun _ _ _ => rfl
  have hrA12 : ∀ b, kd b = 12 → ∀ j, fldR (f b) j = fldR (f b) j := fun _ _ _ => rfl
  have hfA12 : ∀ b, kd b = 12 → ∀ j, j ≠ 6 → j ≠ 7 → j ≠ 8 → fldI (f b) j = fldI (f b) j := fun _ _ _ _ _ _ => rfl
  obtain ⟨a_1, a_2, a_3, v_4, a_5, v_6, v_7, v_8, v_9, v_10, v_11, v_12, v_13, v_14, v_15, a_16, a_17, a_18, a_19, a_20, a_21, a_22, a_23, v_24, v_25, v_26, v_27, v_28, a_29, v_30, a_31, a_32, v_33, v_34, a_35, v_36, a_37, a_38, v_39, v_40, a_41, a_42, a_43, v_44, a_45, a_46, a_47, a_48, a_49, a_50, a_51, a_52, a_53, v_54, v_55, a_56, hfo_57, fa_58⟩ := un12 (hG _ mo0) ko0
  obtain ⟨ma_2, ka_2⟩ := fa12_1 fa_58
  have bv_7 : (0 ≤ v_7.toInt ∧ v_7.toInt ≤ 600) := fa12_6 fa_58
  have hT0 := hxtr0 a_2 (by rw [hfo_57]; rfl)
  refine lv_iconst (v := 0) hx hb dX12_letters_0 (by decide) ?_
  refine lv_istore_n (lv' := [(1, .int 0), (0, .ref o0)]) hx hb dX12_letters_1 rfl hl (by decide) rfl (fun ls hl => ?_)
  have hloop_64 : ∀ (n : Nat), ∀ (y_65 : Int32), (0 ≤ y_65.toInt ∧ y_65.toInt ≤ 1) → ∀ (f_67 : Nat → va_E), GI (okc cI cL cZ cR cG cH L kd) kd L f_67 → ∀ (H : Heap) (locs : List Loc), va_P (dC, dI) vwCl (va_pl L f_67) H → va_S (fun q => q ∈ L) s.heap H locs → va_D (fun q => q ∈ L) (va_pl L f_67) → (∀ b, kd b ≠ 12 → kd b ≠ 576 → f_67 b = f b) → (∀ b, kd b = 12 → ∀ j, fldR (f_67 b) j = fldR (f b) j) → (∀ b, kd b = 12 → ∀ j, j ≠ 6 → j ≠ 7 → j ≠ 8 → fldI (f_67 b) j = fldI (f b) j) → frel kd 576 8 f_67 a_2 → ∀ (whloop_64_0_6 : Int32), fldI (f_67 o0) 6 = some whloop_64_0_6 → (v_7.toInt ≤ whloop_64_0_6.toInt) → (0 ≤ whloop_64_0_6.toInt ∧ whloop_64_0_6.toInt ≤ 600) → 600 - whloop_64_0_6.toInt < (n : Int) → ∀ (ls : Array Slot), lv_has ls 3 [(1, .int y_65), (0, .ref o0)] → W p l e (headSpec (wU yX12_letters cX12_letters 3 (some .boolean)) { frames := 3, cells := 0, slots := 0, locals := 61 }).room s m [.ref o0].toArray below meth c H locs 0 0 (MQ below (va_Qi (fun (r : Int32) (f9 : Nat → va_E) => GI (okc cI cL cZ cR cG cH L kd) kd L f9 ∧ (0 ≤ r.toInt ∧ r.toInt ≤ 1) ∧ (∀ b, kd b ≠ 12 → kd b ≠ 576 → f9 b = f b) ∧ (∀ b, kd b = 12 → ∀ j, fldR (f9 b) j = fldR (f b) j) ∧ (∀ b, kd b = 12 → ∀ j, j ≠ 6 → j ≠ 7 → j ≠ 8 → fldI (f9 b) j = fldI (f b) j) ∧ (∀ (w6 z6 : Int32), fldI (f o0) 6 = some w6 → fldI (f9 o0) 6 = some z6 → w6.toInt ≤ z6.toInt) ∧ (∀ d9, fldR (f9 o0) 1 = some d9 → frel kd 576 8 f9 d9)) (qP (dC, dI) cI cL cZ cR cG cH L) (fun q => q ∈ L)) [.ref o0].toArray s 0 0 (fun q => q ∈ L)) (F0 m 2 ls []) := by
    intro n
    induction n with
    | zero => intro y_65 by_65 f_67 hG H locs hP hS hD hfr0 hrA12 hfA12 hT0 whloop_64_0_6 hghloop_64_0_6 hrelhloop_64_0 hrelhloop_64_1 hmuhloop_64 ls hl; exfalso; omega
    | succ n ih_hloop_64 =>
      intro y_65 by_65 f_67 hG H locs hP hS hD hfr0 hrA12 hfA12 hT0 whloop_64_0_6 hghloop_64_0_6 hrelhloop_64_0 hrelhloop_64_1 hmuhloop_64 ls hl
      obtain ⟨v_68, v_69, v_70, hfo_71, fa_72⟩ := op12_6_7_8 hfo_57 (hG _ mo0) ko0 (hrA12 o0 ko0) (hfA12 o0 ko0)
      have bv_68 : (0 ≤ v_68.toInt ∧ v_68.toInt ≤ 600) := fa12_6 fa_72
      have bv_69 : ((-2147483648) ≤ v_69.toInt ∧ v_69.toInt ≤ 2147483647) := ⟨i32_lo _, i32_hi _⟩
      have bv_70 : ((-2147483648) ≤ v_70.toInt ∧ v_70.toInt ≤ 2147483647) := ⟨i32_lo _, i32_hi _⟩
      obtain rfl : v_68 = whloop_64_0_6 := by rw [hfo_71] at hghloop_64_0_6; exact Option.some.inj hghloop_64_0_6
      refine lv_iload_n hx hb dX12_letters_2 rfl (lv_at hl 0 rfl) ?_
      refine lv_if_eq (tgt := 15) hx hb dX12_letters_3 (by decide) (fun c_73 => ?_) (fun c_73 => ?_)
      · skip
        rw [← Int32.toInt_inj, ti_0] at c_73
        refine lv_aload_n hx hb dX12_letters_15 rfl (lv_at hl 1 rfl) ?_
        refine tk_ViP (As := []) (rest := []) (n := 0) hx hb hml hown hU hN hZ (s_X12_sign_k12 l (dC, dI) cI cL cZ cR cG cH Z kd L f_67 hG o0 mo0 ko0) wd_573 wd_574 wd_575 wd_5 wd_576 (by decide +kernel) ⟨Nat.le_of_ble_eq_true rfl, Nat.le_of_ble_eq_true rfl⟩ hK hP hD hS mo0 hfo_71 12 rfl rfl rfl hl.1 rfl (Nat.le_of_ble_eq_true rfl) dX12_letters_16 ⟨Nat.le_of_ble_eq_true rfl, Nat.le_of_ble_eq_true rfl⟩ (fun x_74 f_75 H locs hw hP hD hS => ?_)
        obtain ⟨hG, bx_74, hkc_76, hra_77, hfa_78, hpost_79⟩ := hw
        have hfr0 : ∀ b, kd b ≠ 12 → kd b ≠ 576 → f_75 b = f b := fun b q12 q576 => (hkc_76 b q12).trans (hfr0 b q12 q576)
        have hrA12 : ∀ b, kd b = 12 → ∀ j, fldR (f_75 b) j = fldR (f b) j := fun b kb j => (hra_77 b kb j).trans (hrA12 b kb j)
        have hfA12 : ∀ b, kd b = 12 → ∀ j, j ≠ 6 → j ≠ 7 → j ≠ 8 → fldI (f_75 b) j = fldI (f b) j := fun b kb j n6 n7 n8 => (hfa_78 b kb j n6).trans (hfA12 b kb j n6 n7 n8)
        have hT0 : frel kd 576 8 f_75 a_2 := hT0.keep (fun b q => hkc_76 b (by rw [q]; decide))
        obtain ⟨v_81, hfo_82, fa_83⟩ := op12_6 hfo_71 (hG _ mo0) ko0 (hra_77 o0 ko0) (hfa_78 o0 ko0)
        have bv_81 : (0 ≤ v_81.toInt ∧ v_81.toInt ≤ 600) := fa12_6 fa_83
        have hqhpost_79 := hpost_79 v_68 v_81 (by rw [hfo_71]; rfl) (by rw [hfo_82]; rfl)
        refine lv_istore_n (lv' := [(2, .int x_74), (1, .int y_65), (0, .ref o0)]) hx hb dX12_letters_19 rfl hl (by decide) rfl (fun ls hl => ?_)
        refine lv_iload_n hx hb dX12_letters_20 rfl (lv_at hl 0 rfl) ?_
        refine tk_SiP (As := [.int x_74]) (rest := []) (n := 1) hx hb hml hown hU hN hZ (s_X12_isSmall l (dC, dI) cI cL cZ cR cG cH Z kd L f_75 hG x_74) wd_589 wd_590 wd_5 wd_591 (by decide +kernel) ⟨Nat.le_of_ble_eq_true rfl, Nat.le_of_ble_eq_true rfl⟩ hK hP hD hS rfl hl.1 rfl (Nat.le_of_ble_eq_true rfl) dX12_letters_21 ⟨Nat.le_of_ble_eq_true rfl, Nat.le_of_ble_eq_true rfl⟩ (fun x_84 f_85 H locs hw hP hD hS => ?_)
        obtain ⟨rfl, bx_84, relx_84⟩ := hw
        refine lv_if_ne (tgt := 37) hx hb dX12_letters_24 (by decide) (fun c_87 => ?_) (fun c_87 => ?_)
        · skip
          rw [← Int32.toInt_inj, ti_0] at c_87
          refine lv_aload_n hx hb dX12_letters_37 rfl (lv_at hl 2 rfl) ?_
          refine tk_getP (D := (dC, dI)) (ci := 12) (v := .ref a_2) (C := RX12) (T := TX12) (N := 56) hx hb hU inlX12 hown hK hP mo0 hfo_82 rfl 1 (by decide) (hU _ wd_170) (fun _ h9 => h9) rfl dX12_letters_38 ?_
          refine lv_iload_n hx hb dX12_letters_41 rfl (lv_at hl 0 rfl) ?_
          refine tk_SiP (As := [.ref a_2, .int x_74]) (rest := []) (n := 2) hx hb hml hown hU hN hZ (s_X12_letterIn_a576 l (dC, dI) cI cL cZ cR cG cH Z kd L f_75 hG a_2 ma_2 ka_2 x_74) wd_606 wd_607 wd_5 wd_608 (by decide +kernel) ⟨Nat.le_of_ble_eq_true rfl, Nat.le_of_ble_eq_true rfl⟩ hK hP hD hS rfl hl.1 rfl (Nat.le_of_ble_eq_true rfl) dX12_letters_42 ⟨Nat.le_of_ble_eq_true rfl, Nat.le_of_ble_eq_true rfl⟩ (fun x_88 f_89 H locs hw hP hD hS => ?_)
          obtain ⟨rfl, bx_88, hxp_90⟩ := hw
          obtain ⟨g_93, hfo_92, hbg_93⟩ := un_576 (hG _ ma_2) ka_2
          have hlix_88 := hxp_90 g_93 hfo_92
          refine lv_if_le (tgt := 58) hx hb dX12_letters_45 (by decide) (fun c_94 => ?_) (fun c_94 => ?_)
          · skip
            rw [Int32.le_iff_toInt_le, ti_0] at c_94
            refine lv_aload_n hx hb dX12_letters_58 rfl (lv_at hl 2 rfl) ?_
            refine tk_getP (D := (dC, dI)) (ci := 12) (v := .ref a_2) (C := RX12) (T := TX12) (N := 56) hx hb hU inlX12 hown hK hP mo0 hfo_82 rfl 1 (by decide) (hU _ wd_170) (fun _ h9 => h9) rfl dX12_letters_59 ?_
            refine lv_iconst (v := 0) hx hb dX12_letters_62 (by decide) ?_
            refine tk_ildP hx hb hK hP 0 ma_2 hfo_92 rfl (vp_in_nI (n := 0) (by decide) (by decide)) dX12_letters_63 ?_
            refine lv_topi (fun x_95 ex_95 => ?_)
            have bx_95 : (0 ≤ x_95.toInt ∧ x_95.toInt ≤ 8) := by rw [ex_95]; exact hbg_93.1 _ (by decide) (by decide) (by decide)
            refine lv_bipush (v := 8) hx hb dX12_letters_64 (by decide) ?_
            refine lv_icmp_ne (tgt := 79) hx hb dX12_letters_66 (by decide) (fun c_96 => ?_) (fun c_96 => ?_)
            · skip
              rw [← Int32.toInt_inj, ti_8] at c_96
              have hF0 := hT0.get hfo_92
              obtain ⟨x_97, ex_97⟩ : ∃ y : Int32, y = g_93 (Int32.toNatClampNeg 16) := ⟨_, rfl⟩
              have bx_97 : (0 ≤ x_97.toInt ∧ x_97.toInt ≤ 20) := by rw [ex_97]; exact hbg_93.2.1 _ (by decide) (by decide) (by decide)
              have hgx_97 : x_97.toInt = (g_93 16).toInt := by rw [ex_97]; rfl
              have hglx_95 : x_95.toInt = (g_93 0).toInt := by rw [ex_95]; rfl
              have hnrc_98 : (0 ≤ x_97.toInt ∧ x_97.toInt ≤ 19) := by have hq1 := hF0.1; have hq2 := hF0.2.1; constructor <;> omega
              refine lv_aload_n hx hb dX12_letters_79 rfl (lv_at hl 2 rfl) ?_
              refine tk_getP (D := (dC, dI)) (ci := 12) (v := .ref a_2) (C := RX12) (T := TX12) (N := 56) hx hb hU inlX12 hown hK hP mo0 hfo_82 rfl 1 (by decide) (hU _ wd_170) (fun _ h9 => h9) rfl dX12_letters_80 ?_
              refine lv_iconst (v := 1) hx hb dX12_letters_83 (by decide) ?_
              refine lv_aload_n hx hb dX12_letters_84 rfl (lv_at hl 2 rfl) ?_
              refine tk_getP (D := (dC, dI)) (ci := 12) (v := .ref a_2) (C := RX12) (T := TX12) (N := 56) hx hb hU inlX12 hown hK hP mo0 hfo_82 rfl 1 (by decide) (hU _ wd_170) (fun _ h9 => h9) rfl dX12_letters_85 ?_
              refine lv_iconst (v := 0) hx hb dX12_letters_88 (by decide) ?_
              refine tk_ildP hx hb hK hP 0 ma_2 hfo_92 rfl (vp_in_nI (n := 0) (by decide) (by decide)) dX12_letters_89 ?_
              refine tk_topi (y := x_95) ex_95.symm ?_
              refine lv_iadd hx hb dX12_letters_90 ?_
              refine lv_topi (fun x_99 ex_99 => ?_)
              have hx_99 : x_99.toInt = 1 + x_95.toInt := by rw [ex_99, ad_I (by rw [ti_1]; omega) (by rw [ti_1]; omega), ti_1]
              have bx_99 : (1 ≤ x_99.toInt ∧ x_99.toInt ≤ 8) := by constructor <;> omega
              refine lv_iload_n hx hb dX12_letters_91 rfl (lv_at hl 0 rfl) ?_
              refine tk_istP hx hb hK hP hD hS 0 ma_2 hfo_92 rfl (vp_in_iff.mpr (by constructor <;> omega)) dX12_letters_92 (fun H locs hP hD hS => ?_)
              have hc9 := cl_I (i := x_99) (by omega)
              obtain ⟨g_100, eqg_100⟩ : ∃ y : Nat → Int32, y = upd g_93 (Int32.toNatClampNeg x_99) x_74 := ⟨_, rfl⟩
              rw [← eqg_100] at hP hD
              have hbg_100 : wOK g_100 := by rw [eqg_100]; exact ⟨hbg_93.1.up (fun h1 h2 h3 => by exfalso; omega), hbg_93.2.1.up (fun h1 h2 h3 => by exfalso; omega), hbg_93.2.2.1.up (fun h1 h2 h3 => by exfalso; omega), hbg_93.2.2.2.1.up (fun h1 h2 h3 => by exfalso; omega), hbg_93.2.2.2.2.1.up (fun h1 h2 h3 => by exfalso; omega), hbg_93.2.2.2.2.2.1.up (fun h1 h2 h3 => by exfalso; omega), hbg_93.2.2.2.2.2.2.1.up (fun h1 h2 h3 => by exfalso; omega), hbg_93.2.2.2.2.2.2.2.1.up (fun h1 h2 h3 => by exfalso; omega), hbg_93.2.2.2.2.2.2.2.2.1.up (fun h1 h2 h3 => by exfalso; omega), hbg_93.2.2.2.2.2.2.2.2.2.1.up (fun h1 h2 h3 => by exfalso; omega), hbg_93.2.2.2.2.2.2.2.2.2.2.1.up (fun h1 h2 h3 => by exfalso; omega), hbg_93.2.2.2.2.2.2.2.2.2.2.2.1.up (fun h1 h2 h3 => by exfalso; omega), hbg_93.2.2.2.2.2.2.2.2.2.2.2.2.1.up (fun h1 h2 h3 => by exfalso; omega), hbg_93.2.2.2.2.2.2.2.2.2.2.2.2.2.1.up (fun h1 h2 h3 => by exfalso; omega), hbg_93.2.2.2.2.2.2.2.2.2.2.2.2.2.2.1.up (fun h1 h2 h3 => by exfalso; omega), hbg_93.2.2.2.2.2.2.2.2.2.2.2.2.2.2.2.up (fun h1 h2 h3 => by exfalso; omega)⟩
              obtain ⟨f_102, ef_102⟩ : ∃ y : Nat → va_E, y = va_up f_75 a_2 (.inl (cI, 1560, .inl g_100)) := ⟨_, rfl⟩
              have hP : va_P (dC, dI) vwCl (va_pl L f_102) H := by rw [ef_102]; exact hP
              have hD : va_D (fun q => q ∈ L) (va_pl L f_102) := by rw [ef_102]; exact hD
              have hG : GI (okc cI cL cZ cR cG cH L kd) kd L f_102 := by rw [ef_102]; exact hG.set a_2 (mk_576 ka_2 ⟨_, rfl, hbg_100⟩)
              have hfo_103 : f_102 o0 = .inr (12, [.ref a_1, .ref a_2, .ref a_3, .int v_4, .ref a_5, .int v_6, .int v_81, .int v_69, .int v_70, .int v_10, .int v_11, .int v_12, .int v_13, .int v_14, .int v_15, .ref a_16, .ref a_17, .ref a_18, .ref a_19, .ref a_20, .ref a_21, .ref a_22, .ref a_23, .int v_24, .int v_25, .int v_26, .int v_27, .int v_28, .ref a_29, .int v_30, .ref a_31, .ref a_32, .int v_33, .int v_34, .ref a_35, .int v_36, .ref a_37, .ref a_38, .int v_39, .int v_40, .ref a_41, .ref a_42, .ref a_43, .int v_44, .ref a_45, .ref a_46, .ref a_47, .ref a_48, .ref a_49, .ref a_50, .ref a_51, .ref a_52, .ref a_53, .int v_54, .int v_55, .ref a_56]) := by rw [ef_102, up_ne (kd_ne ka_2 ko0 (by decide))]; exact hfo_82
              have hfr0 : ∀ b, kd b ≠ 12 → kd b ≠ 576 → f_102 b = f b := fun b q12 q576 => (congrFun ef_102 b).trans ((up_ne (fun e9 => q576 (by rw [e9]; exact ka_2))).trans (hfr0 b q12 q576))
              have hrA12 : ∀ b, kd b = 12 → ∀ j, fldR (f_102 b) j = fldR (f b) j := fun b kb j => (congrArg (fun x => fldR x j) ((congrFun ef_102 b).trans (up_ne (kd_ne ka_2 kb (by decide))))).trans (hrA12 b kb j)
              have hfA12 : ∀ b, kd b = 12 → ∀ j, j ≠ 6 → j ≠ 7 → j ≠ 8 → fldI (f_102 b) j = fldI (f b) j := fun b kb j n6 n7 n8 => (congrArg (fun x => fldI x j) ((congrFun ef_102 b).trans (up_ne (kd_ne ka_2 kb (by decide))))).trans (hfA12 b kb j n6 n7 n8)
              have hT0 : frel kd 576 8 f_102 a_2 := by rw [ef_102]; exact frel.mk ka_2 up_self (by rw [eqg_100]; exact (hT0.get hfo_92).up (hbg_93.2.1 16 (by decide) (by decide) (by decide)).2 (by omega) (by omega) (by omega) (fun h9 => by exfalso; omega))
              have hfo_104 : f_102 a_2 = .inl (cI, 1560, .inl g_100) := by rw [ef_102]; exact up_self
              have ql_105 : x_95 = g_100 (Int32.toNatClampNeg 0) := by rw [eqg_100, pk_un (by have hc8 : Int32.toNatClampNeg 0 = 0 := rfl; omega)]; exact ex_95
              have ql_106 : x_97 = g_100 (Int32.toNatClampNeg 16) := by rw [eqg_100, pk_un (by have hc8 : Int32.toNatClampNeg 16 = 16 := rfl; omega)]; exact ex_97
              have ql_107 : x_74 = g_100 (Int32.toNatClampNeg x_99) := by rw [eqg_100, pk_us]
              refine lv_aload_n hx hb dX12_letters_93 rfl (lv_at hl 2 rfl) ?_
              refine tk_getP (D := (dC, dI)) (ci := 12) (v := .ref a_2) (C := RX12) (T := TX12) (N := 56) hx hb hU inlX12 hown hK hP mo0 hfo_103 rfl 1 (by decide) (hU _ wd_170) (fun _ h9 => h9) rfl dX12_letters_94 ?_
              refine lv_iconst (v := 0) hx hb dX12_letters_97 (by decide) ?_
              refine lv_dup2_11 hx hb dX12_letters_98 rfl rfl ?_
              refine tk_ildP hx hb hK hP 0 ma_2 hfo_104 rfl (vp_in_nI (n := 0) (by decide) (by decide)) dX12_letters_99 ?_
              refine tk_topi (y := x_95) ql_105.symm ?_
              refine lv_iconst (v := 1) hx hb dX12_letters_100 (by decide) ?_
              refine lv_iadd hx hb dX12_letters_101 ?_
              refine lv_topi (fun x_108 ex_108 => ?_)
              have hx_108 : x_108.toInt = x_95.toInt + 1 := by rw [ex_108, ad_I (by rw [ti_1]; omega) (by rw [ti_1]; omega), ti_1]
              have bx_108 : (1 ≤ x_108.toInt ∧ x_108.toInt ≤ 8) := by constructor <;> omega
              refine tk_istP hx hb hK hP hD hS 0 ma_2 hfo_104 rfl (vp_in_nI (n := 0) (by decide) (by decide)) dX12_letters_102 (fun H locs hP hD hS => ?_)
              have hc9 : ((Int32.toNatClampNeg 0 : Nat) : Int) = 0 := by decide
              obtain ⟨g_109, eqg_109⟩ : ∃ y : Nat → Int32, y = upd g_100 (Int32.toNatClampNeg 0) x_108 := ⟨_, rfl⟩
              rw [← eqg_109] at hP hD
              have hbg_109 : wOK g_109 := by rw [eqg_109]; exact ⟨hbg_100.1.up (fun h1 h2 h3 => by constructor <;> omega), hbg_100.2.1.up (fun h1 h2 h3 => by exfalso; omega), hbg_100.2.2.1.up (fun h1 h2 h3 => by exfalso; omega), hbg_100.2.2.2.1.up (fun h1 h2 h3 => by exfalso; omega), hbg_100.2.2.2.2.1.up (fun h1 h2 h3 => by exfalso; omega), hbg_100.2.2.2.2.2.1.up (fun h1 h2 h3 => by exfalso; omega), hbg_100.2.2.2.2.2.2.1.up (fun h1 h2 h3 => by exfalso; omega), hbg_100.2.2.2.2.2.2.2.1.up (fun h1 h2 h3 => by exfalso; omega), hbg_100.2.2.2.2.2.2.2.2.1.up (fun h1 h2 h3 => by exfalso; omega), hbg_100.2.2.2.2.2.2.2.2.2.1.up (fun h1 h2 h3 => by exfalso; omega), hbg_100.2.2.2.2.2.2.2.2.2.2.1.up (fun h1 h2 h3 => by exfalso; omega), hbg_100.2.2.2.2.2.2.2.2.2.2.2.1.up (fun h1 h2 h3 => by exfalso; omega), hbg_100.2.2.2.2.2.2.2.2.2.2.2.2.1.up (fun h1 h2 h3 => by exfalso; omega), hbg_100.2.2.2.2.2.2.2.2.2.2.2.2.2.1.up (fun h1 h2 h3 => by exfalso; omega), hbg_100.2.2.2.2.2.2.2.2.2.2.2.2.2.2.1.up (fun h1 h2 h3 => by exfalso; omega), hbg_100.2.2.2.2.2.2.2.2.2.2.2.2.2.2.2.up (fun h1 h2 h3 => by exfalso; omega)⟩
              obtain ⟨f_111, ef_111⟩ : ∃ y : Nat → va_E, y = va_up f_102 a_2 (.inl (cI, 1560, .inl g_109)) := ⟨_, rfl⟩
              have hP : va_P (dC, dI) vwCl (va_pl L f_111) H := by rw [ef_111]; exact hP
              have hD : va_D (fun q => q ∈ L) (va_pl L f_111) := by rw [ef_111]; exact hD
              have hG : GI (okc cI cL cZ cR cG cH L kd) kd L f_111 := by rw [ef_111]; exact hG.set a_2 (mk_576 ka_2 ⟨_, rfl, hbg_109⟩)
              have hfo_112 : f_111 o0 = .inr (12, [.ref a_1, .ref a_2, .ref a_3, .int v_4, .ref a_5, .int v_6, .int v_81, .int v_69, .int v_70, .int v_10, .int v_11, .int v_12, .int v_13, .int v_14, .int v_15, .ref a_16, .ref a_17, .ref a_18, .ref a_19, .ref a_20, .ref a_21, .ref a_22, .ref a_23, .int v_24, .int v_25, .int v_26, .int v_27, .int v_28, .ref a_29, .int v_30, .ref a_31, .ref a_32, .int v_33, .int v_34, .ref a_35, .int v_36, .ref a_37, .ref a_38, .int v_39, .int v_40, .ref a_41, .ref a_42, .ref a_43, .int v_44, .ref a_45, .ref a_46, .ref a_47, .ref a_48, .ref a_49, .ref a_50, .ref a_51, .ref a_52, .ref a_53, .int v_54, .int v_55, .ref a_56]) := by rw [ef_111, up_ne (kd_ne ka_2 ko0 (by decide))]; exact hfo_103
              have hfr0 : ∀ b, kd b ≠ 12 → kd b ≠ 576 → f_111 b = f b := fun b q12 q576 => (congrFun ef_111 b).trans ((up_ne (fun e9 => q576 (by rw [e9]; exact ka_2))).trans (hfr0 b q12 q576))
              have hrA12 : ∀ b, kd b = 12 → ∀ j, fldR (f_111 b) j = fldR (f b) j := fun b kb j => (congrArg (fun x => fldR x j) ((congrFun ef_111 b).trans (up_ne (kd_ne ka_2 kb (by decide))))).trans (hrA12 b kb j)
              have hfA12 : ∀ b, kd b = 12 → ∀ j, j ≠ 6 → j ≠ 7 → j ≠ 8 → fldI (f_111 b) j = fldI (f b) j := fun b kb j n6 n7 n8 => (congrArg (fun x => fldI x j) ((congrFun ef_111 b).trans (up_ne (kd_ne ka_2 kb (by decide))))).trans (hfA12 b kb j n6 n7 n8)
              have hfo_113 : f_111 a_2 = .inl (cI, 1560, .inl g_109) := by rw [ef_111]; exact up_self
              have ql_114 : x_97 = g_109 (Int32.toNatClampNeg 16) := by rw [eqg_109, pk_un (by decide)]; exact ql_106
              have ql_115 : x_108 = g_109 (Int32.toNatClampNeg 0) := by rw [eqg_109, pk_us]
              refine lv_aload_n hx hb dX12_letters_103 rfl (lv_at hl 2 rfl) ?_
              refine tk_getP (D := (dC, dI)) (ci := 12) (v := .ref a_2) (C := RX12) (T := TX12) (N := 56) hx hb hU inlX12 hown hK hP mo0 hfo_112 rfl 1 (by decide) (hU _ wd_170) (fun _ h9 => h9) rfl dX12_letters_104 ?_
              refine lv_bipush (v := 20) hx hb dX12_letters_107 (by decide) ?_
              refine lv_aload_n hx hb dX12_letters_109 rfl (lv_at hl 2 rfl) ?_
              refine tk_getP (D := (dC, dI)) (ci := 12) (v := .ref a_2) (C := RX12) (T := TX12) (N := 56) hx hb hU inlX12 hown hK hP mo0 hfo_112 rfl 1 (by decide) (hU _ wd_170) (fun _ h9 => h9) rfl dX12_letters_110 ?_
              refine lv_bipush (v := 16) hx hb dX12_letters_113 (by decide) ?_
              refine tk_ildP hx hb hK hP 0 ma_2 hfo_113 rfl (vp_in_nI (n := 16) (by decide) (by decide)) dX12_letters_115 ?_
              refine tk_topi (y := x_97) ql_114.symm ?_
              refine lv_iadd hx hb dX12_letters_116 ?_
              refine lv_topi (fun x_116 ex_116 => ?_)
              have hx_116 : x_116.toInt = 20 + x_97.toInt := by rw [ex_116, ad_I (by rw [ti_20]; omega) (by rw [ti_20]; omega), ti_20]
              have bx_116 : (20 ≤ x_116.toInt ∧ x_116.toInt ≤ 39) := by constructor <;> omega
              refine lv_bipush (v := 10) hx hb dX12_letters_117 (by decide) ?_
              refine lv_aload_n hx hb dX12_letters_119 rfl (lv_at hl 2 rfl) ?_
              refine tk_getP (D := (dC, dI)) (ci := 12) (v := .ref a_2) (C := RX12) (T := TX12) (N := 56) hx hb hU inlX12 hown hK hP mo0 hfo_112 rfl 1 (by decide) (hU _ wd_170) (fun _ h9 => h9) rfl dX12_letters_120 ?_
              refine lv_iconst (v := 0) hx hb dX12_letters_123 (by decide) ?_
              refine tk_ildP hx hb hK hP 0 ma_2 hfo_113 rfl (vp_in_nI (n := 0) (by decide) (by decide)) dX12_letters_124 ?_
              refine tk_topi (y := x_108) ql_115.symm ?_
              refine lv_imul hx hb dX12_letters_125 ?_
              refine lv_topi (fun x_117 ex_117 => ?_)
              have hx_117 : x_117.toInt = 10 * x_108.toInt := by rw [ex_117, ml_I (by rw [ti_10]; omega) (by rw [ti_10]; omega), ti_10]
              have bx_117 : (10 ≤ x_117.toInt ∧ x_117.toInt ≤ 80) := by constructor <;> omega
              refine tk_istP hx hb hK hP hD hS 0 ma_2 hfo_113 rfl (vp_in_iff.mpr (by constructor <;> omega)) dX12_letters_126 (fun H locs hP hD hS => ?_)
              have hc9 := cl_I (i := x_116) (by omega)
              obtain ⟨g_118, eqg_118⟩ : ∃ y : Nat → Int32, y = upd g_109 (Int32.toNatClampNeg x_116) x_117 := ⟨_, rfl⟩
              rw [← eqg_118] at hP hD
              have hbg_118 : wOK g_118 := by rw [eqg_118]; exact ⟨hbg_109.1.up (fun h1 h2 h3 => by exfalso; omega), hbg_109.2.1.up (fun h1 h2 h3 => by exfalso; omega), hbg_109.2.2.1.up (fun h1 h2 h3 => by exfalso; omega), hbg_109.2.2.2.1.up (fun h1 h2 h3 => by exfalso; omega), hbg_109.2.2.2.2.1.up (fun h1 h2 h3 => by exfalso; omega), hbg_109.2.2.2.2.2.1.up (fun h1 h2 h3 => by constructor <;> omega), hbg_109.2.2.2.2.2.2.1.up (fun h1 h2 h3 => by exfalso; omega), hbg_109.2.2.2.2.2.2.2.1.up (fun h1 h2 h3 => by exfalso; omega), hbg_109.2.2.2.2.2.2.2.2.1.up (fun h1 h2 h3 => by exfalso; omega), hbg_109.2.2.2.2.2.2.2.2.2.1.up (fun h1 h2 h3 => by exfalso; omega), hbg_109.2.2.2.2.2.2.2.2.2.2.1.up (fun h1 h2 h3 => by exfalso; omega), hbg_109.2.2.2.2.2.2.2.2.2.2.2.1.up (fun h1 h2 h3 => by exfalso; omega), hbg_109.2.2.2.2.2.2.2.2.2.2.2.2.1.up (fun h1 h2 h3 => by exfalso; omega), hbg_109.2.2.2.2.2.2.2.2.2.2.2.2.2.1.up (fun h1 h2 h3 => by exfalso; omega), hbg_109.2.2.2.2.2.2.2.2.2.2.2.2.2.2.1.up (fun h1 h2 h3 => by exfalso; omega), hbg_109.2.2.2.2.2.2.2.2.2.2.2.2.2.2.2.up (fun h1 h2 h3 => by exfalso; omega)⟩
              obtain ⟨f_120, ef_120⟩ : ∃ y : Nat → va_E, y = va_up f_111 a_2 (.inl (cI, 1560, .inl g_118)) := ⟨_, rfl⟩
              have hP : va_P (dC, dI) vwCl (va_pl L f_120) H := by rw [ef_120]; exact hP
              have hD : va_D (fun q => q ∈ L) (va_pl L f_120) := by rw [ef_120]; exact hD
              have hG : GI (okc cI cL cZ cR cG cH L kd) kd L f_120 := by rw [ef_120]; exact hG.set a_2 (mk_576 ka_2 ⟨_, rfl, hbg_118⟩)
              have hfo_121 : f_120 o0 = .inr (12, [.ref a_1, .ref a_2, .ref a_3, .int v_4, .ref a_5, .int v_6, .int v_81, .int v_69, .int v_70, .int v_10, .int v_11, .int v_12, .int v_13, .int v_14, .int v_15, .ref a_16, .ref a_17, .ref a_18, .ref a_19, .ref a_20, .ref a_21, .ref a_22, .ref a_23, .int v_24, .int v_25, .int v_26, .int v_27, .int v_28, .ref a_29, .int v_30, .ref a_31, .ref a_32, .int v_33, .int v_34, .ref a_35, .int v_36, .ref a_37, .ref a_38, .int v_39, .int v_40, .ref a_41, .ref a_42, .ref a_43, .int v_44, .ref a_45, .ref a_46, .ref a_47, .ref a_48, .ref a_49, .ref a_50, .ref a_51, .ref a_52, .ref a_53, .int v_54, .int v_55, .ref a_56]) := by rw [ef_120, up_ne (kd_ne ka_2 ko0 (by decide))]; exact hfo_112
              have hfr0 : ∀ b, kd b ≠ 12 → kd b ≠ 576 → f_120 b = f b := fun b q12 q576 => (congrFun ef_120 b).trans ((up_ne (fun e9 => q576 (by rw [e9]; exact ka_2))).trans (hfr0 b q12 q576))
              have hrA12 : ∀ b, kd b = 12 → ∀ j, fldR (f_120 b) j = fldR (f b) j := fun b kb j => (congrArg (fun x => fldR x j) ((congrFun ef_120 b).trans (up_ne (kd_ne ka_2 kb (by decide))))).trans (hrA12 b kb j)
              have hfA12 : ∀ b, kd b = 12 → ∀ j, j ≠ 6 → j ≠ 7 → j ≠ 8 → fldI (f_120 b) j = fldI (f b) j := fun b kb j n6 n7 n8 => (congrArg (fun x => fldI x j) ((congrFun ef_120 b).trans (up_ne (kd_ne ka_2 kb (by decide))))).trans (hfA12 b kb j n6 n7 n8)
              have hfo_122 : f_120 a_2 = .inl (cI, 1560, .inl g_118) := by rw [ef_120]; exact up_self
              have ql_123 : x_97 = g_118 (Int32.toNatClampNeg 16) := by rw [eqg_118, pk_un (by have hc8 : Int32.toNatClampNeg 16 = 16 := rfl; omega)]; exact ql_114
              have ql_124 : x_108 = g_118 (Int32.toNatClampNeg 0) := by rw [eqg_118, pk_un (by have hc8 : Int32.toNatClampNeg 0 = 0 := rfl; omega)]; exact ql_115
              have ql_125 : x_117 = g_118 (Int32.toNatClampNeg x_116) := by rw [eqg_118, pk_us]
              refine lv_aload_n hx hb dX12_letters_127 rfl (lv_at hl 2 rfl) ?_
              refine tk_getP (D := (dC, dI)) (ci := 12) (v := .ref a_2) (C := RX12) (T := TX12) (N := 56) hx hb hU inlX12 hown hK hP mo0 hfo_121 rfl 1 (by decide) (hU _ wd_170) (fun _ h9 => h9) rfl dX12_letters_128 ?_
              refine lv_bipush (v := 16) hx hb dX12_letters_131 (by decide) ?_
              refine lv_dup2_11 hx hb dX12_letters_133 rfl rfl ?_
              refine tk_ildP hx hb hK hP 0 ma_2 hfo_122 rfl (vp_in_nI (n := 16) (by decide) (by decide)) dX12_letters_134 ?_
              refine tk_topi (y := x_97) ql_123.symm ?_
              refine lv_iconst (v := 1) hx hb dX12_letters_135 (by decide) ?_
              refine lv_iadd hx hb dX12_letters_136 ?_
              refine lv_topi (fun x_126 ex_126 => ?_)
              have hx_126 : x_126.toInt = x_97.toInt + 1 := by rw [ex_126, ad_I (by rw [ti_1]; omega) (by rw [ti_1]; omega), ti_1]
              have bx_126 : (1 ≤ x_126.toInt ∧ x_126.toInt ≤ 20) := by constructor <;> omega
              refine tk_istP hx hb hK hP hD hS 0 ma_2 hfo_122 rfl (vp_in_nI (n := 16) (by decide) (by decide)) dX12_letters_137 (fun H locs hP hD hS => ?_)
              have hc9 : ((Int32.toNatClampNeg 16 : Nat) : Int) = 16 := by decide
              obtain ⟨g_127, eqg_127⟩ : ∃ y : Nat → Int32, y = upd g_118 (Int32.toNatClampNeg 16) x_126 := ⟨_, rfl⟩
              rw [← eqg_127] at hP hD
              have hbg_127 : wOK g_127 := by rw [eqg_127]; exact ⟨hbg_118.1.up (fun h1 h2 h3 => by exfalso; omega), hbg_118.2.1.up (fun h1 h2 h3 => by constructor <;> omega), hbg_118.2.2.1.up (fun h1 h2 h3 => by exfalso; omega), hbg_118.2.2.2.1.up (fun h1 h2 h3 => by exfalso; omega), hbg_118.2.2.2.2.1.up (fun h1 h2 h3 => by exfalso; omega), hbg_118.2.2.2.2.2.1.up (fun h1 h2 h3 => by exfalso; omega), hbg_118.2.2.2.2.2.2.1.up (fun h1 h2 h3 => by exfalso; omega), hbg_118.2.2.2.2.2.2.2.1.up (fun h1 h2 h3 => by exfalso; omega), hbg_118.2.2.2.2.2.2.2.2.1.up (fun h1 h2 h3 => by exfalso; omega), hbg_118.2.2.2.2.2.2.2.2.2.1.up (fun h1 h2 h3 => by exfalso; omega), hbg_118.2.2.2.2.2.2.2.2.2.2.1.up (fun h1 h2 h3 => by exfalso; omega), hbg_118.2.2.2.2.2.2.2.2.2.2.2.1.up (fun h1 h2 h3 => by exfalso; omega), hbg_118.2.2.2.2.2.2.2.2.2.2.2.2.1.up (fun h1 h2 h3 => by exfalso; omega), hbg_118.2.2.2.2.2.2.2.2.2.2.2.2.2.1.up (fun h1 h2 h3 => by exfalso; omega), hbg_118.2.2.2.2.2.2.2.2.2.2.2.2.2.2.1.up (fun h1 h2 h3 => by exfalso; omega), hbg_118.2.2.2.2.2.2.2.2.2.2.2.2.2.2.2.up (fun h1 h2 h3 => by exfalso; omega)⟩
              obtain ⟨f_129, ef_129⟩ : ∃ y : Nat → va_E, y = va_up f_120 a_2 (.inl (cI, 1560, .inl g_127)) := ⟨_, rfl⟩
              have hP : va_P (dC, dI) vwCl (va_pl L f_129) H := by rw [ef_129]; exact hP
              have hD : va_D (fun q => q ∈ L) (va_pl L f_129) := by rw [ef_129]; exact hD
              have hG : GI (okc cI cL cZ cR cG cH L kd) kd L f_129 := by rw [ef_129]; exact hG.set a_2 (mk_576 ka_2 ⟨_, rfl, hbg_127⟩)
              have hfo_130 : f_129 o0 = .inr (12, [.ref a_1, .ref a_2, .ref a_3, .int v_4, .ref a_5, .int v_6, .int v_81, .int v_69, .int v_70, .int v_10, .int v_11, .int v_12, .int v_13, .int v_14, .int v_15, .ref a_16, .ref a_17, .ref a_18, .ref a_19, .ref a_20, .ref a_21, .ref a_22, .ref a_23, .int v_24, .int v_25, .int v_26, .int v_27, .int v_28, .ref a_29, .int v_30, .ref a_31, .ref a_32, .int v_33, .int v_34, .ref a_35, .int v_36, .ref a_37, .ref a_38, .int v_39, .int v_40, .ref a_41, .ref a_42, .ref a_43, .int v_44, .ref a_45, .ref a_46, .ref a_47, .ref a_48, .ref a_49, .ref a_50, .ref a_51, .ref a_52, .ref a_53, .int v_54, .int v_55, .ref a_56]) := by rw [ef_129, up_ne (kd_ne ka_2 ko0 (by decide))]; exact hfo_121
              have hfr0 : ∀ b, kd b ≠ 12 → kd b ≠ 576 → f_129 b = f b := fun b q12 q576 => (congrFun ef_129 b).trans ((up_ne (fun e9 => q576 (by rw [e9]; exact ka_2))).trans (hfr0 b q12 q576))
              have hrA12 : ∀ b, kd b = 12 → ∀ j, fldR (f_129 b) j = fldR (f b) j := fun b kb j => (congrArg (fun x => fldR x j) ((congrFun ef_129 b).trans (up_ne (kd_ne ka_2 kb (by decide))))).trans (hrA12 b kb j)
              have hfA12 : ∀ b, kd b = 12 → ∀ j, j ≠ 6 → j ≠ 7 → j ≠ 8 → fldI (f_129 b) j = fldI (f b) j := fun b kb j n6 n7 n8 => (congrArg (fun x => fldI x j) ((congrFun ef_129 b).trans (up_ne (kd_ne ka_2 kb (by decide))))).trans (hfA12 b kb j n6 n7 n8)
              have hfo_131 : f_129 a_2 = .inl (cI, 1560, .inl g_127) := by rw [ef_129]; exact up_self
              have ql_132 : x_108 = g_127 (Int32.toNatClampNeg 0) := by rw [eqg_127, pk_un (by decide)]; exact ql_124
              have ql_133 : x_126 = g_127 (Int32.toNatClampNeg 16) := by rw [eqg_127, pk_us]
              have hF4 : fOK 8 g_127 := by have hi1 := cl_I (i := x_99) (by omega); have hi3 := cl_I (i := x_116) (by omega); have hz16 : Int32.toNatClampNeg 16 = 16 := rfl; have hz0 : Int32.toNatClampNeg 0 = 0 := rfl; exact hF0.letter (by rw [eqg_127, pk_un (by omega), eqg_118, pk_un (by omega), eqg_109, hz0, pk_us]; omega) (by rw [eqg_127, hz16, pk_us]; omega) (by omega) (by constructor <;> omega) (fun k9 h9 => by rw [eqg_127, pk_un (by omega), eqg_118, show 20 + k9 = Int32.toNatClampNeg x_116 by omega, pk_us]; omega) (fun k9 h9 => by rw [eqg_127, pk_un (by omega), eqg_118, pk_un (by omega), eqg_109, pk_un (by omega), eqg_100, pk_un (by omega)]) (by rw [eqg_127, pk_un (by omega), eqg_118, pk_un (by omega), eqg_109, pk_un (by omega), eqg_100, pk_un (by omega)])
              have hTt_134 : frel kd 576 8 f_129 a_2 := frel.mk ka_2 hfo_131 hF4
              have hclc_135 : (0 ≤ v_81.toInt ∧ v_81.toInt ≤ 599) := by constructor <;> omega
              refine lv_aload_n hx hb dX12_letters_138 rfl (lv_at hl 2 rfl) ?_
              refine lv_dup hx hb dX12_letters_139 rfl ?_
              refine tk_getP (D := (dC, dI)) (ci := 12) (v := .int v_81) (C := RX12) (T := TX12) (N := 56) hx hb hU inlX12 hown hK hP mo0 hfo_130 rfl 6 (by decide) (hU _ wd_566) (fun _ h9 => h9) rfl dX12_letters_140 ?_
              refine lv_iconst (v := 1) hx hb dX12_letters_143 (by decide) ?_
              refine lv_iadd hx hb dX12_letters_144 ?_
              refine lv_topi (fun x_136 ex_136 => ?_)
              have hx_136 : x_136.toInt = v_81.toInt + 1 := by rw [ex_136, ad_I (by rw [ti_1]; omega) (by rw [ti_1]; omega), ti_1]
              have bx_136 : (1 ≤ x_136.toInt ∧ x_136.toInt ≤ 600) := by constructor <;> omega
              refine tk_putP (D := (dC, dI)) (ci := 12) (v := .int x_136) (ty := .int) (C := RX12) (T := TX12) (N := 56) hx hb hU inlX12 tyX12 tyX12_ok nmX12 hown hK hP hD hS mo0 hfo_130 rfl 6 (by decide) (hU _ wd_566) (fun _ h9 => h9) rfl (by decide +kernel) rfl rfl (Nat.le_of_ble_eq_true rfl) dX12_letters_145 (fun H locs hP hD hS => ?_)
              have fa_137 := fu12_6 (y := x_136) fa_83 (by constructor <;> omega)
              obtain ⟨f_139, ef_139⟩ : ∃ y : Nat → va_E, y = va_up f_129 o0 (.inr (12, [.ref a_1, .ref a_2, .ref a_3, .int v_4, .ref a_5, .int v_6, .int x_136, .int v_69, .int v_70, .int v_10, .int v_11, .int v_12, .int v_13, .int v_14, .int v_15, .ref a_16, .ref a_17, .ref a_18, .ref a_19, .ref a_20, .ref a_21, .ref a_22, .ref a_23, .int v_24, .int v_25, .int v_26, .int v_27, .int v_28, .ref a_29, .int v_30, .ref a_31, .ref a_32, .int v_33, .int v_34, .ref a_35, .int v_36, .ref a_37, .ref a_38, .int v_39, .int v_40, .ref a_41, .ref a_42, .ref a_43, .int v_44, .ref a_45, .ref a_46, .ref a_47, .ref a_48, .ref a_49, .ref a_50, .ref a_51, .ref a_52, .ref a_53, .int v_54, .int v_55, .ref a_56])) := ⟨_, rfl⟩
              have hP : va_P (dC, dI) vwCl (va_pl L f_139) H := by rw [ef_139]; exact hP
              have hD : va_D (fun q => q ∈ L) (va_pl L f_139) := by rw [ef_139]; exact hD
              have hG : GI (okc cI cL cZ cR cG cH L kd) kd L f_139 := by rw [ef_139]; exact hG.set o0 (mk_12 ko0 (fo12 fa_137))
              have hfo_140 : f_139 a_2 = .inl (cI, 1560, .inl g_127) := by rw [ef_139, up_ne (kd_ne ko0 ka_2 (by decide))]; exact hfo_131
              have hfr0 : ∀ b, kd b ≠ 12 → kd b ≠ 576 → f_139 b = f b := fun b q12 q576 => (congrFun ef_139 b).trans ((up_ne (fun e9 => q12 (by rw [e9]; exact ko0))).trans (hfr0 b q12 q576))
              have hrA12 : ∀ b, kd b = 12 → ∀ j, fldR (f_139 b) j = fldR (f b) j := fun b kb j => ((congrArg (fun x => fldR x j) (congrFun ef_139 b)).trans (fra_up (fun j => by rw [hfo_130]; exact fr_set (k := 6) rfl rfl) j b)).trans (hrA12 b kb j)
              have hfA12 : ∀ b, kd b = 12 → ∀ j, j ≠ 6 → j ≠ 7 → j ≠ 8 → fldI (f_139 b) j = fldI (f b) j := fun b kb j n6 n7 n8 => ((congrArg (fun x => fldI x j) (congrFun ef_139 b)).trans (fia_up (fun h9 => by rw [hfo_130]; exact fi_set (k := 6) rfl h9) n6 b)).trans (hfA12 b kb j n6 n7 n8)
              have hTt_134 : frel kd 576 8 f_139 a_2 := by rw [ef_139]; exact hTt_134.keep (fun b q => up_ne (kd_ne ko0 q (by decide)))
              have hfo_141 : f_139 o0 = .inr (12, [.ref a_1, .ref a_2, .ref a_3, .int v_4, .ref a_5, .int v_6, .int x_136, .int v_69, .int v_70, .int v_10, .int v_11, .int v_12, .int v_13, .int v_14, .int v_15, .ref a_16, .ref a_17, .ref a_18, .ref a_19, .ref a_20, .ref a_21, .ref a_22, .ref a_23, .int v_24, .int v_25, .int v_26, .int v_27, .int v_28, .ref a_29, .int v_30, .ref a_31, .ref a_32, .int v_33, .int v_34, .ref a_35, .int v_36, .ref a_37, .ref a_38, .int v_39, .int v_40, .ref a_41, .ref a_42, .ref a_43, .int v_44, .ref a_45, .ref a_46, .ref a_47, .ref a_48, .ref a_49, .ref a_50, .ref a_51, .ref a_52, .ref a_53, .int v_54, .int v_55, .ref a_56]) := by rw [ef_139]; exact up_self
              refine lv_iconst (v := 1) hx hb dX12_letters_148 (by decide) ?_
              refine lv_istore_n (lv' := [(1, .int 1), (2, .int x_74), (0, .ref o0)]) hx hb dX12_letters_149 rfl hl (by decide) rfl (fun ls hl => ?_)
              refine lv_goto (tgt := 2) hx hb dX12_letters_150 (by decide) ?_
              exact ih_hloop_64 1 (by decide) f_139 hG _ _ hP hS hD hfr0 hrA12 hfA12 hTt_134 x_136 (by rw [hfo_141]; rfl) (by (try rw [ti_1]) <;> omega) (by (try rw [ti_1]) <;> omega) (by (try rw [ti_1]) <;> omega) ls (lv_sub hl [0, 2] rfl)
            · skip
              rw [← Int32.toInt_inj, ti_8] at c_96
              refine lv_aload_n hx hb dX12_letters_69 rfl (lv_at hl 2 rfl) ?_
              refine lv_iconst (v := 3) hx hb dX12_letters_70 (by decide) ?_
              refine lv_aload_n hx hb dX12_letters_71 rfl (lv_at hl 2 rfl) ?_
              refine tk_getP (D := (dC, dI)) (ci := 12) (v := .int v_81) (C := RX12) (T := TX12) (N := 56) hx hb hU inlX12 hown hK hP mo0 hfo_82 rfl 6 (by decide) (hU _ wd_566) (fun _ h9 => h9) rfl dX12_letters_72 ?_
              refine tk_ViP (As := [.int 3, .int v_81]) (rest := []) (n := 2) hx hb hml hown hU hN hZ (s_X12_bad_k12 l (dC, dI) cI cL cZ cR cG cH Z kd L f_75 hG o0 mo0 ko0 3 v_81) wd_602 wd_603 wd_604 wd_5 wd_605 (by decide +kernel) ⟨Nat.le_of_ble_eq_true rfl, Nat.le_of_ble_eq_true rfl⟩ hK hP hD hS mo0 hfo_82 12 rfl rfl rfl hl.1 rfl (Nat.le_of_ble_eq_true rfl) dX12_letters_75 ⟨Nat.le_of_ble_eq_true rfl, Nat.le_of_ble_eq_true rfl⟩ (fun x_142 f_143 H locs hw hP hD hS => ?_)
              obtain ⟨hG, bx_142, hkc_144, hra_145, hfa_146⟩ := hw
              have hfo_148 : f_143 a_2 = .inl (cI, 1560, .inl g_93) := by rw [hkc_144 a_2 (by rw [ka_2]; decide)]; exact hfo_92
              have hfr0 : ∀ b, kd b ≠ 12 → kd b ≠ 576 → f_143 b = f b := fun b q12 q576 => (hkc_144 b q12).trans (hfr0 b q12 q576)
              have hrA12 : ∀ b, kd b = 12 → ∀ j, fldR (f_143 b) j = fldR (f b) j := fun b kb j => (hra_145 b kb j).trans (hrA12 b kb j)
              have hfA12 : ∀ b, kd b = 12 → ∀ j, j ≠ 6 → j ≠ 7 → j ≠ 8 → fldI (f_143 b) j = fldI (f b) j := fun b kb j n6 n7 n8 => (hfa_146 b kb j n7 n8).trans (hfA12 b kb j n6 n7 n8)
              have hT0 : frel kd 576 8 f_143 a_2 := hT0.keep (fun b q => hkc_144 b (by rw [q]; decide))
              obtain ⟨v_149, v_150, hfo_151, fa_152⟩ := op12_7_8 hfo_82 (hG _ mo0) ko0 (hra_145 o0 ko0) (hfa_146 o0 ko0)
              have bv_149 : ((-2147483648) ≤ v_149.toInt ∧ v_149.toInt ≤ 2147483647) := ⟨i32_lo _, i32_hi _⟩
              have bv_150 : ((-2147483648) ≤ v_150.toInt ∧ v_150.toInt ≤ 2147483647) := ⟨i32_lo _, i32_hi _⟩
              exact W.zret (v := x_142) (ty := .boolean) hx hb hr (zb_n (by constructor <;> omega)) (fun t ht hW => ⟨⟨x_142, f_143, rfl, ⟨hG, (by constructor <;> omega), hfr0, hrA12, hfA12, (by intro w6 z6 e6 d6; rw [hfo_57] at e6; rw [hfo_151] at d6; obtain rfl := Option.some.inj e6; obtain rfl := Option.some.inj d6; omega), (fun d9 h9 => by rw [hfo_151] at h9; obtain rfl := Option.some.inj h9; exact hT0)⟩, by rw [ht]; exact hP, va_K.moved hW.alike hK, pl_in hD⟩, hS.F ht⟩) hS.2.2 dX12_letters_78
          · skip
            rw [Int32.le_iff_toInt_le, ti_0] at c_94
            refine lv_aload_n hx hb dX12_letters_48 rfl (lv_at hl 2 rfl) ?_
            refine lv_iconst (v := 2) hx hb dX12_letters_49 (by decide) ?_
            refine lv_aload_n hx hb dX12_letters_50 rfl (lv_at hl 2 rfl) ?_
            refine tk_getP (D := (dC, dI)) (ci := 12) (v := .int v_81) (C := RX12) (T := TX12) (N := 56) hx hb hU inlX12 hown hK hP mo0 hfo_82 rfl 6 (by decide) (hU _ wd_566) (fun _ h9 => h9) rfl dX12_letters_51 ?_
            refine tk_ViP (As := [.int 2, .int v_81]) (rest := []) (n := 2) hx hb hml hown hU hN hZ (s_X12_bad_k12 l (dC, dI) cI cL cZ cR cG cH Z kd L f_75 hG o0 mo0 ko0 2 v_81) wd_602 wd_603 wd_604 wd_5 wd_605 (by decide +kernel) ⟨Nat.le_of_ble_eq_true rfl, Nat.le_of_ble_eq_true rfl⟩ hK hP hD hS mo0 hfo_82 12 rfl rfl rfl hl.1 rfl (Nat.le_of_ble_eq_true rfl) dX12_letters_54 ⟨Nat.le_of_ble_eq_true rfl, Nat.le_of_ble_eq_true rfl⟩ (fun x_153 f_154 H locs hw hP hD hS => ?_)
            obtain ⟨hG, bx_153, hkc_155, hra_156, hfa_157⟩ := hw
            have hfo_159 : f_154 a_2 = .inl (cI, 1560, .inl g_93) := by rw [hkc_155 a_2 (by rw [ka_2]; decide)]; exact hfo_92
            have hfr0 : ∀ b, kd b ≠ 12 → kd b ≠ 576 → f_154 b = f b := fun b q12 q576 => (hkc_155 b q12).trans (hfr0 b q12 q576)
            have hrA12 : ∀ b, kd b = 12 → ∀ j, fldR (f_154 b) j = fldR (f b) j := fun b kb j => (hra_156 b kb j).trans (hrA12 b kb j)
            have hfA12 : ∀ b, kd b = 12 → ∀ j, j ≠ 6 → j ≠ 7 → j ≠ 8 → fldI (f_154 b) j = fldI (f b) j := fun b kb j n6 n7 n8 => (hfa_157 b kb j n7 n8).trans (hfA12 b kb j n6 n7 n8)
            have hT0 : frel kd 576 8 f_154 a_2 := hT0.keep (fun b q => hkc_155 b (by rw [q]; decide))
            obtain ⟨v_160, v_161, hfo_162, fa_163⟩ := op12_7_8 hfo_82 (hG _ mo0) ko0 (hra_156 o0 ko0) (hfa_157 o0 ko0)
            have bv_160 : ((-2147483648) ≤ v_160.toInt ∧ v_160.toInt ≤ 2147483647) := ⟨i32_lo _, i32_hi _⟩
            have bv_161 : ((-2147483648) ≤ v_161.toInt ∧ v_161.toInt ≤ 2147483647) := ⟨i32_lo _, i32_hi _⟩
            exact W.zret (v := x_153) (ty := .boolean) hx hb hr (zb_n (by constructor <;> omega)) (fun t ht hW => ⟨⟨x_153, f_154, rfl, ⟨hG, (by constructor <;> omega), hfr0, hrA12, hfA12, (by intro w6 z6 e6 d6; rw [hfo_57] at e6; rw [hfo_162] at d6; obtain rfl := Option.some.inj e6; obtain rfl := Option.some.inj d6; omega), (fun d9 h9 => by rw [hfo_162] at h9; obtain rfl := Option.some.inj h9; exact hT0)⟩, by rw [ht]; exact hP, va_K.moved hW.alike hK, pl_in hD⟩, hS.F ht⟩) hS.2.2 dX12_letters_57
        · skip
          rw [← Int32.toInt_inj, ti_0] at c_87
          refine lv_aload_n hx hb dX12_letters_27 rfl (lv_at hl 2 rfl) ?_
          refine lv_iconst (v := 1) hx hb dX12_letters_28 (by decide) ?_
          refine lv_aload_n hx hb dX12_letters_29 rfl (lv_at hl 2 rfl) ?_
          refine tk_getP (D := (dC, dI)) (ci := 12) (v := .int v_81) (C := RX12) (T := TX12) (N := 56) hx hb hU inlX12 hown hK hP mo0 hfo_82 rfl 6 (by decide) (hU _ wd_566) (fun _ h9 => h9) rfl dX12_letters_30 ?_
          refine tk_ViP (As := [.int 1, .int v_81]) (rest := []) (n := 2) hx hb hml hown hU hN hZ (s_X12_bad_k12 l (dC, dI) cI cL cZ cR cG cH Z kd L f_75 hG o0 mo0 ko0 1 v_81) wd_602 wd_603 wd_604 wd_5 wd_605 (by decide +kernel) ⟨Nat.le_of_ble_eq_true rfl, Nat.le_of_ble_eq_true rfl⟩ hK hP hD hS mo0 hfo_82 12 rfl rfl rfl hl.1 rfl (Nat.le_of_ble_eq_true rfl) dX12_letters_33 ⟨Nat.le_of_ble_eq_true rfl, Nat.le_of_ble_eq_true rfl⟩ (fun x_164 f_165 H locs hw hP hD hS => ?_)
          obtain ⟨hG, bx_164, hkc_166, hra_167, hfa_168⟩ := hw
          have hfr0 : ∀ b, kd b ≠ 12 → kd b ≠ 576 → f_165 b = f b := fun b q12 q576 => (hkc_166 b q12).trans (hfr0 b q12 q576)
          have hrA12 : ∀ b, kd b = 12 → ∀ j, fldR (f_165 b) j = fldR (f b) j := fun b kb j => (hra_167 b kb j).trans (hrA12 b kb j)
          have hfA12 : ∀ b, kd b = 12 → ∀ j, j ≠ 6 → j ≠ 7 → j ≠ 8 → fldI (f_165 b) j = fldI (f b) j := fun b kb j n6 n7 n8 => (hfa_168 b kb j n7 n8).trans (hfA12 b kb j n6 n7 n8)
          have hT0 : frel kd 576 8 f_165 a_2 := hT0.keep (fun b q => hkc_166 b (by rw [q]; decide))
          obtain ⟨v_170, v_171, hfo_172, fa_173⟩ := op12_7_8 hfo_82 (hG _ mo0) ko0 (hra_167 o0 ko0) (hfa_168 o0 ko0)
          have bv_170 : ((-2147483648) ≤ v_170.toInt ∧ v_170.toInt ≤ 2147483647) := ⟨i32_lo _, i32_hi _⟩
          have bv_171 : ((-2147483648) ≤ v_171.toInt ∧ v_171.toInt ≤ 2147483647) := ⟨i32_lo _, i32_hi _⟩
          exact W.zret (v := x_164) (ty := .boolean) hx hb hr (zb_n (by constructor <;> omega)) (fun t ht hW => ⟨⟨x_164, f_165, rfl, ⟨hG, (by constructor <;> omega), hfr0, hrA12, hfA12, (by intro w6 z6 e6 d6; rw [hfo_57] at e6; rw [hfo_172] at d6; obtain rfl := Option.some.inj e6; obtain rfl := Option.some.inj d6; omega), (fun d9 h9 => by rw [hfo_172] at h9; obtain rfl := Option.some.inj h9; exact hT0)⟩, by rw [ht]; exact hP, va_K.moved hW.alike hK, pl_in hD⟩, hS.F ht⟩) hS.2.2 dX12_letters_36
      · skip
        rw [← Int32.toInt_inj, ti_0] at c_73
        refine lv_aload_n hx hb dX12_letters_6 rfl (lv_at hl 1 rfl) ?_
        refine tk_ViP (As := []) (rest := []) (n := 0) hx hb hml hown hU hN hZ (s_X12_sign_k12 l (dC, dI) cI cL cZ cR cG cH Z kd L f_67 hG o0 mo0 ko0) wd_573 wd_574 wd_575 wd_5 wd_576 (by decide +kernel) ⟨Nat.le_of_ble_eq_true rfl, Nat.le_of_ble_eq_true rfl⟩ hK hP hD hS mo0 hfo_71 12 rfl rfl rfl hl.1 rfl (Nat.le_of_ble_eq_true rfl) dX12_letters_7 ⟨Nat.le_of_ble_eq_true rfl, Nat.le_of_ble_eq_true rfl⟩ (fun x_174 f_175 H locs hw hP hD hS => ?_)
        obtain ⟨hG, bx_174, hkc_176, hra_177, hfa_178, hpost_179⟩ := hw
        have hfr0 : ∀ b, kd b ≠ 12 → kd b ≠ 576 → f_175 b = f b := fun b q12 q576 => (hkc_176 b q12).trans (hfr0 b q12 q576)
        have hrA12 : ∀ b, kd b = 12 → ∀ j, fldR (f_175 b) j = fldR (f b) j := fun b kb j => (hra_177 b kb j).trans (hrA12 b kb j)
        have hfA12 : ∀ b, kd b = 12 → ∀ j, j ≠ 6 → j ≠ 7 → j ≠ 8 → fldI (f_175 b) j = fldI (f b) j := fun b kb j n6 n7 n8 => (hfa_178 b kb j n6).trans (hfA12 b kb j n6 n7 n8)
        have hT0 : frel kd 576 8 f_175 a_2 := hT0.keep (fun b q => hkc_176 b (by rw [q]; decide))
        obtain ⟨v_181, hfo_182, fa_183⟩ := op12_6 hfo_71 (hG _ mo0) ko0 (hra_177 o0 ko0) (hfa_178 o0 ko0)
        have bv_181 : (0 ≤ v_181.toInt ∧ v_181.toInt ≤ 600) := fa12_6 fa_183
        have hqhpost_179 := hpost_179 v_68 v_181 (by rw [hfo_71]; rfl) (by rw [hfo_182]; rfl)
        refine lv_bipush (v := 59) hx hb dX12_letters_10 (by decide) ?_
        refine lv_icmp_eq (tgt := 153) hx hb dX12_letters_12 (by decide) (fun c_184 => ?_) (fun c_184 => ?_)
        · skip
          rw [← Int32.toInt_inj, ti_59] at c_184
          refine lv_iconst (v := 1) hx hb dX12_letters_153 (by decide) ?_
          exact W.zret (v := 1) (ty := .boolean) hx hb hr rfl (fun t ht hW => ⟨⟨1, f_175, rfl, ⟨hG, (by decide), hfr0, hrA12, hfA12, (by intro w6 z6 e6 d6; rw [hfo_57] at e6; rw [hfo_182] at d6; obtain rfl := Option.some.inj e6; obtain rfl := Option.some.inj d6; (try rw [ti_1]) <;> omega), (fun d9 h9 => by rw [hfo_182] at h9; obtain rfl := Option.some.inj h9; exact hT0)⟩, by rw [ht]; exact hP, va_K.moved hW.alike hK, pl_in hD⟩, hS.F ht⟩) hS.2.2 dX12_letters_154
        · skip
          rw [← Int32.toInt_inj, ti_59] at c_184
          refine lv_aload_n hx hb dX12_letters_15 rfl (lv_at hl 1 rfl) ?_
          refine tk_ViP (As := []) (rest := []) (n := 0) hx hb hml hown hU hN hZ (s_X12_sign_k12 l (dC, dI) cI cL cZ cR cG cH Z kd L f_175 hG o0 mo0 ko0) wd_573 wd_574 wd_575 wd_5 wd_576 (by decide +kernel) ⟨Nat.le_of_ble_eq_true rfl, Nat.le_of_ble_eq_true rfl⟩ hK hP hD hS mo0 hfo_182 12 rfl rfl rfl hl.1 rfl (Nat.le_of_ble_eq_true rfl) dX12_letters_16 ⟨Nat.le_of_ble_eq_true rfl, Nat.le_of_ble_eq_true rfl⟩ (fun x_185 f_186 H locs hw hP hD hS => ?_)
          obtain ⟨hG, bx_185, hkc_187, hra_188, hfa_189, hpost_190⟩ := hw
          have hfr0 : ∀ b, kd b ≠ 12 → kd b ≠ 576 → f_186 b = f b := fun b q12 q576 => (hkc_187 b q12).trans (hfr0 b q12 q576)
          have hrA12 : ∀ b, kd b = 12 → ∀ j, fldR (f_186 b) j = fldR (f b) j := fun b kb j => (hra_188 b kb j).trans (hrA12 b kb j)
          have hfA12 : ∀ b, kd b = 12 → ∀ j, j ≠ 6 → j ≠ 7 → j ≠ 8 → fldI (f_186 b) j = fldI (f b) j := fun b kb j n6 n7 n8 => (hfa_189 b kb j n6).trans (hfA12 b kb j n6 n7 n8)
          have hT0 : frel kd 576 8 f_186 a_2 := hT0.keep (fun b q => hkc_187 b (by rw [q]; decide))
          obtain ⟨v_192, hfo_193, fa_194⟩ := op12_6 hfo_182 (hG _ mo0) ko0 (hra_188 o0 ko0) (hfa_189 o0 ko0)
          have bv_192 : (0 ≤ v_192.toInt ∧ v_192.toInt ≤ 600) := fa12_6 fa_194
          have hqhpost_190 := hpost_190 v_181 v_192 (by rw [hfo_182]; rfl) (by rw [hfo_193]; rfl)
          refine lv_istore_n (lv' := [(2, .int x_185), (1, .int y_65), (0, .ref o0)]) hx hb dX12_letters_19 rfl hl (by decide) rfl (fun ls hl => ?_)
          refine lv_iload_n hx hb dX12_letters_20 rfl (lv_at hl 0 rfl) ?_
          refine tk_SiP (As := [.int x_185]) (rest := []) (n := 1) hx hb hml hown hU hN hZ (s_X12_isSmall l (dC, dI) cI cL cZ cR cG cH Z kd L f_186 hG x_185) wd_589 wd_590 wd_5 wd_591 (by decide +kernel) ⟨Nat.le_of_ble_eq_true rfl, Nat.le_of_ble_eq_true rfl⟩ hK hP hD hS rfl hl.1 rfl (Nat.le_of_ble_eq_true rfl) dX12_letters_21 ⟨Nat.le_of_ble_eq_true rfl, Nat.le_of_ble_eq_true rfl⟩ (fun x_195 f_196 H locs hw hP hD hS => ?_)
          obtain ⟨rfl, bx_195, relx_195⟩ := hw
          refine lv_if_ne (tgt := 37) hx hb dX12_letters_24 (by decide) (fun c_198 => ?_) (fun c_198 => ?_)
          · skip
            rw [← Int32.toInt_inj, ti_0] at c_198
            refine lv_aload_n hx hb dX12_letters_37 rfl (lv_at hl 2 rfl) ?_
            refine tk_getP (D := (dC, dI)) (ci := 12) (v := .ref a_2) (C := RX12) (T := TX12) (N := 56) hx hb hU inlX12 hown hK hP mo0 hfo_193 rfl 1 (by decide) (hU _ wd_170) (fun _ h9 => h9) rfl dX12_letters_38 ?_
            refine lv_iload_n hx hb dX12_letters_41 rfl (lv_at hl 0 rfl) ?_
            refine tk_SiP (As := [.ref a_2, .int x_185]) (rest := []) (n := 2) hx hb hml hown hU hN hZ (s_X12_letterIn_a576 l (dC, dI) cI cL cZ cR cG cH Z kd L f_186 hG a_2 ma_2 ka_2 x_185) wd_606 wd_607 wd_5 wd_608 (by decide +kernel) ⟨Nat.le_of_ble_eq_true rfl, Nat.le_of_ble_eq_true rfl⟩ hK hP hD hS rfl hl.1 rfl (Nat.le_of_ble_eq_true rfl) dX12_letters_42 ⟨Nat.le_of_ble_eq_true rfl, Nat.le_of_ble_eq_true rfl⟩ (fun x_199 f_200 H locs hw hP hD hS => ?_)
            obtain ⟨rfl, bx_199, hxp_201⟩ := hw
            obtain ⟨g_204, hfo_203, hbg_204⟩ := un_576 (hG _ ma_2) ka_2
            have hlix_199 := hxp_201 g_204 hfo_203
            refine lv_if_le (tgt := 58) hx hb dX12_letters_45 (by decide) (fun c_205 => ?_) (fun c_205 => ?_)
            · skip
              rw [Int32.le_iff_toInt_le, ti_0] at c_205
              refine lv_aload_n hx hb dX12_letters_58 rfl (lv_at hl 2 rfl) ?_
              refine tk_getP (D := (dC, dI)) (ci := 12) (v := .ref a_2) (C := RX12) (T := TX12) (N := 56) hx hb hU inlX12 hown hK hP mo0 hfo_193 rfl 1 (by decide) (hU _ wd_170) (fun _ h9 => h9) rfl dX12_letters_59 ?_
              refine lv_iconst (v := 0) hx hb dX12_letters_62 (by decide) ?_
              refine tk_ildP hx hb hK hP 0 ma_2 hfo_203 rfl (vp_in_nI (n := 0) (by decide) (by decide)) dX12_letters_63 ?_
              refine lv_topi (fun x_206 ex_206 => ?_)
              have bx_206 : (0 ≤ x_206.toInt ∧ x_206.toInt ≤ 8) := by rw [ex_206]; exact hbg_204.1 _ (by decide) (by decide) (by decide)
              refine lv_bipush (v := 8) hx hb dX12_letters_64 (by decide) ?_
              refine lv_icmp_ne (tgt := 79) hx hb dX12_letters_66 (by decide) (fun c_207 => ?_) (fun c_207 => ?_)
              · skip
                rw [← Int32.toInt_inj, ti_8] at c_207
                have hF0 := hT0.get hfo_203
                obtain ⟨x_208, ex_208⟩ : ∃ y : Int32, y = g_204 (Int32.toNatClampNeg 16) := ⟨_, rfl⟩
                have bx_208 : (0 ≤ x_208.toInt ∧ x_208.toInt ≤ 20) := by rw [ex_208]; exact hbg_204.2.1 _ (by decide) (by decide) (by decide)
                have hgx_208 : x_208.toInt = (g_204 16).toInt := by rw [ex_208]; rfl
                have hglx_206 : x_206.toInt = (g_204 0).toInt := by rw [ex_206]; rfl
                have hnrc_209 : (0 ≤ x_208.toInt ∧ x_208.toInt ≤ 19) := by have hq1 := hF0.1; have hq2 := hF0.2.1; constructor <;> omega
                refine lv_aload_n hx hb dX12_letters_79 rfl (lv_at hl 2 rfl) ?_
                refine tk_getP (D := (dC, dI)) (ci := 12) (v := .ref a_2) (C := RX12) (T := TX12) (N := 56) hx hb hU inlX12 hown hK hP mo0 hfo_193 rfl 1 (by decide) (hU _ wd_170) (fun _ h9 => h9) rfl dX12_letters_80 ?_
                refine lv_iconst (v := 1) hx hb dX12_letters_83 (by decide) ?_
                refine lv_aload_n hx hb dX12_letters_84 rfl (lv_at hl 2 rfl) ?_
                refine tk_getP (D := (dC, dI)) (ci := 12) (v := .ref a_2) (C := RX12) (T := TX12) (N := 56) hx hb hU inlX12 hown hK hP mo0 hfo_193 rfl 1 (by decide) (hU _ wd_170) (fun _ h9 => h9) rfl dX12_letters_85 ?_
                refine lv_iconst (v := 0) hx hb dX12_letters_88 (by decide) ?_
                refine tk_ildP hx hb hK hP 0 ma_2 hfo_203 rfl (vp_in_nI (n := 0) (by decide) (by decide)) dX12_letters_89 ?_
                refine tk_topi (y := x_206) ex_206.symm ?_
                refine lv_iadd hx hb dX12_letters_90 ?_
                refine lv_topi (fun x_210 ex_210 => ?_)
                have hx_210 : x_210.toInt = 1 + x_206.toInt := by rw [ex_210, ad_I (by rw [ti_1]; omega) (by rw [ti_1]; omega), ti_1]
                have bx_210 : (1 ≤ x_210.toInt ∧ x_210.toInt ≤ 8) := by constructor <;> omega
                refine lv_iload_n hx hb dX12_letters_91 rfl (lv_at hl 0 rfl) ?_
                refine tk_istP hx hb hK hP hD hS 0 ma_2 hfo_203 rfl (vp_in_iff.mpr (by constructor <;> omega)) dX12_letters_92 (fun H locs hP hD hS => ?_)
                have hc9 := cl_I (i := x_210) (by omega)
                obtain ⟨g_211, eqg_211⟩ : ∃ y : Nat → Int32, y = upd g_204 (Int32.toNatClampNeg x_210) x_185 := ⟨_, rfl⟩
                rw [← eqg_211] at hP hD
                have hbg_211 : wOK g_211 := by rw [eqg_211]; exact ⟨hbg_204.1.up (fun h1 h2 h3 => by exfalso; omega), hbg_204.2.1.up (fun h1 h2 h3 => by exfalso; omega), hbg_204.2.2.1.up (fun h1 h2 h3 => by exfalso; omega), hbg_204.2.2.2.1.up (fun h1 h2 h3 => by exfalso; omega), hbg_204.2.2.2.2.1.up (fun h1 h2 h3 => by exfalso; omega), hbg_204.2.2.2.2.2.1.up (fun h1 h2 h3 => by exfalso; omega), hbg_204.2.2.2.2.2.2.1.up (fun h1 h2 h3 => by exfalso; omega), hbg_204.2.2.2.2.2.2.2.1.up (fun h1 h2 h3 => by exfalso; omega), hbg_204.2.2.2.2.2.2.2.2.1.up (fun h1 h2 h3 => by exfalso; omega), hbg_204.2.2.2.2.2.2.2.2.2.1.up (fun h1 h2 h3 => by exfalso; omega), hbg_204.2.2.2.2.2.2.2.2.2.2.1.up (fun h1 h2 h3 => by exfalso; omega), hbg_204.2.2.2.2.2.2.2.2.2.2.2.1.up (fun h1 h2 h3 => by exfalso; omega), hbg_204.2.2.2.2.2.2.2.2.2.2.2.2.1.up (fun h1 h2 h3 => by exfalso; omega), hbg_204.2.2.2.2.2.2.2.2.2.2.2.2.2.1.up (fun h1 h2 h3 => by exfalso; omega), hbg_204.2.2.2.2.2.2.2.2.2.2.2.2.2.2.1.up (fun h1 h2 h3 => by exfalso; omega), hbg_204.2.2.2.2.2.2.2.2.2.2.2.2.2.2.2.up (fun h1 h2 h3 => by exfalso; omega)⟩
                obtain ⟨f_213, ef_213⟩ : ∃ y : Nat → va_E, y = va_up f_186 a_2 (.inl (cI, 1560, .inl g_211)) := ⟨_, rfl⟩
                have hP : va_P (dC, dI) vwCl (va_pl L f_213) H := by rw [ef_213]; exact hP
                have hD : va_D (fun q => q ∈ L) (va_pl L f_213) := by rw [ef_213]; exact hD
                have hG : GI (okc cI cL cZ cR cG cH L kd) kd L f_213 := by rw [ef_213]; exact hG.set a_2 (mk_576 ka_2 ⟨_, rfl, hbg_211⟩)
                have hfo_214 : f_213 o0 = .inr (12, [.ref a_1, .ref a_2, .ref a_3, .int v_4, .ref a_5, .int v_6, .int v_192, .int v_69, .int v_70, .int v_10, .int v_11, .int v_12, .int v_13, .int v_14, .int v_15, .ref a_16, .ref a_17, .ref a_18, .ref a_19, .ref a_20, .ref a_21, .ref a_22, .ref a_23, .int v_24, .int v_25, .int v_26, .int v_27, .int v_28, .ref a_29, .int v_30, .ref a_31, .ref a_32, .int v_33, .int v_34, .ref a_35, .int v_36, .ref a_37, .ref a_38, .int v_39, .int v_40, .ref a_41, .ref a_42, .ref a_43, .int v_44, .ref a_45, .ref a_46, .ref a_47, .ref a_48, .ref a_49, .ref a_50, .ref a_51, .ref a_52, .ref a_53, .int v_54, .int v_55, .ref a_56]) := by rw [ef_213, up_ne (kd_ne ka_2 ko0 (by decide))]; exact hfo_193
                have hfr0 : ∀ b, kd b ≠ 12 → kd b ≠ 576 → f_213 b = f b := fun b q12 q576 => (congrFun ef_213 b).trans ((up_ne (fun e9 => q576 (by rw [e9]; exact ka_2))).trans (hfr0 b q12 q576))
                have hrA12 : ∀ b, kd b = 12 → ∀ j, fldR (f_213 b) j = fldR (f b) j := fun b kb j => (congrArg (fun x => fldR x j) ((congrFun ef_213 b).trans (up_ne (kd_ne ka_2 kb (by decide))))).trans (hrA12 b kb j)
                have hfA12 : ∀ b, kd b = 12 → ∀ j, j ≠ 6 → j ≠ 7 → j ≠ 8 → fldI (f_213 b) j = fldI (f b) j := fun b kb j n6 n7 n8 => (congrArg (fun x => fldI x j) ((congrFun ef_213 b).trans (up_ne (kd_ne ka_2 kb (by decide))))).trans (hfA12 b kb j n6 n7 n8)
                have hT0 : frel kd 576 8 f_213 a_2 := by rw [ef_213]; exact frel.mk ka_2 up_self (by rw [eqg_211]; exact (hT0.get hfo_203).up (hbg_204.2.1 16 (by decide) (by decide) (by decide)).2 (by omega) (by omega) (by omega) (fun h9 => by exfalso; omega))
                have hfo_215 : f_213 a_2 = .inl (cI, 1560, .inl g_211) := by rw [ef_213]; exact up_self
                have ql_216 : x_206 = g_211 (Int32.toNatClampNeg 0) := by rw [eqg_211, pk_un (by have hc8 : Int32.toNatClampNeg 0 = 0 := rfl; omega)]; exact ex_206
                have ql_217 : x_208 = g_211 (Int32.toNatClampNeg 16) := by rw [eqg_211, pk_un (by have hc8 : Int32.toNatClampNeg 16 = 16 := rfl; omega)]; exact ex_208
                have ql_218 : x_185 = g_211 (Int32.toNatClampNeg x_210) := by rw [eqg_211, pk_us]
                refine lv_aload_n hx hb dX12_letters_93 rfl (lv_at hl 2 rfl) ?_
                refine tk_getP (D := (dC, dI)) (ci := 12) (v := .ref a_2) (C := RX12) (T := TX12) (N := 56) hx hb hU inlX12 hown hK hP mo0 hfo_214 rfl 1 (by decide) (hU _ wd_170) (fun _ h9 => h9) rfl dX12_letters_94 ?_
                refine lv_iconst (v := 0) hx hb dX12_letters_97 (by decide) ?_
                refine lv_dup2_11 hx hb dX12_letters_98 rfl rfl ?_
                refine tk_ildP hx hb hK hP 0 ma_2 hfo_215 rfl (vp_in_nI (n := 0) (by decide) (by decide)) dX12_letters_99 ?_
                refine tk_topi (y := x_206) ql_216.symm ?_
                refine lv_iconst (v := 1) hx hb dX12_letters_100 (by decide) ?_
                refine lv_iadd hx hb dX12_letters_101 ?_
                refine lv_topi (fun x_219 ex_219 => ?_)
                have hx_219 : x_219.toInt = x_206.toInt + 1 := by rw [ex_219, ad_I (by rw [ti_1]; omega) (by rw [ti_1]; omega), ti_1]
                have bx_219 : (1 ≤ x_219.toInt ∧ x_219.toInt ≤ 8) := by constructor <;> omega
                refine tk_istP hx hb hK hP hD hS 0 ma_2 hfo_215 rfl (vp_in_nI (n := 0) (by decide) (by decide)) dX12_letters_102 (fun H locs hP hD hS => ?_)
                have hc9 : ((Int32.toNatClampNeg 0 : Nat) : Int) = 0 := by decide
                obtain ⟨g_220, eqg_220⟩ : ∃ y : Nat → Int32, y = upd g_211 (Int32.toNatClampNeg 0) x_219 := ⟨_, rfl⟩
                rw [← eqg_220] at hP hD
                have hbg_220 : wOK g_220 := by rw [eqg_220]; exact ⟨hbg_211.1.up (fun h1 h2 h3 => by constructor <;> omega), hbg_211.2.1.up (fun h1 h2 h3 => by exfalso; omega), hbg_211.2.2.1.up (fun h1 h2 h3 => by exfalso; omega), hbg_211.2.2.2.1.up (fun h1 h2 h3 => by exfalso; omega), hbg_211.2.2.2.2.1.up (fun h1 h2 h3 => by exfalso; omega), hbg_211.2.2.2.2.2.1.up (fun h1 h2 h3 => by exfalso; omega), hbg_211.2.2.2.2.2.2.1.up (fun h1 h2 h3 => by exfalso; omega), hbg_211.2.2.2.2.2.2.2.1.up (fun h1 h2 h3 => by exfalso; omega), hbg_211.2.2.2.2.2.2.2.2.1.up (fun h1 h2 h3 => by exfalso; omega), hbg_211.2.2.2.2.2.2.2.2.2.1.up (fun h1 h2 h3 => by exfalso; omega), hbg_211.2.2.2.2.2.2.2.2.2.2.1.up (fun h1 h2 h3 => by exfalso; omega), hbg_211.2.2.2.2.2.2.2.2.2.2.2.1.up (fun h1 h2 h3 => by exfalso; omega), hbg_211.2.2.2.2.2.2.2.2.2.2.2.2.1.up (fun h1 h2 h3 => by exfalso; omega), hbg_211.2.2.2.2.2.2.2.2.2.2.2.2.2.1.up (fun h1 h2 h3 => by exfalso; omega), hbg_211.2.2.2.2.2.2.2.2.2.2.2.2.2.2.1.up (fun h1 h2 h3 => by exfalso; omega), hbg_211.2.2.2.2.2.2.2.2.2.2.2.2.2.2.2.up (fun h1 h2 h3 => by exfalso; omega)⟩
                obtain ⟨f_222, ef_222⟩ : ∃ y : Nat → va_E, y = va_up f_213 a_2 (.inl (cI, 1560, .inl g_220)) := ⟨_, rfl⟩
                have hP : va_P (dC, dI) vwCl (va_pl L f_222) H := by rw [ef_222]; exact hP
                have hD : va_D (fun q => q ∈ L) (va_pl L f_222) := by rw [ef_222]; exact hD
                have hG : GI (okc cI cL cZ cR cG cH L kd) kd L f_222 := by rw [ef_222]; exact hG.set a_2 (mk_576 ka_2 ⟨_, rfl, hbg_220⟩)
                have hfo_223 : f_222 o0 = .inr (12, [.ref a_1, .ref a_2, .ref a_3, .int v_4, .ref a_5, .int v_6, .int v_192, .int v_69, .int v_70, .int v_10, .int v_11, .int v_12, .int v_13, .int v_14, .int v_15, .ref a_16, .ref a_17, .ref a_18, .ref a_19, .ref a_20, .ref a_21, .ref a_22, .ref a_23, .int v_24, .int v_25, .int v_26, .int v_27, .int v_28, .ref a_29, .int v_30, .ref a_31, .ref a_32, .int v_33, .int v_34, .ref a_35, .int v_36, .ref a_37, .ref a_38, .int v_39, .int v_40, .ref a_41, .ref a_42, .ref a_43, .int v_44, .ref a_45, .ref a_46, .ref a_47, .ref a_48, .ref a_49, .ref a_50, .ref a_51, .ref a_52, .ref a_53, .int v_54, .int v_55, .ref a_56]) := by rw [ef_222, up_ne (kd_ne ka_2 ko0 (by decide))]; exact hfo_214
                have hfr0 : ∀ b, kd b ≠ 12 → kd b ≠ 576 → f_222 b = f b := fun b q12 q576 => (congrFun ef_222 b).trans ((up_ne (fun e9 => q576 (by rw [e9]; exact ka_2))).trans (hfr0 b q12 q576))
                have hrA12 : ∀ b, kd b = 12 → ∀ j, fldR (f_222 b) j = fldR (f b) j := fun b kb j => (congrArg (fun x => fldR x j) ((congrFun ef_222 b).trans (up_ne (kd_ne ka_2 kb (by decide))))).trans (hrA12 b kb j)
                have hfA12 : ∀ b, kd b = 12 → ∀ j, j ≠ 6 → j ≠ 7 → j ≠ 8 → fldI (f_222 b) j = fldI (f b) j := fun b kb j n6 n7 n8 => (congrArg (fun x => fldI x j) ((congrFun ef_222 b).trans (up_ne (kd_ne ka_2 kb (by decide))))).trans (hfA12 b kb j n6 n7 n8)
                have hfo_224 : f_222 a_2 = .inl (cI, 1560, .inl g_220) := by rw [ef_222]; exact up_self
                have ql_225 : x_208 = g_220 (Int32.toNatClampNeg 16) := by rw [eqg_220, pk_un (by decide)]; exact ql_217
                have ql_226 : x_219 = g_220 (Int32.toNatClampNeg 0) := by rw [eqg_220, pk_us]
                refine lv_aload_n hx hb dX12_letters_103 rfl (lv_at hl 2 rfl) ?_
                refine tk_getP (D := (dC, dI)) (ci := 12) (v := .ref a_2) (C := RX12) (T := TX12) (N := 56) hx hb hU inlX12 hown hK hP mo0 hfo_223 rfl 1 (by decide) (hU _ wd_170) (fun _ h9 => h9) rfl dX12_letters_104 ?_
                refine lv_bipush (v := 20) hx hb dX12_letters_107 (by decide) ?_
                refine lv_aload_n hx hb dX12_letters_109 rfl (lv_at hl 2 rfl) ?_
                refine tk_getP (D := (dC, dI)) (ci := 12) (v := .ref a_2) (C := RX12) (T := TX12) (N := 56) hx hb hU inlX12 hown hK hP mo0 hfo_223 rfl 1 (by decide) (hU _ wd_170) (fun _ h9 => h9) rfl dX12_letters_110 ?_
                refine lv_bipush (v := 16) hx hb dX12_letters_113 (by decide) ?_
                refine tk_ildP hx hb hK hP 0 ma_2 hfo_224 rfl (vp_in_nI (n := 16) (by decide) (by decide)) dX12_letters_115 ?_
                refine tk_topi (y := x_208) ql_225.symm ?_
                refine lv_iadd hx hb dX12_letters_116 ?_
                refine lv_topi (fun x_227 ex_227 => ?_)
                have hx_227 : x_227.toInt = 20 + x_208.toInt := by rw [ex_227, ad_I (by rw [ti_20]; omega) (by rw [ti_20]; omega), ti_20]
                have bx_227 : (20 ≤ x_227.toInt ∧ x_227.toInt ≤ 39) := by constructor <;> omega
                refine lv_bipush (v := 10) hx hb dX12_letters_117 (by decide) ?_
                refine lv_aload_n hx hb dX12_letters_119 rfl (lv_at hl 2 rfl) ?_
                refine tk_getP (D := (dC, dI)) (ci := 12) (v := .ref a_2) (C := RX12) (T := TX12) (N := 56) hx hb hU inlX12 hown hK hP mo0 hfo_223 rfl 1 (by decide) (hU _ wd_170) (fun _ h9 => h9) rfl dX12_letters_120 ?_
                refine lv_iconst (v := 0) hx hb dX12_letters_123 (by decide) ?_
                refine tk_ildP hx hb hK hP 0 ma_2 hfo_224 rfl (vp_in_nI (n := 0) (by decide) (by decide)) dX12_letters_124 ?_
                refine tk_topi (y := x_219) ql_226.symm ?_
                refine lv_imul hx hb dX12_letters_125 ?_
                refine lv_topi (fun x_228 ex_228 => ?_)
                have hx_228 : x_228.toInt = 10 * x_219.toInt := by rw [ex_228, ml_I (by rw [ti_10]; omega) (by rw [ti_10]; omega), ti_10]
                have bx_228 : (10 ≤ x_228.toInt ∧ x_228.toInt ≤ 80) := by constructor <;> omega
                refine tk_istP hx hb hK hP hD hS 0 ma_2 hfo_224 rfl (vp_in_iff.mpr (by constructor <;> omega)) dX12_letters_126 (fun H locs hP hD hS => ?_)
                have hc9 := cl_I (i := x_227) (by omega)
                obtain ⟨g_229, eqg_229⟩ : ∃ y : Nat → Int32, y = upd g_220 (Int32.toNatClampNeg x_227) x_228 := ⟨_, rfl⟩
                rw [← eqg_229] at hP hD
                have hbg_229 : wOK g_229 := by rw [eqg_229]; exact ⟨hbg_220.1.up (fun h1 h2 h3 => by exfalso; omega), hbg_220.2.1.up (fun h1 h2 h3 => by exfalso; omega), hbg_220.2.2.1.up (fun h1 h2 h3 => by exfalso; omega), hbg_220.2.2.2.1.up (fun h1 h2 h3 => by exfalso; omega), hbg_220.2.2.2.2.1.up (fun h1 h2 h3 => by exfalso; omega), hbg_220.2.2.2.2.2.1.up (fun h1 h2 h3 => by constructor <;> omega), hbg_220.2.2.2.2.2.2.1.up (fun h1 h2 h3 => by exfalso; omega), hbg_220.2.2.2.2.2.2.2.1.up (fun h1 h2 h3 => by exfalso; omega), hbg_220.2.2.2.2.2.2.2.2.1.up (fun h1 h2 h3 => by exfalso; omega), hbg_220.2.2.2.2.2.2.2.2.2.1.up (fun h1 h2 h3 => by exfalso; omega), hbg_220.2.2.2.2.2.2.2.2.2.2.1.up (fun h1 h2 h3 => by exfalso; omega), hbg_220.2.2.2.2.2.2.2.2.2.2.2.1.up (fun h1 h2 h3 => by exfalso; omega), hbg_220.2.2.2.2.2.2.2.2.2.2.2.2.1.up (fun h1 h2 h3 => by exfalso; omega), hbg_220.2.2.2.2.2.2.2.2.2.2.2.2.2.1.up (fun h1 h2 h3 => by exfalso; omega), hbg_220.2.2.2.2.2.2.2.2.2.2.2.2.2.2.1.up (fun h1 h2 h3 => by exfalso; omega), hbg_220.2.2.2.2.2.2.2.2.2.2.2.2.2.2.2.up (fun h1 h2 h3 => by exfalso; omega)⟩
                obtain ⟨f_231, ef_231⟩ : ∃ y : Nat → va_E, y = va_up f_222 a_2 (.inl (cI, 1560, .inl g_229)) := ⟨_, rfl⟩
                have hP : va_P (dC, dI) vwCl (va_pl L f_231) H := by rw [ef_231]; exact hP
                have hD : va_D (fun q => q ∈ L) (va_pl L f_231) := by rw [ef_231]; exact hD
                have hG : GI (okc cI cL cZ cR cG cH L kd) kd L f_231 := by rw [ef_231]; exact hG.set a_2 (mk_576 ka_2 ⟨_, rfl, hbg_229⟩)
                have hfo_232 : f_231 o0 = .inr (12, [.ref a_1, .ref a_2, .ref a_3, .int v_4, .ref a_5, .int v_6, .int v_192, .int v_69, .int v_70, .int v_10, .int v_11, .int v_12, .int v_13, .int v_14, .int v_15, .ref a_16, .ref a_17, .ref a_18, .ref a_19, .ref a_20, .ref a_21, .ref a_22, .ref a_23, .int v_24, .int v_25, .int v_26, .int v_27, .int v_28, .ref a_29, .int v_30, .ref a_31, .ref a_32, .int v_33, .int v_34, .ref a_35, .int v_36, .ref a_37, .ref a_38, .int v_39, .int v_40, .ref a_41, .ref a_42, .ref a_43, .int v_44, .ref a_45, .ref a_46, .ref a_47, .ref a_48, .ref a_49, .ref a_50, .ref a_51, .ref a_52, .ref a_53, .int v_54, .int v_55, .ref a_56]) := by rw [ef_231, up_ne (kd_ne ka_2 ko0 (by decide))]; exact hfo_223
                have hfr0 : ∀ b, kd b ≠ 12 → kd b ≠ 576 → f_231 b = f b := fun b q12 q576 => (congrFun ef_231 b).trans ((up_ne (fun e9 => q576 (by rw [e9]; exact ka_2))).trans (hfr0 b q12 q576))
                have hrA12 : ∀ b, kd b = 12 → ∀ j, fldR (f_231 b) j = fldR (f b) j := fun b kb j => (congrArg (fun x => fldR x j) ((congrFun ef_231 b).trans (up_ne (kd_ne ka_2 kb (by decide))))).trans (hrA12 b kb j)
                have hfA12 : ∀ b, kd b = 12 → ∀ j, j ≠ 6 → j ≠ 7 → j ≠ 8 → fldI (f_231 b) j = fldI (f b) j := fun b kb j n6 n7 n8 => (congrArg (fun x => fldI x j) ((congrFun ef_231 b).trans (up_ne (kd_ne ka_2 kb (by decide))))).trans (hfA12 b kb j n6 n7 n8)
                have hfo_233 : f_231 a_2 = .inl (cI, 1560, .inl g_229) := by rw [ef_231]; exact up_self
                have ql_234 : x_208 = g_229 (Int32.toNatClampNeg 16) := by rw [eqg_229, pk_un (by have hc8 : Int32.toNatClampNeg 16 = 16 := rfl; omega)]; exact ql_225
                have ql_235 : x_219 = g_229 (Int32.toNatClampNeg 0) := by rw [eqg_229, pk_un (by have hc8 : Int32.toNatClampNeg 0 = 0 := rfl; omega)]; exact ql_226
                have ql_236 : x_228 = g_229 (Int32.toNatClampNeg x_227) := by rw [eqg_229, pk_us]
                refine lv_aload_n hx hb dX12_letters_127 rfl (lv_at hl 2 rfl) ?_
                refine tk_getP (D := (dC, dI)) (ci := 12) (v := .ref a_2) (C := RX12) (T := TX12) (N := 56) hx hb hU inlX12 hown hK hP mo0 hfo_232 rfl 1 (by decide) (hU _ wd_170) (fun _ h9 => h9) rfl dX12_letters_128 ?_
                refine lv_bipush (v := 16) hx hb dX12_letters_131 (by decide) ?_
                refine lv_dup2_11 hx hb dX12_letters_133 rfl rfl ?_
                refine tk_ildP hx hb hK hP 0 ma_2 hfo_233 rfl (vp_in_nI (n := 16) (by decide) (by decide)) dX12_letters_134 ?_
                refine tk_topi (y := x_208) ql_234.symm ?_
                refine lv_iconst (v := 1) hx hb dX12_letters_135 (by decide) ?_
                refine lv_iadd hx hb dX12_letters_136 ?_
                refine lv_topi (fun x_237 ex_237 => ?_)
                have hx_237 : x_237.toInt = x_208.toInt + 1 := by rw [ex_237, ad_I (by rw [ti_1]; omega) (by rw [ti_1]; omega), ti_1]
                have bx_237 : (1 ≤ x_237.toInt ∧ x_237.toInt ≤ 20) := by constructor <;> omega
                refine tk_istP hx hb hK hP hD hS 0 ma_2 hfo_233 rfl (vp_in_nI (n := 16) (by decide) (by decide)) dX12_letters_137 (fun H locs hP hD hS => ?_)
                have hc9 : ((Int32.toNatClampNeg 16 : Nat) : Int) = 16 := by decide
                obtain ⟨g_238, eqg_238⟩ : ∃ y : Nat → Int32, y = upd g_229 (Int32.toNatClampNeg 16) x_237 := ⟨_, rfl⟩
                rw [← eqg_238] at hP hD
                have hbg_238 : wOK g_238 := by rw [eqg_238]; exact ⟨hbg_229.1.up (fun h1 h2 h3 => by exfalso; omega), hbg_229.2.1.up (fun h1 h2 h3 => by constructor <;> omega), hbg_229.2.2.1.up (fun h1 h2 h3 => by exfalso; omega), hbg_229.2.2.2.1.up (fun h1 h2 h3 => by exfalso; omega), hbg_229.2.2.2.2.1.up (fun h1 h2 h3 => by exfalso; omega), hbg_229.2.2.2.2.2.1.up (fun h1 h2 h3 => by exfalso; omega), hbg_229.2.2.2.2.2.2.1.up (fun h1 h2 h3 => by exfalso; omega), hbg_229.2.2.2.2.2.2.2.1.up (fun h1 h2 h3 => by exfalso; omega), hbg_229.2.2.2.2.2.2.2.2.1.up (fun h1 h2 h3 => by exfalso; omega), hbg_229.2.2.2.2.2.2.2.2.2.1.up (fun h1 h2 h3 => by exfalso; omega), hbg_229.2.2.2.2.2.2.2.2.2.2.1.up (fun h1 h2 h3 => by exfalso; omega), hbg_229.2.2.2.2.2.2.2.2.2.2.2.1.up (fun h1 h2 h3 => by exfalso; omega), hbg_229.2.2.2.2.2.2.2.2.2.2.2.2.1.up (fun h1 h2 h3 => by exfalso; omega), hbg_229.2.2.2.2.2.2.2.2.2.2.2.2.2.1.up (fun h1 h2 h3 => by exfalso; omega), hbg_229.2.2.2.2.2.2.2.2.2.2.2.2.2.2.1.up (fun h1 h2 h3 => by exfalso; omega), hbg_229.2.2.2.2.2.2.2.2.2.2.2.2.2.2.2.up (fun h1 h2 h3 => by exfalso; omega)⟩
                obtain ⟨f_240, ef_240⟩ : ∃ y : Nat → va_E, y = va_up f_231 a_2 (.inl (cI, 1560, .inl g_238)) := ⟨_, rfl⟩
                have hP : va_P (dC, dI) vwCl (va_pl L f_240) H := by rw [ef_240]; exact hP
                have hD : va_D (fun q => q ∈ L) (va_pl L f_240) := by rw [ef_240]; exact hD
                have hG : GI (okc cI cL cZ cR cG cH L kd) kd L f_240 := by rw [ef_240]; exact hG.set a_2 (mk_576 ka_2 ⟨_, rfl, hbg_238⟩)
                have hfo_241 : f_240 o0 = .inr (12, [.ref a_1, .ref a_2, .ref a_3, .int v_4, .ref a_5, .int v_6, .int v_192, .int v_69, .int v_70, .int v_10, .int v_11, .int v_12, .int v_13, .int v_14, .int v_15, .ref a_16, .ref a_17, .ref a_18, .ref a_19, .ref a_20, .ref a_21, .ref a_22, .ref a_23, .int v_24, .int v_25, .int v_26, .int v_27, .int v_28, .ref a_29, .int v_30, .ref a_31, .ref a_32, .int v_33, .int v_34, .ref a_35, .int v_36, .ref a_37, .ref a_38, .int v_39, .int v_40, .ref a_41, .ref a_42, .ref a_43, .int v_44, .ref a_45, .ref a_46, .ref a_47, .ref a_48, .ref a_49, .ref a_50, .ref a_51, .ref a_52, .ref a_53, .int v_54, .int v_55, .ref a_56]) := by rw [ef_240, up_ne (kd_ne ka_2 ko0 (by decide))]; exact hfo_232
                have hfr0 : ∀ b, kd b ≠ 12 → kd b ≠ 576 → f_240 b = f b := fun b q12 q576 => (congrFun ef_240 b).trans ((up_ne (fun e9 => q576 (by rw [e9]; exact ka_2))).trans (hfr0 b q12 q576))
                have hrA12 : ∀ b, kd b = 12 → ∀ j, fldR (f_240 b) j = fldR (f b) j := fun b kb j => (congrArg (fun x => fldR x j) ((congrFun ef_240 b).trans (up_ne (kd_ne ka_2 kb (by decide))))).trans (hrA12 b kb j)
                have hfA12 : ∀ b, kd b = 12 → ∀ j, j ≠ 6 → j ≠ 7 → j ≠ 8 → fldI (f_240 b) j = fldI (f b) j := fun b kb j n6 n7 n8 => (congrArg (fun x => fldI x j) ((congrFun ef_240 b).trans (up_ne (kd_ne ka_2 kb (by decide))))).trans (hfA12 b kb j n6 n7 n8)
                have hfo_242 : f_240 a_2 = .inl (cI, 1560, .inl g_238) := by rw [ef_240]; exact up_self
                have ql_243 : x_219 = g_238 (Int32.toNatClampNeg 0) := by rw [eqg_238, pk_un (by decide)]; exact ql_235
                have ql_244 : x_237 = g_238 (Int32.toNatClampNeg 16) := by rw [eqg_238, pk_us]
                have hF4 : fOK 8 g_238 := by have hi1 := cl_I (i := x_210) (by omega); have hi3 := cl_I (i := x_227) (by omega); have hz16 : Int32.toNatClampNeg 16 = 16 := rfl; have hz0 : Int32.toNatClampNeg 0 = 0 := rfl; exact hF0.letter (by rw [eqg_238, pk_un (by omega), eqg_229, pk_un (by omega), eqg_220, hz0, pk_us]; omega) (by rw [eqg_238, hz16, pk_us]; omega) (by omega) (by constructor <;> omega) (fun k9 h9 => by rw [eqg_238, pk_un (by omega), eqg_229, show 20 + k9 = Int32.toNatClampNeg x_227 by omega, pk_us]; omega) (fun k9 h9 => by rw [eqg_238, pk_un (by omega), eqg_229, pk_un (by omega), eqg_220, pk_un (by omega), eqg_211, pk_un (by omega)]) (by rw [eqg_238, pk_un (by omega), eqg_229, pk_un (by omega), eqg_220, pk_un (by omega), eqg_211, pk_un (by omega)])
                have hTt_245 : frel kd 576 8 f_240 a_2 := frel.mk ka_2 hfo_242 hF4
                have hclc_246 : (0 ≤ v_192.toInt ∧ v_192.toInt ≤ 599) := by constructor <;> omega
                refine lv_aload_n hx hb dX12_letters_138 rfl (lv_at hl 2 rfl) ?_
                refine lv_dup hx hb dX12_letters_139 rfl ?_
                refine tk_getP (D := (dC, dI)) (ci := 12) (v := .int v_192) (C := RX12) (T := TX12) (N := 56) hx hb hU inlX12 hown hK hP mo0 hfo_241 rfl 6 (by decide) (hU _ wd_566) (fun _ h9 => h9) rfl dX12_letters_140 ?_
                refine lv_iconst (v := 1) hx hb dX12_letters_143 (by decide) ?_
                refine lv_iadd hx hb dX12_letters_144 ?_
                refine lv_topi (fun x_247 ex_247 => ?_)
                have hx_247 : x_247.toInt = v_192.toInt + 1 := by rw [ex_247, ad_I (by rw [ti_1]; omega) (by rw [ti_1]; omega), ti_1]
                have bx_247 : (1 ≤ x_247.toInt ∧ x_247.toInt ≤ 600) := by constructor <;> omega
                refine tk_putP (D := (dC, dI)) (ci := 12) (v := .int x_247) (ty := .int) (C := RX12) (T := TX12) (N := 56) hx hb hU inlX12 tyX12 tyX12_ok nmX12 hown hK hP hD hS mo0 hfo_241 rfl 6 (by decide) (hU _ wd_566) (fun _ h9 => h9) rfl (by decide +kernel) rfl rfl (Nat.le_of_ble_eq_true rfl) dX12_letters_145 (fun H locs hP hD hS => ?_)
                have fa_248 := fu12_6 (y := x_247) fa_194 (by constructor <;> omega)
                obtain ⟨f_250, ef_250⟩ : ∃ y : Nat → va_E, y = va_up f_240 o0 (.inr (12, [.ref a_1, .ref a_2, .ref a_3, .int v_4, .ref a_5, .int v_6, .int x_247, .int v_69, .int v_70, .int v_10, .int v_11, .int v_12, .int v_13, .int v_14, .int v_15, .ref a_16, .ref a_17, .ref a_18, .ref a_19, .ref a_20, .ref a_21, .ref a_22, .ref a_23, .int v_24, .int v_25, .int v_26, .int v_27, .int v_28, .ref a_29, .int v_30, .ref a_31, .ref a_32, .int v_33, .int v_34, .ref a_35, .int v_36, .ref a_37, .ref a_38, .int v_39, .int v_40, .ref a_41, .ref a_42, .ref a_43, .int v_44, .ref a_45, .ref a_46, .ref a_47, .ref a_48, .ref a_49, .ref a_50, .ref a_51, .ref a_52, .ref a_53, .int v_54, .int v_55, .ref a_56])) := ⟨_, rfl⟩
                have hP : va_P (dC, dI) vwCl (va_pl L f_250) H := by rw [ef_250]; exact hP
                have hD : va_D (fun q => q ∈ L) (va_pl L f_250) := by rw [ef_250]; exact hD
                have hG : GI (okc cI cL cZ cR cG cH L kd) kd L f_250 := by rw [ef_250]; exact hG.set o0 (mk_12 ko0 (fo12 fa_248))
                have hfo_251 : f_250 a_2 = .inl (cI, 1560, .inl g_238) := by rw [ef_250, up_ne (kd_ne ko0 ka_2 (by decide))]; exact hfo_242
                have hfr0 : ∀ b, kd b ≠ 12 → kd b ≠ 576 → f_250 b = f b := fun b q12 q576 => (congrFun ef_250 b).trans ((up_ne (fun e9 => q12 (by rw [e9]; exact ko0))).trans (hfr0 b q12 q576))
                have hrA12 : ∀ b, kd b = 12 → ∀ j, fldR (f_250 b) j = fldR (f b) j := fun b kb j => ((congrArg (fun x => fldR x j) (congrFun ef_250 b)).trans (fra_up (fun j => by rw [hfo_241]; exact fr_set (k := 6) rfl rfl) j b)).trans (hrA12 b kb j)
                have hfA12 : ∀ b, kd b = 12 → ∀ j, j ≠ 6 → j ≠ 7 → j ≠ 8 → fldI (f_250 b) j = fldI (f b) j := fun b kb j n6 n7 n8 => ((congrArg (fun x => fldI x j) (congrFun ef_250 b)).trans (fia_up (fun h9 => by rw [hfo_241]; exact fi_set (k := 6) rfl h9) n6 b)).trans (hfA12 b kb j n6 n7 n8)
                have hTt_245 : frel kd 576 8 f_250 a_2 := by rw [ef_250]; exact hTt_245.keep (fun b q => up_ne (kd_ne ko0 q (by decide)))
                have hfo_252 : f_250 o0 = .inr (12, [.ref a_1, .ref a_2, .ref a_3, .int v_4, .ref a_5, .int v_6, .int x_247, .int v_69, .int v_70, .int v_10, .int v_11, .int v_12, .int v_13, .int v_14, .int v_15, .ref a_16, .ref a_17, .ref a_18, .ref a_19, .ref a_20, .ref a_21, .ref a_22, .ref a_23, .int v_24, .int v_25, .int v_26, .int v_27, .int v_28, .ref a_29, .int v_30, .ref a_31, .ref a_32, .int v_33, .int v_34, .ref a_35, .int v_36, .ref a_37, .ref a_38, .int v_39, .int v_40, .ref a_41, .ref a_42, .ref a_43, .int v_44, .ref a_45, .ref a_46, .ref a_47, .ref a_48, .ref a_49, .ref a_50, .ref a_51, .ref a_52, .ref a_53, .int v_54, .int v_55, .ref a_56]) := by rw [ef_250]; exact up_self
                refine lv_iconst (v := 1) hx hb dX12_letters_148 (by decide) ?_
                refine lv_istore_n (lv' := [(1, .int 1), (2, .int x_185), (0, .ref o0)]) hx hb dX12_letters_149 rfl hl (by decide) rfl (fun ls hl => ?_)
                refine lv_goto (tgt := 2) hx hb dX12_letters_150 (by decide) ?_
                exact ih_hloop_64 1 (by decide) f_250 hG _ _ hP hS hD hfr0 hrA12 hfA12 hTt_245 x_247 (by rw [hfo_252]; rfl) (by (try rw [ti_1]) <;> omega) (by (try rw [ti_1]) <;> omega) (by (try rw [ti_1]) <;> omega) ls (lv_sub hl [0, 2] rfl)
              · skip
                rw [← Int32.toInt_inj, ti_8] at c_207
                refine lv_aload_n hx hb dX12_letters_69 rfl (lv_at hl 2 rfl) ?_
                refine lv_iconst (v := 3) hx hb dX12_letters_70 (by decide) ?_
                refine lv_aload_n hx hb dX12_letters_71 rfl (lv_at hl 2 rfl) ?_
                refine tk_getP (D := (dC, dI)) (ci := 12) (v := .int v_192) (C := RX12) (T := TX12) (N := 56) hx hb hU inlX12 hown hK hP mo0 hfo_193 rfl 6 (by decide) (hU _ wd_566) (fun _ h9 => h9) rfl dX12_letters_72 ?_
                refine tk_ViP (As := [.int 3, .int v_192]) (rest := []) (n := 2) hx hb hml hown hU hN hZ (s_X12_bad_k12 l (dC, dI) cI cL cZ cR cG cH Z kd L f_186 hG o0 mo0 ko0 3 v_192) wd_602 wd_603 wd_604 wd_5 wd_605 (by decide +kernel) ⟨Nat.le_of_ble_eq_true rfl, Nat.le_of_ble_eq_true rfl⟩ hK hP hD hS mo0 hfo_193 12 rfl rfl rfl hl.1 rfl (Nat.le_of_ble_eq_true rfl) dX12_letters_75 ⟨Nat.le_of_ble_eq_true rfl, Nat.le_of_ble_eq_true rfl⟩ (fun x_253 f_254 H locs hw hP hD hS => ?_)
                obtain ⟨hG, bx_253, hkc_255, hra_256, hfa_257⟩ := hw
                have hfo_259 : f_254 a_2 = .inl (cI, 1560, .inl g_204) := by rw [hkc_255 a_2 (by rw [ka_2]; decide)]; exact hfo_203
                have hfr0 : ∀ b, kd b ≠ 12 → kd b ≠ 576 → f_254 b = f b := fun b q12 q576 => (hkc_255 b q12).trans (hfr0 b q12 q576)
                have hrA12 : ∀ b, kd b = 12 → ∀ j, fldR (f_254 b) j = fldR (f b) j := fun b kb j => (hra_256 b kb j).trans (hrA12 b kb j)
                have hfA12 : ∀ b, kd b = 12 → ∀ j, j ≠ 6 → j ≠ 7 → j ≠ 8 → fldI (f_254 b) j = fldI (f b) j := fun b kb j n6 n7 n8 => (hfa_257 b kb j n7 n8).trans (hfA12 b kb j n6 n7 n8)
                have hT0 : frel kd 576 8 f_254 a_2 := hT0.keep (fun b q => hkc_255 b (by rw [q]; decide))
                obtain ⟨v_260, v_261, hfo_262, fa_263⟩ := op12_7_8 hfo_193 (hG _ mo0) ko0 (hra_256 o0 ko0) (hfa_257 o0 ko0)
                have bv_260 : ((-2147483648) ≤ v_260.toInt ∧ v_260.toInt ≤ 2147483647) := ⟨i32_lo _, i32_hi _⟩
                have bv_261 : ((-2147483648) ≤ v_261.toInt ∧ v_261.toInt ≤ 2147483647) := ⟨i32_lo _, i32_hi _⟩
                exact W.zret (v := x_253) (ty := .boolean) hx hb hr (zb_n (by constructor <;> omega)) (fun t ht hW => ⟨⟨x_253, f_254, rfl, ⟨hG, (by constructor <;> omega), hfr0, hrA12, hfA12, (by intro w6 z6 e6 d6; rw [hfo_57] at e6; rw [hfo_262] at d6; obtain rfl := Option.some.inj e6; obtain rfl := Option.some.inj d6; omega), (fun d9 h9 => by rw [hfo_262] at h9; obtain rfl := Option.some.inj h9; exact hT0)⟩, by rw [ht]; exact hP, va_K.moved hW.alike hK, pl_in hD⟩, hS.F ht⟩) hS.2.2 dX12_letters_78
            · skip
              rw [Int32.le_iff_toInt_le, ti_0] at c_205
              refine lv_aload_n hx hb dX12_letters_48 rfl (lv_at hl 2 rfl) ?_
              refine lv_iconst (v := 2) hx hb dX12_letters_49 (by decide) ?_
              refine lv_aload_n hx hb dX12_letters_50 rfl (lv_at hl 2 rfl) ?_
              refine tk_getP (D := (dC, dI)) (ci := 12) (v := .int v_192) (C := RX12) (T := TX12) (N := 56) hx hb hU inlX12 hown hK hP mo0 hfo_193 rfl 6 (by decide) (hU _ wd_566) (fun _ h9 => h9) rfl dX12_letters_51 ?_
              refine tk_ViP (As := [.int 2, .int v_192]) (rest := []) (n := 2) hx hb hml hown hU hN hZ (s_X12_bad_k12 l (dC, dI) cI cL cZ cR cG cH Z kd L f_186 hG o0 mo0 ko0 2 v_192) wd_602 wd_603 wd_604 wd_5 wd_605 (by decide +kernel) ⟨Nat.le_of_ble_eq_true rfl, Nat.le_of_ble_eq_true rfl⟩ hK hP hD hS mo0 hfo_193 12 rfl rfl rfl hl.1 rfl (Nat.le_of_ble_eq_true rfl) dX12_letters_54 ⟨Nat.le_of_ble_eq_true rfl, Nat.le_of_ble_eq_true rfl⟩ (fun x_264 f_265 H locs hw hP hD hS => ?_)
              obtain ⟨hG, bx_264, hkc_266, hra_267, hfa_268⟩ := hw
              have hfo_270 : f_265 a_2 = .inl (cI, 1560, .inl g_204) := by rw [hkc_266 a_2 (by rw [ka_2]; decide)]; exact hfo_203
              have hfr0 : ∀ b, kd b ≠ 12 → kd b ≠ 576 → f_265 b = f b := fun b q12 q576 => (hkc_266 b q12).trans (hfr0 b q12 q576)
              have hrA12 : ∀ b, kd b = 12 → ∀ j, fldR (f_265 b) j = fldR (f b) j := fun b kb j => (hra_267 b kb j).trans (hrA12 b kb j)
              have hfA12 : ∀ b, kd b = 12 → ∀ j, j ≠ 6 → j ≠ 7 → j ≠ 8 → fldI (f_265 b) j = fldI (f b) j := fun b kb j n6 n7 n8 => (hfa_268 b kb j n7 n8).trans (hfA12 b kb j n6 n7 n8)
              have hT0 : frel kd 576 8 f_265 a_2 := hT0.keep (fun b q => hkc_266 b (by rw [q]; decide))
              obtain ⟨v_271, v_272, hfo_273, fa_274⟩ := op12_7_8 hfo_193 (hG _ mo0) ko0 (hra_267 o0 ko0) (hfa_268 o0 ko0)
              have bv_271 : ((-2147483648) ≤ v_271.toInt ∧ v_271.toInt ≤ 2147483647) := ⟨i32_lo _, i32_hi _⟩
              have bv_272 : ((-2147483648) ≤ v_272.toInt ∧ v_272.toInt ≤ 2147483647) := ⟨i32_lo _, i32_hi _⟩
              exact W.zret (v := x_264) (ty := .boolean) hx hb hr (zb_n (by constructor <;> omega)) (fun t ht hW => ⟨⟨x_264, f_265, rfl, ⟨hG, (by constructor <;> omega), hfr0, hrA12, hfA12, (by intro w6 z6 e6 d6; rw [hfo_57] at e6; rw [hfo_273] at d6; obtain rfl := Option.some.inj e6; obtain rfl := Option.some.inj d6; omega), (fun d9 h9 => by rw [hfo_273] at h9; obtain rfl := Option.some.inj h9; exact hT0)⟩, by rw [ht]; exact hP, va_K.moved hW.alike hK, pl_in hD⟩, hS.F ht⟩) hS.2.2 dX12_letters_57
          · skip
            rw [← Int32.toInt_inj, ti_0] at c_198
            refine lv_aload_n hx hb dX12_letters_27 rfl (lv_at hl 2 rfl) ?_
            refine lv_iconst (v := 1) hx hb dX12_letters_28 (by decide) ?_
            refine lv_aload_n hx hb dX12_letters_29 rfl (lv_at hl 2 rfl) ?_
            refine tk_getP (D := (dC, dI)) (ci := 12) (v := .int v_192) (C := RX12) (T := TX12) (N := 56) hx hb hU inlX12 hown hK hP mo0 hfo_193 rfl 6 (by decide) (hU _ wd_566) (fun _ h9 => h9) rfl dX12_letters_30 ?_
            refine tk_ViP (As := [.int 1, .int v_192]) (rest := []) (n := 2) hx hb hml hown hU hN hZ (s_X12_bad_k12 l (dC, dI) cI cL cZ cR cG cH Z kd L f_186 hG o0 mo0 ko0 1 v_192) wd_602 wd_603 wd_604 wd_5 wd_605 (by decide +kernel) ⟨Nat.le_of_ble_eq_true rfl, Nat.le_of_ble_eq_true rfl⟩ hK hP hD hS mo0 hfo_193 12 rfl rfl rfl hl.1 rfl (Nat.le_of_ble_eq_true rfl) dX12_letters_33 ⟨Nat.le_of_ble_eq_true rfl, Nat.le_of_ble_eq_true rfl⟩ (fun x_275 f_276 H locs hw hP hD hS => ?_)
            obtain ⟨hG, bx_275, hkc_277, hra_278, hfa_279⟩ := hw
            have hfr0 : ∀ b, kd b ≠ 12 → kd b ≠ 576 → f_276 b = f b := fun b q12 q576 => (hkc_277 b q12).trans (hfr0 b q12 q576)
            have hrA12 : ∀ b, kd b = 12 → ∀ j, fldR (f_276 b) j = fldR (f b) j := fun b kb j => (hra_278 b kb j).trans (hrA12 b kb j)
            have hfA12 : ∀ b, kd b = 12 → ∀ j, j ≠ 6 → j ≠ 7 → j ≠ 8 → fldI (f_276 b) j = fldI (f b) j := fun b kb j n6 n7 n8 => (hfa_279 b kb j n7 n8).trans (hfA12 b kb j n6 n7 n8)
            have hT0 : frel kd 576 8 f_276 a_2 := hT0.keep (fun b q => hkc_277 b (by rw [q]; decide))
            obtain ⟨v_281, v_282, hfo_283, fa_284⟩ := op12_7_8 hfo_193 (hG _ mo0) ko0 (hra_278 o0 ko0) (hfa_279 o0 ko0)
            have bv_281 : ((-2147483648) ≤ v_281.toInt ∧ v_281.toInt ≤ 2147483647) := ⟨i32_lo _, i32_hi _⟩
            have bv_282 : ((-2147483648) ≤ v_282.toInt ∧ v_282.toInt ≤ 2147483647) := ⟨i32_lo _, i32_hi _⟩
            exact W.zret (v := x_275) (ty := .boolean) hx hb hr (zb_n (by constructor <;> omega)) (fun t ht hW => ⟨⟨x_275, f_276, rfl, ⟨hG, (by constructor <;> omega), hfr0, hrA12, hfA12, (by intro w6 z6 e6 d6; rw [hfo_57] at e6; rw [hfo_283] at d6; obtain rfl := Option.some.inj e6; obtain rfl := Option.some.inj d6; omega), (fun d9 h9 => by rw [hfo_283] at h9; obtain rfl := Option.some.inj h9; exact hT0)⟩, by rw [ht]; exact hP, va_K.moved hW.alike hK, pl_in hD⟩, hS.F ht⟩) hS.2.2 dX12_letters_36
  exact hloop_64 601 0 (by decide) f hG _ _ hP hS hD hfr0 hrA12 hfA12 hT0 v_7 (by rw [hfo_57]; rfl) (by (try rw [ti_0]) <;> omega) (by (try rw [ti_0]) <;> omega) (by (try rw [ti_0]) <;> omega) ls hl
