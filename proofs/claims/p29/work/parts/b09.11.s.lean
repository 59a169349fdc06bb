set_option maxHeartbeats 8000000 in
set_option maxRecDepth 100000 in
theorem s_X12_item_k12 (l : Launch) (D : va_G) (cI cL cZ cR cG cH : ClassId) (Z : zT) (kd : Nat → Nat) (L : List Nat) (f : Nat → va_E) (hG : GI (okc cI cL cZ cR cG cH L kd) kd L f) (o0 : Nat) (mo0 : o0 ∈ L) (ko0 : kd o0 = 12) (p1 : Int32) (bp1 : (600 ≤ p1.toInt ∧ p1.toInt ≤ 1556)) (hxtr0 : ∀ d9, fldR (f o0) 1 = some d9 → frel kd 576 7 f d9) : mPI l D cI cL cZ cR cG cH Z yX12_item cX12_item 3 (some .boolean) 4 83 [.ref o0, .int p1] L f (fun (r : Int32) (f9 : Nat → va_E) => GI (okc cI cL cZ cR cG cH L kd) kd L f9 ∧ (0 ≤ r.toInt ∧ r.toInt ≤ 1) ∧ (∀ b, kd b ≠ 12 → kd b ≠ 576 → f9 b = f b) ∧ (∀ b, kd b = 12 → ∀ j, fldR (f9 b) j = fldR (f b) j) ∧ (∀ b, kd b = 12 → ∀ j, j ≠ 6 → j ≠ 7 → j ≠ 8 → j ≠ 14 → fldI (f9 b) j = fldI (f b) j) ∧ (∀ (w6 z6 : Int32), fldI (f o0) 6 = some w6 → fldI (f9 o0) 6 = some z6 → w6.toInt ≤ z6.toInt) ∧ (∀ d9, fldR (f9 o0) 1 = some d9 → frel kd 576 7 f9 d9)) := by
  obtain ⟨dC, dI⟩ := D
  refine Met.ofW (cc := cX12_item) (maxL := 3) (ret := (some .boolean)) (by decide) rfl ?_
  intro p e s m args below meth c s₁ B hml hv
  obtain ⟨rfl, hP, hK, hD0, hN, hZ⟩ := hv
  have hx := B.exec
  have hb := B.bytes
  have hr := B.returns
  have hU : ∀ w ∈ wsU, w.before _ s = true := fun w h => atoms_spec (ws := wU yX12_item cX12_item 3 (some .boolean)) B.pre w (List.mem_cons_of_mem _ h)
  have hown : s.vm.findClass RX12 = some m.cls := findClass_of_methodNamed B.named
  have hlocks := B.notSynchronized
  have hD := pl_in hD0
  have hS : va_S (fun q => q ∈ L) s.heap s.heap [] := va_S.rf
  have hl := lv_entry ([.ref o0, .int p1]) (n := 3) (Nat.le_of_ble_eq_true rfl)
  rw [lg_entry_eq]
  generalize (lg_sl ([.ref o0, .int p1]) ++ List.replicate (3 - (lg_sl ([.ref o0, .int p1])).length) Slot.unset).toArray = ls at hl ⊢
  have hl : lv_has ls 3 [(0, .ref o0), (1, .int p1)] := hl
  have hfr0 : ∀ b, kd b ≠ 12 → kd b ≠ 576 → f b = f b := fun _ _ _ => rfl
  have hrA12 : ∀ b, kd b = 12 → ∀ j, fldR (f b) j = fldR (f b) j := fun _ _ _ => rfl
  have hfA12 : ∀ b, kd b = 12 → ∀ j, j ≠ 6 → j ≠ 7 → j ≠ 8 → j ≠ 14 → fldI (f b) j = fldI (f b) j := fun _ _ _ _ _ _ _ => rfl
  obtain ⟨a_1, a_2, a_3, v_4, a_5, v_6, v_7, v_8, v_9, v_10, v_11, v_12, v_13, v_14, v_15, a_16, a_17, a_18, a_19, a_20, a_21, a_22, a_23, v_24, v_25, v_26, v_27, v_28, a_29, v_30, a_31, a_32, v_33, v_34, a_35, v_36, a_37, a_38, v_39, v_40, a_41, a_42, a_43, v_44, a_45, a_46, a_47, a_48, a_49, a_50, a_51, a_52, a_53, v_54, v_55, a_56, hfo_57, fa_58⟩ := un12 (hG _ mo0) ko0
  obtain ⟨ma_2, ka_2⟩ := fa12_1 fa_58
  have bv_7 : (0 ≤ v_7.toInt ∧ v_7.toInt ≤ 600) := fa12_6 fa_58
  have hT0 := hxtr0 a_2 (by rw [hfo_57]; rfl)
  have hM : (∀ z9, fldI (f o0) 6 = some z9 → v_7.toInt ≤ z9.toInt) := fun z9 h9 => by rw [hfo_57] at h9; obtain rfl := Option.some.inj h9; exact Int.le_refl _
  refine lv_aload_n hx hb dX12_item_0 rfl (lv_at hl 0 rfl) ?_
  refine tk_ViP (As := []) (rest := []) (n := 0) hx hb hml hown hU hN hZ (s_X12_sign_k12 l (dC, dI) cI cL cZ cR cG cH Z kd L f hG o0 mo0 ko0) wd_573 wd_574 wd_575 wd_5 wd_576 (by decide +kernel) ⟨Nat.le_of_ble_eq_true rfl, Nat.le_of_ble_eq_true rfl⟩ hK hP hD hS mo0 hfo_57 12 rfl rfl rfl hl.1 rfl (Nat.le_of_ble_eq_true rfl) dX12_item_1 ⟨Nat.le_of_ble_eq_true rfl, Nat.le_of_ble_eq_true rfl⟩ (fun x_59 f_60 H locs hw hP hD hS => ?_)
  obtain ⟨hG, bx_59, hkc_61, hra_62, hfa_63, hpost_64⟩ := hw
  have hfr0 : ∀ b, kd b ≠ 12 → kd b ≠ 576 → f_60 b = f b := fun b q12 q576 => (hkc_61 b q12).trans (hfr0 b q12 q576)
  have hrA12 : ∀ b, kd b = 12 → ∀ j, fldR (f_60 b) j = fldR (f b) j := fun b kb j => (hra_62 b kb j).trans (hrA12 b kb j)
  have hfA12 : ∀ b, kd b = 12 → ∀ j, j ≠ 6 → j ≠ 7 → j ≠ 8 → j ≠ 14 → fldI (f_60 b) j = fldI (f b) j := fun b kb j n6 n7 n8 n14 => (hfa_63 b kb j n6).trans (hfA12 b kb j n6 n7 n8 n14)
  have hT0 : frel kd 576 7 f_60 a_2 := hT0.keep (fun b q => hkc_61 b (by rw [q]; decide))
  obtain ⟨v_66, hfo_67, fa_68⟩ := op12_6 hfo_57 (hG _ mo0) ko0 (hra_62 o0 ko0) (hfa_63 o0 ko0)
  have bv_66 : (0 ≤ v_66.toInt ∧ v_66.toInt ≤ 600) := fa12_6 fa_68
  have hqhpost_64 := hpost_64 v_7 v_66 (by rw [hfo_57]; rfl) (by rw [hfo_67]; rfl)
  have hMm_69 : (∀ z9, fldI (f_60 o0) 6 = some z9 → v_7.toInt ≤ z9.toInt) := fun z9 h9 => by rw [hfo_67] at h9; obtain rfl := Option.some.inj h9; have h8 := hM v_7 (by rw [hfo_57]; rfl); omega
  refine lv_bipush (v := 63) hx hb dX12_item_4 (by decide) ?_
  have hcut_71 : ∀ (y_70 : Int32), (0 ≤ y_70.toInt ∧ y_70.toInt ≤ 1) → ∀ (ls : Array Slot), lv_has ls 3 [(0, .ref o0), (1, .int p1)] → W p l e (headSpec (wU yX12_item cX12_item 3 (some .boolean)) { frames := 4, cells := 0, slots := 0, locals := 83 }).room s m [.ref o0, .int p1].toArray below meth c H locs 0 0 (MQ below (va_Qi (fun (r : Int32) (f9 : Nat → va_E) => GI (okc cI cL cZ cR cG cH L kd) kd L f9 ∧ (0 ≤ r.toInt ∧ r.toInt ≤ 1) ∧ (∀ b, kd b ≠ 12 → kd b ≠ 576 → f9 b = f b) ∧ (∀ b, kd b = 12 → ∀ j, fldR (f9 b) j = fldR (f b) j) ∧ (∀ b, kd b = 12 → ∀ j, j ≠ 6 → j ≠ 7 → j ≠ 8 → j ≠ 14 → fldI (f9 b) j = fldI (f b) j) ∧ (∀ (w6 z6 : Int32), fldI (f o0) 6 = some w6 → fldI (f9 o0) 6 = some z6 → w6.toInt ≤ z6.toInt) ∧ (∀ d9, fldR (f9 o0) 1 = some d9 → frel kd 576 7 f9 d9)) (qP (dC, dI) cI cL cZ cR cG cH L) (fun q => q ∈ L)) [.ref o0, .int p1].toArray s 0 0 (fun q => q ∈ L)) (F0 m 14 ls [.int y_70]) := by
    intro y_70 by_70 ls hl
    refine lv_istore_n (lv' := [(2, .int y_70), (0, .ref o0), (1, .int p1)]) hx hb dX12_item_14 rfl hl (by decide) rfl (fun ls hl => ?_)
    refine lv_aload_n hx hb dX12_item_15 rfl (lv_at hl 1 rfl) ?_
    refine tk_ViP (As := []) (rest := []) (n := 0) hx hb hml hown hU hN hZ (s_X12_takesX_k12 l (dC, dI) cI cL cZ cR cG cH Z kd L f_60 hG o0 mo0 ko0) wd_650 wd_651 wd_652 wd_5 wd_653 (by decide +kernel) ⟨Nat.le_of_ble_eq_true rfl, Nat.le_of_ble_eq_true rfl⟩ hK hP hD hS mo0 hfo_67 12 rfl rfl rfl hl.1 rfl (Nat.le_of_ble_eq_true rfl) dX12_item_16 ⟨Nat.le_of_ble_eq_true rfl, Nat.le_of_ble_eq_true rfl⟩ (fun x_72 f_73 H locs hw hP hD hS => ?_)
    obtain ⟨hG, bx_72, hkc_74, hra_75, hfa_76, hpost_77⟩ := hw
    have hfr0 : ∀ b, kd b ≠ 12 → kd b ≠ 576 → f_73 b = f b := fun b q12 q576 => (hkc_74 b q12).trans (hfr0 b q12 q576)
    have hrA12 : ∀ b, kd b = 12 → ∀ j, fldR (f_73 b) j = fldR (f b) j := fun b kb j => (hra_75 b kb j).trans (hrA12 b kb j)
    have hfA12 : ∀ b, kd b = 12 → ∀ j, j ≠ 6 → j ≠ 7 → j ≠ 8 → j ≠ 14 → fldI (f_73 b) j = fldI (f b) j := fun b kb j n6 n7 n8 n14 => (hfa_76 b kb j n6 n7 n8 n14).trans (hfA12 b kb j n6 n7 n8 n14)
    have hT0 : frel kd 576 7 f_73 a_2 := hT0.keep (fun b q => hkc_74 b (by rw [q]; decide))
    obtain ⟨v_79, v_80, v_81, v_82, hfo_83, fa_84⟩ := op12_6_7_8_14 hfo_67 (hG _ mo0) ko0 (hra_75 o0 ko0) (hfa_76 o0 ko0)
    have bv_79 : (0 ≤ v_79.toInt ∧ v_79.toInt ≤ 600) := fa12_6 fa_84
    have bv_80 : ((-2147483648) ≤ v_80.toInt ∧ v_80.toInt ≤ 2147483647) := ⟨i32_lo _, i32_hi _⟩
    have bv_81 : ((-2147483648) ≤ v_81.toInt ∧ v_81.toInt ≤ 2147483647) := ⟨i32_lo _, i32_hi _⟩
    have bv_82 : ((-2147483648) ≤ v_82.toInt ∧ v_82.toInt ≤ 2147483647) := ⟨i32_lo _, i32_hi _⟩
    have hqhpost_77 := hpost_77 v_66 v_79 (by rw [hfo_67]; rfl) (by rw [hfo_83]; rfl)
    have hMm_85 : (∀ z9, fldI (f_73 o0) 6 = some z9 → v_7.toInt ≤ z9.toInt) := fun z9 h9 => by rw [hfo_83] at h9; obtain rfl := Option.some.inj h9; have h8 := hMm_69 v_66 (by rw [hfo_67]; rfl); omega
    refine lv_if_ne (tgt := 24) hx hb dX12_item_19 (by decide) (fun c_86 => ?_) (fun c_86 => ?_)
    · skip
      rw [← Int32.toInt_inj, ti_0] at c_86
      refine lv_aload_n hx hb dX12_item_24 rfl (lv_at hl 1 rfl) ?_
      refine tk_getP (D := (dC, dI)) (ci := 12) (v := .ref a_2) (C := RX12) (T := TX12) (N := 56) hx hb hU inlX12 hown hK hP mo0 hfo_83 rfl 1 (by decide) (hU _ wd_170) (fun _ h9 => h9) rfl dX12_item_25 ?_
      refine lv_iload_n hx hb dX12_item_28 rfl (lv_at hl 2 rfl) ?_
      refine lv_aload_n hx hb dX12_item_29 rfl (lv_at hl 1 rfl) ?_
      refine tk_getP (D := (dC, dI)) (ci := 12) (v := .int v_82) (C := RX12) (T := TX12) (N := 56) hx hb hU inlX12 hown hK hP mo0 hfo_83 rfl 14 (by decide) (hU _ wd_654) (fun _ h9 => h9) rfl dX12_item_30 ?_
      obtain ⟨g_88, hfo_87, hbg_88⟩ := un_576 (hG _ ma_2) ka_2
      refine tk_istP hx hb hK hP hD hS 0 ma_2 hfo_87 rfl (vp_in_iff.mpr (by constructor <;> omega)) dX12_item_33 (fun H locs hP hD hS => ?_)
      have hc9 := cl_I (i := p1) (by omega)
      obtain ⟨g_89, eqg_89⟩ : ∃ y : Nat → Int32, y = upd g_88 (Int32.toNatClampNeg p1) v_82 := ⟨_, rfl⟩
      rw [← eqg_89] at hP hD
      have hbg_89 : wOK g_89 := by rw [eqg_89]; exact ⟨hbg_88.1.up (fun h1 h2 h3 => by exfalso; omega), hbg_88.2.1.up (fun h1 h2 h3 => by exfalso; omega), hbg_88.2.2.1.up (fun h1 h2 h3 => by exfalso; omega), hbg_88.2.2.2.1.up (fun h1 h2 h3 => by exfalso; omega), hbg_88.2.2.2.2.1.up (fun h1 h2 h3 => by exfalso; omega), hbg_88.2.2.2.2.2.1.up (fun h1 h2 h3 => by exfalso; omega), hbg_88.2.2.2.2.2.2.1.up (fun h1 h2 h3 => by exfalso; omega), hbg_88.2.2.2.2.2.2.2.1.up (fun h1 h2 h3 => by exfalso; omega), hbg_88.2.2.2.2.2.2.2.2.1.up (fun h1 h2 h3 => by exfalso; omega), hbg_88.2.2.2.2.2.2.2.2.2.1.up (fun h1 h2 h3 => by exfalso; omega), hbg_88.2.2.2.2.2.2.2.2.2.2.1.up (fun h1 h2 h3 => by exfalso; omega), hbg_88.2.2.2.2.2.2.2.2.2.2.2.1.up (fun h1 h2 h3 => by exfalso; omega), hbg_88.2.2.2.2.2.2.2.2.2.2.2.2.1.up (fun h1 h2 h3 => by exfalso; omega), hbg_88.2.2.2.2.2.2.2.2.2.2.2.2.2.1.up (fun h1 h2 h3 => by exfalso; omega), hbg_88.2.2.2.2.2.2.2.2.2.2.2.2.2.2.1.up (fun h1 h2 h3 => by exfalso; omega), hbg_88.2.2.2.2.2.2.2.2.2.2.2.2.2.2.2.up (fun h1 h2 h3 => by exfalso; omega)⟩
      obtain ⟨f_91, ef_91⟩ : ∃ y : Nat → va_E, y = va_up f_73 a_2 (.inl (cI, 1560, .inl g_89)) := ⟨_, rfl⟩
      have hP : va_P (dC, dI) vwCl (va_pl L f_91) H := by rw [ef_91]; exact hP
      have hD : va_D (fun q => q ∈ L) (va_pl L f_91) := by rw [ef_91]; exact hD
      have hG : GI (okc cI cL cZ cR cG cH L kd) kd L f_91 := by rw [ef_91]; exact hG.set a_2 (mk_576 ka_2 ⟨_, rfl, hbg_89⟩)
      have hfo_92 : f_91 o0 = .inr (12, [.ref a_1, .ref a_2, .ref a_3, .int v_4, .ref a_5, .int v_6, .int v_79, .int v_80, .int v_81, .int v_10, .int v_11, .int v_12, .int v_13, .int v_14, .int v_82, .ref a_16, .ref a_17, .ref a_18, .ref a_19, .ref a_20, .ref a_21, .ref a_22, .ref a_23, .int v_24, .int v_25, .int v_26, .int v_27, .int v_28, .ref a_29, .int v_30, .ref a_31, .ref a_32, .int v_33, .int v_34, .ref a_35, .int v_36, .ref a_37, .ref a_38, .int v_39, .int v_40, .ref a_41, .ref a_42, .ref a_43, .int v_44, .ref a_45, .ref a_46, .ref a_47, .ref a_48, .ref a_49, .ref a_50, .ref a_51, .ref a_52, .ref a_53, .int v_54, .int v_55, .ref a_56]) := by rw [ef_91, up_ne (kd_ne ka_2 ko0 (by decide))]; exact hfo_83
      have hfr0 : ∀ b, kd b ≠ 12 → kd b ≠ 576 → f_91 b = f b := fun b q12 q576 => (congrFun ef_91 b).trans ((up_ne (fun e9 => q576 (by rw [e9]; exact ka_2))).trans (hfr0 b q12 q576))
      have hrA12 : ∀ b, kd b = 12 → ∀ j, fldR (f_91 b) j = fldR (f b) j := fun b kb j => (congrArg (fun x => fldR x j) ((congrFun ef_91 b).trans (up_ne (kd_ne ka_2 kb (by decide))))).trans (hrA12 b kb j)
      have hfA12 : ∀ b, kd b = 12 → ∀ j, j ≠ 6 → j ≠ 7 → j ≠ 8 → j ≠ 14 → fldI (f_91 b) j = fldI (f b) j := fun b kb j n6 n7 n8 n14 => (congrArg (fun x => fldI x j) ((congrFun ef_91 b).trans (up_ne (kd_ne ka_2 kb (by decide))))).trans (hfA12 b kb j n6 n7 n8 n14)
      have hT0 : frel kd 576 7 f_91 a_2 := by rw [ef_91]; exact frel.mk ka_2 up_self (by rw [eqg_89]; exact (hT0.get hfo_87).up (hbg_88.2.1 16 (by decide) (by decide) (by decide)).2 (by omega) (by omega) (by omega) (fun h9 => by exfalso; omega))
      have hMm_85 : (∀ z9, fldI (f_91 o0) 6 = some z9 → v_7.toInt ≤ z9.toInt) := by rw [ef_91]; exact (fun z9 h9 => hMm_85 z9 (by rw [up_ne (kd_ne ka_2 ko0 (by decide))] at h9; exact h9))
      have hfo_93 : f_91 a_2 = .inl (cI, 1560, .inl g_89) := by rw [ef_91]; exact up_self
      have ql_94 : v_82 = g_89 (Int32.toNatClampNeg p1) := by rw [eqg_89, pk_us]
      refine lv_aload_n hx hb dX12_item_34 rfl (lv_at hl 1 rfl) ?_
      refine tk_getP (D := (dC, dI)) (ci := 12) (v := .ref a_2) (C := RX12) (T := TX12) (N := 56) hx hb hU inlX12 hown hK hP mo0 hfo_92 rfl 1 (by decide) (hU _ wd_170) (fun _ h9 => h9) rfl dX12_item_35 ?_
      refine lv_iload_n hx hb dX12_item_38 rfl (lv_at hl 2 rfl) ?_
      refine lv_iconst (v := 1) hx hb dX12_item_39 (by decide) ?_
      refine lv_iadd hx hb dX12_item_40 ?_
      refine lv_topi (fun x_95 ex_95 => ?_)
      have hx_95 : x_95.toInt = p1.toInt + 1 := by rw [ex_95, ad_I (by rw [ti_1]; omega) (by rw [ti_1]; omega), ti_1]
      have bx_95 : (601 ≤ x_95.toInt ∧ x_95.toInt ≤ 1557) := by constructor <;> omega
      refine lv_aload_n hx hb dX12_item_41 rfl (lv_at hl 1 rfl) ?_
      refine tk_getP (D := (dC, dI)) (ci := 12) (v := .int v_82) (C := RX12) (T := TX12) (N := 56) hx hb hU inlX12 hown hK hP mo0 hfo_92 rfl 14 (by decide) (hU _ wd_654) (fun _ h9 => h9) rfl dX12_item_42 ?_
      refine tk_istP hx hb hK hP hD hS 0 ma_2 hfo_93 rfl (vp_in_iff.mpr (by constructor <;> omega)) dX12_item_45 (fun H locs hP hD hS => ?_)
      have hc9 := cl_I (i := x_95) (by omega)
      obtain ⟨g_96, eqg_96⟩ : ∃ y : Nat → Int32, y = upd g_89 (Int32.toNatClampNeg x_95) v_82 := ⟨_, rfl⟩
      rw [← eqg_96] at hP hD
      have hbg_96 : wOK g_96 := by rw [eqg_96]; exact ⟨hbg_89.1.up (fun h1 h2 h3 => by exfalso; omega), hbg_89.2.1.up (fun h1 h2 h3 => by exfalso; omega), hbg_89.2.2.1.up (fun h1 h2 h3 => by exfalso; omega), hbg_89.2.2.2.1.up (fun h1 h2 h3 => by exfalso; omega), hbg_89.2.2.2.2.1.up (fun h1 h2 h3 => by exfalso; omega), hbg_89.2.2.2.2.2.1.up (fun h1 h2 h3 => by exfalso; omega), hbg_89.2.2.2.2.2.2.1.up (fun h1 h2 h3 => by exfalso; omega), hbg_89.2.2.2.2.2.2.2.1.up (fun h1 h2 h3 => by exfalso; omega), hbg_89.2.2.2.2.2.2.2.2.1.up (fun h1 h2 h3 => by exfalso; omega), hbg_89.2.2.2.2.2.2.2.2.2.1.up (fun h1 h2 h3 => by exfalso; omega), hbg_89.2.2.2.2.2.2.2.2.2.2.1.up (fun h1 h2 h3 => by exfalso; omega), hbg_89.2.2.2.2.2.2.2.2.2.2.2.1.up (fun h1 h2 h3 => by exfalso; omega), hbg_89.2.2.2.2.2.2.2.2.2.2.2.2.1.up (fun h1 h2 h3 => by exfalso; omega), hbg_89.2.2.2.2.2.2.2.2.2.2.2.2.2.1.up (fun h1 h2 h3 => by exfalso; omega), hbg_89.2.2.2.2.2.2.2.2.2.2.2.2.2.2.1.up (fun h1 h2 h3 => by exfalso; omega), hbg_89.2.2.2.2.2.2.2.2.2.2.2.2.2.2.2.up (fun h1 h2 h3 => by exfalso; omega)⟩
      obtain ⟨f_98, ef_98⟩ : ∃ y : Nat → va_E, y = va_up f_91 a_2 (.inl (cI, 1560, .inl g_96)) := ⟨_, rfl⟩
      have hP : va_P (dC, dI) vwCl (va_pl L f_98) H := by rw [ef_98]; exact hP
      have hD : va_D (fun q => q ∈ L) (va_pl L f_98) := by rw [ef_98]; exact hD
      have hG : GI (okc cI cL cZ cR cG cH L kd) kd L f_98 := by rw [ef_98]; exact hG.set a_2 (mk_576 ka_2 ⟨_, rfl, hbg_96⟩)
      have hfo_99 : f_98 o0 = .inr (12, [.ref a_1, .ref a_2, .ref a_3, .int v_4, .ref a_5, .int v_6, .int v_79, .int v_80, .int v_81, .int v_10, .int v_11, .int v_12, .int v_13, .int v_14, .int v_82, .ref a_16, .ref a_17, .ref a_18, .ref a_19, .ref a_20, .ref a_21, .ref a_22, .ref a_23, .int v_24, .int v_25, .int v_26, .int v_27, .int v_28, .ref a_29, .int v_30, .ref a_31, .ref a_32, .int v_33, .int v_34, .ref a_35, .int v_36, .ref a_37, .ref a_38, .int v_39, .int v_40, .ref a_41, .ref a_42, .ref a_43, .int v_44, .ref a_45, .ref a_46, .ref a_47, .ref a_48, .ref a_49, .ref a_50, .ref a_51, .ref a_52, .ref a_53, .int v_54, .int v_55, .ref a_56]) := by rw [ef_98, up_ne (kd_ne ka_2 ko0 (by decide))]; exact hfo_92
      have hfr0 : ∀ b, kd b ≠ 12 → kd b ≠ 576 → f_98 b = f b := fun b q12 q576 => (congrFun ef_98 b).trans ((up_ne (fun e9 => q576 (by rw [e9]; exact ka_2))).trans (hfr0 b q12 q576))
      have hrA12 : ∀ b, kd b = 12 → ∀ j, fldR (f_98 b) j = fldR (f b) j := fun b kb j => (congrArg (fun x => fldR x j) ((congrFun ef_98 b).trans (up_ne (kd_ne ka_2 kb (by decide))))).trans (hrA12 b kb j)
      have hfA12 : ∀ b, kd b = 12 → ∀ j, j ≠ 6 → j ≠ 7 → j ≠ 8 → j ≠ 14 → fldI (f_98 b) j = fldI (f b) j := fun b kb j n6 n7 n8 n14 => (congrArg (fun x => fldI x j) ((congrFun ef_98 b).trans (up_ne (kd_ne ka_2 kb (by decide))))).trans (hfA12 b kb j n6 n7 n8 n14)
      have hT0 : frel kd 576 7 f_98 a_2 := by rw [ef_98]; exact frel.mk ka_2 up_self (by rw [eqg_96]; exact (hT0.get hfo_93).up (hbg_89.2.1 16 (by decide) (by decide) (by decide)).2 (by omega) (by omega) (by omega) (fun h9 => by exfalso; omega))
      have hMm_85 : (∀ z9, fldI (f_98 o0) 6 = some z9 → v_7.toInt ≤ z9.toInt) := by rw [ef_98]; exact (fun z9 h9 => hMm_85 z9 (by rw [up_ne (kd_ne ka_2 ko0 (by decide))] at h9; exact h9))
      have hfo_100 : f_98 a_2 = .inl (cI, 1560, .inl g_96) := by rw [ef_98]; exact up_self
      have ql_101 : v_82 = g_96 (Int32.toNatClampNeg x_95) := by rw [eqg_96, pk_us]
      refine lv_aload_n hx hb dX12_item_46 rfl (lv_at hl 1 rfl) ?_
      refine tk_getP (D := (dC, dI)) (ci := 12) (v := .ref a_2) (C := RX12) (T := TX12) (N := 56) hx hb hU inlX12 hown hK hP mo0 hfo_99 rfl 1 (by decide) (hU _ wd_170) (fun _ h9 => h9) rfl dX12_item_47 ?_
      refine lv_iload_n hx hb dX12_item_50 rfl (lv_at hl 2 rfl) ?_
      refine lv_iconst (v := 2) hx hb dX12_item_51 (by decide) ?_
      refine lv_iadd hx hb dX12_item_52 ?_
      refine lv_topi (fun x_102 ex_102 => ?_)
      have hx_102 : x_102.toInt = p1.toInt + 2 := by rw [ex_102, ad_I (by rw [ti_2]; omega) (by rw [ti_2]; omega), ti_2]
      have bx_102 : (602 ≤ x_102.toInt ∧ x_102.toInt ≤ 1558) := by constructor <;> omega
      refine lv_iload_n hx hb dX12_item_53 rfl (lv_at hl 0 rfl) ?_
      have hcut_104 : ∀ (y_103 : Int32), (0 ≤ y_103.toInt ∧ y_103.toInt ≤ 1) → ∀ (ls : Array Slot), lv_has ls 3 [(2, .int y_70), (0, .ref o0), (1, .int p1)] → W p l e (headSpec (wU yX12_item cX12_item 3 (some .boolean)) { frames := 4, cells := 0, slots := 0, locals := 83 }).room s m [.ref o0, .int p1].toArray below meth c H locs 0 0 (MQ below (va_Qi (fun (r : Int32) (f9 : Nat → va_E) => GI (okc cI cL cZ cR cG cH L kd) kd L f9 ∧ (0 ≤ r.toInt ∧ r.toInt ≤ 1) ∧ (∀ b, kd b ≠ 12 → kd b ≠ 576 → f9 b = f b) ∧ (∀ b, kd b = 12 → ∀ j, fldR (f9 b) j = fldR (f b) j) ∧ (∀ b, kd b = 12 → ∀ j, j ≠ 6 → j ≠ 7 → j ≠ 8 → j ≠ 14 → fldI (f9 b) j = fldI (f b) j) ∧ (∀ (w6 z6 : Int32), fldI (f o0) 6 = some w6 → fldI (f9 o0) 6 = some z6 → w6.toInt ≤ z6.toInt) ∧ (∀ d9, fldR (f9 o0) 1 = some d9 → frel kd 576 7 f9 d9)) (qP (dC, dI) cI cL cZ cR cG cH L) (fun q => q ∈ L)) [.ref o0, .int p1].toArray s 0 0 (fun q => q ∈ L)) (F0 m 62 ls [.int y_103, .int x_102, .ref a_2]) := by
        intro y_103 by_103 ls hl
        refine tk_istP hx hb hK hP hD hS 0 ma_2 hfo_100 rfl (vp_in_iff.mpr (by constructor <;> omega)) dX12_item_62 (fun H locs hP hD hS => ?_)
        have hc9 := cl_I (i := x_102) (by omega)
        obtain ⟨g_105, eqg_105⟩ : ∃ y : Nat → Int32, y = upd g_96 (Int32.toNatClampNeg x_102) y_103 := ⟨_, rfl⟩
        rw [← eqg_105] at hP hD
        have hbg_105 : wOK g_105 := by rw [eqg_105]; exact ⟨hbg_96.1.up (fun h1 h2 h3 => by exfalso; omega), hbg_96.2.1.up (fun h1 h2 h3 => by exfalso; omega), hbg_96.2.2.1.up (fun h1 h2 h3 => by exfalso; omega), hbg_96.2.2.2.1.up (fun h1 h2 h3 => by exfalso; omega), hbg_96.2.2.2.2.1.up (fun h1 h2 h3 => by exfalso; omega), hbg_96.2.2.2.2.2.1.up (fun h1 h2 h3 => by exfalso; omega), hbg_96.2.2.2.2.2.2.1.up (fun h1 h2 h3 => by exfalso; omega), hbg_96.2.2.2.2.2.2.2.1.up (fun h1 h2 h3 => by exfalso; omega), hbg_96.2.2.2.2.2.2.2.2.1.up (fun h1 h2 h3 => by exfalso; omega), hbg_96.2.2.2.2.2.2.2.2.2.1.up (fun h1 h2 h3 => by exfalso; omega), hbg_96.2.2.2.2.2.2.2.2.2.2.1.up (fun h1 h2 h3 => by exfalso; omega), hbg_96.2.2.2.2.2.2.2.2.2.2.2.1.up (fun h1 h2 h3 => by exfalso; omega), hbg_96.2.2.2.2.2.2.2.2.2.2.2.2.1.up (fun h1 h2 h3 => by exfalso; omega), hbg_96.2.2.2.2.2.2.2.2.2.2.2.2.2.1.up (fun h1 h2 h3 => by exfalso; omega), hbg_96.2.2.2.2.2.2.2.2.2.2.2.2.2.2.1.up (fun h1 h2 h3 => by exfalso; omega), hbg_96.2.2.2.2.2.2.2.2.2.2.2.2.2.2.2.up (fun h1 h2 h3 => by exfalso; omega)⟩
        obtain ⟨f_107, ef_107⟩ : ∃ y : Nat → va_E, y = va_up f_98 a_2 (.inl (cI, 1560, .inl g_105)) := ⟨_, rfl⟩
        have hP : va_P (dC, dI) vwCl (va_pl L f_107) H := by rw [ef_107]; exact hP
        have hD : va_D (fun q => q ∈ L) (va_pl L f_107) := by rw [ef_107]; exact hD
        have hG : GI (okc cI cL cZ cR cG cH L kd) kd L f_107 := by rw [ef_107]; exact hG.set a_2 (mk_576 ka_2 ⟨_, rfl, hbg_105⟩)
        have hfo_108 : f_107 o0 = .inr (12, [.ref a_1, .ref a_2, .ref a_3, .int v_4, .ref a_5, .int v_6, .int v_79, .int v_80, .int v_81, .int v_10, .int v_11, .int v_12, .int v_13, .int v_14, .int v_82, .ref a_16, .ref a_17, .ref a_18, .ref a_19, .ref a_20, .ref a_21, .ref a_22, .ref a_23, .int v_24, .int v_25, .int v_26, .int v_27, .int v_28, .ref a_29, .int v_30, .ref a_31, .ref a_32, .int v_33, .int v_34, .ref a_35, .int v_36, .ref a_37, .ref a_38, .int v_39, .int v_40, .ref a_41, .ref a_42, .ref a_43, .int v_44, .ref a_45, .ref a_46, .ref a_47, .ref a_48, .ref a_49, .ref a_50, .ref a_51, .ref a_52, .ref a_53, .int v_54, .int v_55, .ref a_56]) := by rw [ef_107, up_ne (kd_ne ka_2 ko0 (by decide))]; exact hfo_99
        have hfr0 : ∀ b, kd b ≠ 12 → kd b ≠ 576 → f_107 b = f b := fun b q12 q576 => (congrFun ef_107 b).trans ((up_ne (fun e9 => q576 (by rw [e9]; exact ka_2))).trans (hfr0 b q12 q576))
        have hrA12 : ∀ b, kd b = 12 → ∀ j, fldR (f_107 b) j = fldR (f b) j := fun b kb j => (congrArg (fun x => fldR x j) ((congrFun ef_107 b).trans (up_ne (kd_ne ka_2 kb (by decide))))).trans (hrA12 b kb j)
        have hfA12 : ∀ b, kd b = 12 → ∀ j, j ≠ 6 → j ≠ 7 → j ≠ 8 → j ≠ 14 → fldI (f_107 b) j = fldI (f b) j := fun b kb j n6 n7 n8 n14 => (congrArg (fun x => fldI x j) ((congrFun ef_107 b).trans (up_ne (kd_ne ka_2 kb (by decide))))).trans (hfA12 b kb j n6 n7 n8 n14)
        have hT0 : frel kd 576 7 f_107 a_2 := by rw [ef_107]; exact frel.mk ka_2 up_self (by rw [eqg_105]; exact (hT0.get hfo_100).up (hbg_96.2.1 16 (by decide) (by decide) (by decide)).2 (by omega) (by omega) (by omega) (fun h9 => by exfalso; omega))
        have hMm_85 : (∀ z9, fldI (f_107 o0) 6 = some z9 → v_7.toInt ≤ z9.toInt) := by rw [ef_107]; exact (fun z9 h9 => hMm_85 z9 (by rw [up_ne (kd_ne ka_2 ko0 (by decide))] at h9; exact h9))
        have hfo_109 : f_107 a_2 = .inl (cI, 1560, .inl g_105) := by rw [ef_107]; exact up_self
        have ql_110 : y_103 = g_105 (Int32.toNatClampNeg x_102) := by rw [eqg_105, pk_us]
        refine lv_aload_n hx hb dX12_item_63 rfl (lv_at hl 1 rfl) ?_
        refine tk_ViP (As := []) (rest := []) (n := 0) hx hb hml hown hU hN hZ (s_X12_sign_k12 l (dC, dI) cI cL cZ cR cG cH Z kd L f_107 hG o0 mo0 ko0) wd_573 wd_574 wd_575 wd_5 wd_576 (by decide +kernel) ⟨Nat.le_of_ble_eq_true rfl, Nat.le_of_ble_eq_true rfl⟩ hK hP hD hS mo0 hfo_108 12 rfl rfl rfl hl.1 rfl (Nat.le_of_ble_eq_true rfl) dX12_item_64 ⟨Nat.le_of_ble_eq_true rfl, Nat.le_of_ble_eq_true rfl⟩ (fun x_111 f_112 H locs hw hP hD hS => ?_)
        obtain ⟨hG, bx_111, hkc_113, hra_114, hfa_115, hpost_116⟩ := hw
        have hfo_118 : f_112 a_2 = .inl (cI, 1560, .inl g_105) := by rw [hkc_113 a_2 (by rw [ka_2]; decide)]; exact hfo_109
        have hfr0 : ∀ b, kd b ≠ 12 → kd b ≠ 576 → f_112 b = f b := fun b q12 q576 => (hkc_113 b q12).trans (hfr0 b q12 q576)
        have hrA12 : ∀ b, kd b = 12 → ∀ j, fldR (f_112 b) j = fldR (f b) j := fun b kb j => (hra_114 b kb j).trans (hrA12 b kb j)
        have hfA12 : ∀ b, kd b = 12 → ∀ j, j ≠ 6 → j ≠ 7 → j ≠ 8 → j ≠ 14 → fldI (f_112 b) j = fldI (f b) j := fun b kb j n6 n7 n8 n14 => (hfa_115 b kb j n6).trans (hfA12 b kb j n6 n7 n8 n14)
        have hT0 : frel kd 576 7 f_112 a_2 := hT0.keep (fun b q => hkc_113 b (by rw [q]; decide))
        obtain ⟨v_119, hfo_120, fa_121⟩ := op12_6 hfo_108 (hG _ mo0) ko0 (hra_114 o0 ko0) (hfa_115 o0 ko0)
        have bv_119 : (0 ≤ v_119.toInt ∧ v_119.toInt ≤ 600) := fa12_6 fa_121
        have hqhpost_116 := hpost_116 v_79 v_119 (by rw [hfo_108]; rfl) (by rw [hfo_120]; rfl)
        have hMm_122 : (∀ z9, fldI (f_112 o0) 6 = some z9 → v_7.toInt ≤ z9.toInt) := fun z9 h9 => by rw [hfo_120] at h9; obtain rfl := Option.some.inj h9; have h8 := hMm_85 v_79 (by rw [hfo_108]; rfl); omega
        refine lv_bipush (v := 58) hx hb dX12_item_67 (by decide) ?_
        refine lv_icmp_ne (tgt := 112) hx hb dX12_item_69 (by decide) (fun c_123 => ?_) (fun c_123 => ?_)
        · skip
          rw [← Int32.toInt_inj, ti_58] at c_123
          refine lv_aload_n hx hb dX12_item_112 rfl (lv_at hl 1 rfl) ?_
          refine tk_getP (D := (dC, dI)) (ci := 12) (v := .ref a_2) (C := RX12) (T := TX12) (N := 56) hx hb hU inlX12 hown hK hP mo0 hfo_120 rfl 1 (by decide) (hU _ wd_170) (fun _ h9 => h9) rfl dX12_item_113 ?_
          refine lv_iload_n hx hb dX12_item_116 rfl (lv_at hl 2 rfl) ?_
          refine lv_iconst (v := 3) hx hb dX12_item_117 (by decide) ?_
          refine lv_iadd hx hb dX12_item_118 ?_
          refine lv_topi (fun x_124 ex_124 => ?_)
          have hx_124 : x_124.toInt = p1.toInt + 3 := by rw [ex_124, ad_I (by rw [ti_3]; omega) (by rw [ti_3]; omega), ti_3]
          have bx_124 : (603 ≤ x_124.toInt ∧ x_124.toInt ≤ 1559) := by constructor <;> omega
          refine lv_aload_n hx hb dX12_item_119 rfl (lv_at hl 1 rfl) ?_
          refine tk_ViP (As := []) (rest := [.int x_124, .ref a_2]) (n := 0) hx hb hml hown hU hN hZ (s_X12_sign_k12 l (dC, dI) cI cL cZ cR cG cH Z kd L f_112 hG o0 mo0 ko0) wd_573 wd_574 wd_575 wd_5 wd_576 (by decide +kernel) ⟨Nat.le_of_ble_eq_true rfl, Nat.le_of_ble_eq_true rfl⟩ hK hP hD hS mo0 hfo_120 12 rfl rfl rfl hl.1 rfl (Nat.le_of_ble_eq_true rfl) dX12_item_120 ⟨Nat.le_of_ble_eq_true rfl, Nat.le_of_ble_eq_true rfl⟩ (fun x_125 f_126 H locs hw hP hD hS => ?_)
          obtain ⟨hG, bx_125, hkc_127, hra_128, hfa_129, hpost_130⟩ := hw
          have hfo_132 : f_126 a_2 = .inl (cI, 1560, .inl g_105) := by rw [hkc_127 a_2 (by rw [ka_2]; decide)]; exact hfo_118
          have hfr0 : ∀ b, kd b ≠ 12 → kd b ≠ 576 → f_126 b = f b := fun b q12 q576 => (hkc_127 b q12).trans (hfr0 b q12 q576)
          have hrA12 : ∀ b, kd b = 12 → ∀ j, fldR (f_126 b) j = fldR (f b) j := fun b kb j => (hra_128 b kb j).trans (hrA12 b kb j)
          have hfA12 : ∀ b, kd b = 12 → ∀ j, j ≠ 6 → j ≠ 7 → j ≠ 8 → j ≠ 14 → fldI (f_126 b) j = fldI (f b) j := fun b kb j n6 n7 n8 n14 => (hfa_129 b kb j n6).trans (hfA12 b kb j n6 n7 n8 n14)
          have hT0 : frel kd 576 7 f_126 a_2 := hT0.keep (fun b q => hkc_127 b (by rw [q]; decide))
          obtain ⟨v_133, hfo_134, fa_135⟩ := op12_6 hfo_120 (hG _ mo0) ko0 (hra_128 o0 ko0) (hfa_129 o0 ko0)
          have bv_133 : (0 ≤ v_133.toInt ∧ v_133.toInt ≤ 600) := fa12_6 fa_135
          have hqhpost_130 := hpost_130 v_119 v_133 (by rw [hfo_120]; rfl) (by rw [hfo_134]; rfl)
          have hMm_136 : (∀ z9, fldI (f_126 o0) 6 = some z9 → v_7.toInt ≤ z9.toInt) := fun z9 h9 => by rw [hfo_134] at h9; obtain rfl := Option.some.inj h9; have h8 := hMm_122 v_119 (by rw [hfo_120]; rfl); omega
          refine lv_bipush (v := 42) hx hb dX12_item_123 (by decide) ?_
          have hcut_138 : ∀ (y_137 : Int32), (0 ≤ y_137.toInt ∧ y_137.toInt ≤ 1) → ∀ (ls : Array Slot), lv_has ls 3 [(2, .int y_70), (0, .ref o0), (1, .int p1)] → W p l e (headSpec (wU yX12_item cX12_item 3 (some .boolean)) { frames := 4, cells := 0, slots := 0, locals := 83 }).room s m [.ref o0, .int p1].toArray below meth c H locs 0 0 (MQ below (va_Qi (fun (r : Int32) (f9 : Nat → va_E) => GI (okc cI cL cZ cR cG cH L kd) kd L f9 ∧ (0 ≤ r.toInt ∧ r.toInt ≤ 1) ∧ (∀ b, kd b ≠ 12 → kd b ≠ 576 → f9 b = f b) ∧ (∀ b, kd b = 12 → ∀ j, fldR (f9 b) j = fldR (f b) j) ∧ (∀ b, kd b = 12 → ∀ j, j ≠ 6 → j ≠ 7 → j ≠ 8 → j ≠ 14 → fldI (f9 b) j = fldI (f b) j) ∧ (∀ (w6 z6 : Int32), fldI (f o0) 6 = some w6 → fldI (f9 o0) 6 = some z6 → w6.toInt ≤ z6.toInt) ∧ (∀ d9, fldR (f9 o0) 1 = some d9 → frel kd 576 7 f9 d9)) (qP (dC, dI) cI cL cZ cR cG cH L) (fun q => q ∈ L)) [.ref o0, .int p1].toArray s 0 0 (fun q => q ∈ L)) (F0 m 133 ls [.int y_137, .int x_124, .ref a_2]) := by
            intro y_137 by_137 ls hl
            refine tk_istP hx hb hK hP hD hS 0 ma_2 hfo_132 rfl (vp_in_iff.mpr (by constructor <;> omega)) dX12_item_133 (fun H locs hP hD hS => ?_)
            have hc9 := cl_I (i := x_124) (by omega)
            obtain ⟨g_139, eqg_139⟩ : ∃ y : Nat → Int32, y = upd g_105 (Int32.toNatClampNeg x_124) y_137 := ⟨_, rfl⟩
            rw [← eqg_139] at hP hD
            have hbg_139 : wOK g_139 := by rw [eqg_139]; exact ⟨hbg_105.1.up (fun h1 h2 h3 => by exfalso; omega), hbg_105.2.1.up (fun h1 h2 h3 => by exfalso; omega), hbg_105.2.2.1.up (fun h1 h2 h3 => by exfalso; omega), hbg_105.2.2.2.1.up (fun h1 h2 h3 => by exfalso; omega), hbg_105.2.2.2.2.1.up (fun h1 h2 h3 => by exfalso; omega), hbg_105.2.2.2.2.2.1.up (fun h1 h2 h3 => by exfalso; omega), hbg_105.2.2.2.2.2.2.1.up (fun h1 h2 h3 => by exfalso; omega), hbg_105.2.2.2.2.2.2.2.1.up (fun h1 h2 h3 => by exfalso; omega), hbg_105.2.2.2.2.2.2.2.2.1.up (fun h1 h2 h3 => by exfalso; omega), hbg_105.2.2.2.2.2.2.2.2.2.1.up (fun h1 h2 h3 => by exfalso; omega), hbg_105.2.2.2.2.2.2.2.2.2.2.1.up (fun h1 h2 h3 => by exfalso; omega), hbg_105.2.2.2.2.2.2.2.2.2.2.2.1.up (fun h1 h2 h3 => by exfalso; omega), hbg_105.2.2.2.2.2.2.2.2.2.2.2.2.1.up (fun h1 h2 h3 => by exfalso; omega), hbg_105.2.2.2.2.2.2.2.2.2.2.2.2.2.1.up (fun h1 h2 h3 => by exfalso; omega), hbg_105.2.2.2.2.2.2.2.2.2.2.2.2.2.2.1.up (fun h1 h2 h3 => by exfalso; omega), hbg_105.2.2.2.2.2.2.2.2.2.2.2.2.2.2.2.up (fun h1 h2 h3 => by exfalso; omega)⟩
            obtain ⟨f_141, ef_141⟩ : ∃ y : Nat → va_E, y = va_up f_126 a_2 (.inl (cI, 1560, .inl g_139)) := ⟨_, rfl⟩
            have hP : va_P (dC, dI) vwCl (va_pl L f_141) H := by rw [ef_141]; exact hP
            have hD : va_D (fun q => q ∈ L) (va_pl L f_141) := by rw [ef_141]; exact hD
            have hG : GI (okc cI cL cZ cR cG cH L kd) kd L f_141 := by rw [ef_141]; exact hG.set a_2 (mk_576 ka_2 ⟨_, rfl, hbg_139⟩)
            have hfo_142 : f_141 o0 = .inr (12, [.ref a_1, .ref a_2, .ref a_3, .int v_4, .ref a_5, .int v_6, .int v_133, .int v_80, .int v_81, .int v_10, .int v_11, .int v_12, .int v_13, .int v_14, .int v_82, .ref a_16, .ref a_17, .ref a_18, .ref a_19, .ref a_20, .ref a_21, .ref a_22, .ref a_23, .int v_24, .int v_25, .int v_26, .int v_27, .int v_28, .ref a_29, .int v_30, .ref a_31, .ref a_32, .int v_33, .int v_34, .ref a_35, .int v_36, .ref a_37, .ref a_38, .int v_39, .int v_40, .ref a_41, .ref a_42, .ref a_43, .int v_44, .ref a_45, .ref a_46, .ref a_47, .ref a_48, .ref a_49, .ref a_50, .ref a_51, .ref a_52, .ref a_53, .int v_54, .int v_55, .ref a_56]) := by rw [ef_141, up_ne (kd_ne ka_2 ko0 (by decide))]; exact hfo_134
            have hfr0 : ∀ b, kd b ≠ 12 → kd b ≠ 576 → f_141 b = f b := fun b q12 q576 => (congrFun ef_141 b).trans ((up_ne (fun e9 => q576 (by rw [e9]; exact ka_2))).trans (hfr0 b q12 q576))
            have hrA12 : ∀ b, kd b = 12 → ∀ j, fldR (f_141 b) j = fldR (f b) j := fun b kb j => (congrArg (fun x => fldR x j) ((congrFun ef_141 b).trans (up_ne (kd_ne ka_2 kb (by decide))))).trans (hrA12 b kb j)
            have hfA12 : ∀ b, kd b = 12 → ∀ j, j ≠ 6 → j ≠ 7 → j ≠ 8 → j ≠ 14 → fldI (f_141 b) j = fldI (f b) j := fun b kb j n6 n7 n8 n14 => (congrArg (fun x => fldI x j) ((congrFun ef_141 b).trans (up_ne (kd_ne ka_2 kb (by decide))))).trans (hfA12 b kb j n6 n7 n8 n14)
            have hT0 : frel kd 576 7 f_141 a_2 := by rw [ef_141]; exact frel.mk ka_2 up_self (by rw [eqg_139]; exact (hT0.get hfo_132).up (hbg_105.2.1 16 (by decide) (by decide) (by decide)).2 (by omega) (by omega) (by omega) (fun h9 => by exfalso; omega))
            have hMm_136 : (∀ z9, fldI (f_141 o0) 6 = some z9 → v_7.toInt ≤ z9.toInt) := by rw [ef_141]; exact (fun z9 h9 => hMm_136 z9 (by rw [up_ne (kd_ne ka_2 ko0 (by decide))] at h9; exact h9))
            have hfo_143 : f_141 a_2 = .inl (cI, 1560, .inl g_139) := by rw [ef_141]; exact up_self
            have ql_144 : y_137 = g_139 (Int32.toNatClampNeg x_124) := by rw [eqg_139, pk_us]
            refine lv_aload_n hx hb dX12_item_134 rfl (lv_at hl 1 rfl) ?_
            refine tk_ViP (As := []) (rest := []) (n := 0) hx hb hml hown hU hN hZ (s_X12_sign_k12 l (dC, dI) cI cL cZ cR cG cH Z kd L f_141 hG o0 mo0 ko0) wd_573 wd_574 wd_575 wd_5 wd_576 (by decide +kernel) ⟨Nat.le_of_ble_eq_true rfl, Nat.le_of_ble_eq_true rfl⟩ hK hP hD hS mo0 hfo_142 12 rfl rfl rfl hl.1 rfl (Nat.le_of_ble_eq_true rfl) dX12_item_135 ⟨Nat.le_of_ble_eq_true rfl, Nat.le_of_ble_eq_true rfl⟩ (fun x_145 f_146 H locs hw hP hD hS => ?_)
            obtain ⟨hG, bx_145, hkc_147, hra_148, hfa_149, hpost_150⟩ := hw
            have hfo_152 : f_146 a_2 = .inl (cI, 1560, .inl g_139) := by rw [hkc_147 a_2 (by rw [ka_2]; decide)]; exact hfo_143
            have hfr0 : ∀ b, kd b ≠ 12 → kd b ≠ 576 → f_146 b = f b := fun b q12 q576 => (hkc_147 b q12).trans (hfr0 b q12 q576)
            have hrA12 : ∀ b, kd b = 12 → ∀ j, fldR (f_146 b) j = fldR (f b) j := fun b kb j => (hra_148 b kb j).trans (hrA12 b kb j)
            have hfA12 : ∀ b, kd b = 12 → ∀ j, j ≠ 6 → j ≠ 7 → j ≠ 8 → j ≠ 14 → fldI (f_146 b) j = fldI (f b) j := fun b kb j n6 n7 n8 n14 => (hfa_149 b kb j n6).trans (hfA12 b kb j n6 n7 n8 n14)
            have hT0 : frel kd 576 7 f_146 a_2 := hT0.keep (fun b q => hkc_147 b (by rw [q]; decide))
            obtain ⟨v_153, hfo_154, fa_155⟩ := op12_6 hfo_142 (hG _ mo0) ko0 (hra_148 o0 ko0) (hfa_149 o0 ko0)
            have bv_153 : (0 ≤ v_153.toInt ∧ v_153.toInt ≤ 600) := fa12_6 fa_155
            have hqhpost_150 := hpost_150 v_133 v_153 (by rw [hfo_142]; rfl) (by rw [hfo_154]; rfl)
            have hMm_156 : (∀ z9, fldI (f_146 o0) 6 = some z9 → v_7.toInt ≤ z9.toInt) := fun z9 h9 => by rw [hfo_154] at h9; obtain rfl := Option.some.inj h9; have h8 := hMm_136 v_133 (by rw [hfo_142]; rfl); omega
            refine lv_bipush (v := 42) hx hb dX12_item_138 (by decide) ?_
            have hcut_160 : ∀ (f_158 : Nat → va_E), GI (okc cI cL cZ cR cG cH L kd) kd L f_158 → ∀ (H : Heap) (locs : List Loc), va_P (dC, dI) vwCl (va_pl L f_158) H → va_S (fun q => q ∈ L) s.heap H locs → va_D (fun q => q ∈ L) (va_pl L f_158) → (∀ b, kd b ≠ 12 → kd b ≠ 576 → f_158 b = f b) → (∀ b, kd b = 12 → ∀ j, fldR (f_158 b) j = fldR (f b) j) → (∀ b, kd b = 12 → ∀ j, j ≠ 6 → j ≠ 7 → j ≠ 8 → j ≠ 14 → fldI (f_158 b) j = fldI (f b) j) → (f_158 a_2 = .inl (cI, 1560, .inl g_139)) → frel kd 576 7 f_158 a_2 → (∀ z9, fldI (f_158 o0) 6 = some z9 → v_7.toInt ≤ z9.toInt) → ∀ (ls : Array Slot), lv_has ls 3 [(2, .int y_70), (0, .ref o0), (1, .int p1)] → W p l e (headSpec (wU yX12_item cX12_item 3 (some .boolean)) { frames := 4, cells := 0, slots := 0, locals := 83 }).room s m [.ref o0, .int p1].toArray below meth c H locs 0 0 (MQ below (va_Qi (fun (r : Int32) (f9 : Nat → va_E) => GI (okc cI cL cZ cR cG cH L kd) kd L f9 ∧ (0 ≤ r.toInt ∧ r.toInt ≤ 1) ∧ (∀ b, kd b ≠ 12 → kd b ≠ 576 → f9 b = f b) ∧ (∀ b, kd b = 12 → ∀ j, fldR (f9 b) j = fldR (f b) j) ∧ (∀ b, kd b = 12 → ∀ j, j ≠ 6 → j ≠ 7 → j ≠ 8 → j ≠ 14 → fldI (f9 b) j = fldI (f b) j) ∧ (∀ (w6 z6 : Int32), fldI (f o0) 6 = some w6 → fldI (f9 o0) 6 = some z6 → w6.toInt ≤ z6.toInt) ∧ (∀ d9, fldR (f9 o0) 1 = some d9 → frel kd 576 7 f9 d9)) (qP (dC, dI) cI cL cZ cR cG cH L) (fun q => q ∈ L)) [.ref o0, .int p1].toArray s 0 0 (fun q => q ∈ L)) (F0 m 153 ls []) := by
              intro f_158 hG H locs hP hS hD hfr0 hrA12 hfA12 hfo_159 hT0 hMm_156 ls hl
              refine lv_iconst (v := 1) hx hb dX12_item_153 (by decide) ?_
              obtain ⟨v_161, v_162, v_163, v_164, hfo_165, fa_166⟩ := op12_6_7_8_14 hfo_57 (hG _ mo0) ko0 (hrA12 o0 ko0) (hfA12 o0 ko0)
              have bv_161 : (0 ≤ v_161.toInt ∧ v_161.toInt ≤ 600) := fa12_6 fa_166
              have bv_162 : ((-2147483648) ≤ v_162.toInt ∧ v_162.toInt ≤ 2147483647) := ⟨i32_lo _, i32_hi _⟩
              have bv_163 : ((-2147483648) ≤ v_163.toInt ∧ v_163.toInt ≤ 2147483647) := ⟨i32_lo _, i32_hi _⟩
              have bv_164 : ((-2147483648) ≤ v_164.toInt ∧ v_164.toInt ≤ 2147483647) := ⟨i32_lo _, i32_hi _⟩
              have hM9 := hMm_156 v_161 (by rw [hfo_165]; rfl)
              exact W.zret (v := 1) (ty := .boolean) hx hb hr rfl (fun t ht hW => ⟨⟨1, f_158, rfl, ⟨hG, (by decide), hfr0, hrA12, hfA12, (by intro w6 z6 e6 d6; rw [hfo_57] at e6; rw [hfo_165] at d6; obtain rfl := Option.some.inj e6; obtain rfl := Option.some.inj d6; (try rw [ti_1]) <;> omega), (fun d9 h9 => by rw [hfo_165] at h9; obtain rfl := Option.some.inj h9; exact hT0)⟩, by rw [ht]; exact hP, va_K.moved hW.alike hK, pl_in hD⟩, hS.F ht⟩) hS.2.2 dX12_item_154
            refine lv_icmp_ne (tgt := 153) hx hb dX12_item_140 (by decide) (fun c_167 => ?_) (fun c_167 => ?_)
            · skip
              rw [← Int32.toInt_inj, ti_42] at c_167
              exact hcut_160 f_146 hG _ _ hP hS hD hfr0 hrA12 hfA12 hfo_152 hT0 hMm_156 ls (lv_sub hl [0, 1, 2] rfl)
            · skip
              rw [← Int32.toInt_inj, ti_42] at c_167
              have hclc_168 : (0 ≤ v_153.toInt ∧ v_153.toInt ≤ 599) := by constructor <;> omega
              refine lv_aload_n hx hb dX12_item_143 rfl (lv_at hl 1 rfl) ?_
              refine lv_dup hx hb dX12_item_144 rfl ?_
              refine tk_getP (D := (dC, dI)) (ci := 12) (v := .int v_153) (C := RX12) (T := TX12) (N := 56) hx hb hU inlX12 hown hK hP mo0 hfo_154 rfl 6 (by decide) (hU _ wd_566) (fun _ h9 => h9) rfl dX12_item_145 ?_
              refine lv_iconst (v := 1) hx hb dX12_item_148 (by decide) ?_
              refine lv_iadd hx hb dX12_item_149 ?_
              refine lv_topi (fun x_169 ex_169 => ?_)
              have hx_169 : x_169.toInt = v_153.toInt + 1 := by rw [ex_169, ad_I (by rw [ti_1]; omega) (by rw [ti_1]; omega), ti_1]
              have bx_169 : (1 ≤ x_169.toInt ∧ x_169.toInt ≤ 600) := by constructor <;> omega
              refine tk_putP (D := (dC, dI)) (ci := 12) (v := .int x_169) (ty := .int) (C := RX12) (T := TX12) (N := 56) hx hb hU inlX12 tyX12 tyX12_ok nmX12 hown hK hP hD hS mo0 hfo_154 rfl 6 (by decide) (hU _ wd_566) (fun _ h9 => h9) rfl (by decide +kernel) rfl rfl (Nat.le_of_ble_eq_true rfl) dX12_item_150 (fun H locs hP hD hS => ?_)
              have fa_170 := fu12_6 (y := x_169) fa_155 (by constructor <;> omega)
              obtain ⟨f_172, ef_172⟩ : ∃ y : Nat → va_E, y = va_up f_146 o0 (.inr (12, [.ref a_1, .ref a_2, .ref a_3, .int v_4, .ref a_5, .int v_6, .int x_169, .int v_80, .int v_81, .int v_10, .int v_11, .int v_12, .int v_13, .int v_14, .int v_82, .ref a_16, .ref a_17, .ref a_18, .ref a_19, .ref a_20, .ref a_21, .ref a_22, .ref a_23, .int v_24, .int v_25, .int v_26, .int v_27, .int v_28, .ref a_29, .int v_30, .ref a_31, .ref a_32, .int v_33, .int v_34, .ref a_35, .int v_36, .ref a_37, .ref a_38, .int v_39, .int v_40, .ref a_41, .ref a_42, .ref a_43, .int v_44, .ref a_45, .ref a_46, .ref a_47, .ref a_48, .ref a_49, .ref a_50, .ref a_51, .ref a_52, .ref a_53, .int v_54, .int v_55, .ref a_56])) := ⟨_, rfl⟩
              have hP : va_P (dC, dI) vwCl (va_pl L f_172) H := by rw [ef_172]; exact hP
              have hD : va_D (fun q => q ∈ L) (va_pl L f_172) := by rw [ef_172]; exact hD
              have hG : GI (okc cI cL cZ cR cG cH L kd) kd L f_172 := by rw [ef_172]; exact hG.set o0 (mk_12 ko0 (fo12 fa_170))
              have hfo_173 : f_172 a_2 = .inl (cI, 1560, .inl g_139) := by rw [ef_172, up_ne (kd_ne ko0 ka_2 (by decide))]; exact hfo_152
              have hfr0 : ∀ b, kd b ≠ 12 → kd b ≠ 576 → f_172 b = f b := fun b q12 q576 => (congrFun ef_172 b).trans ((up_ne (fun e9 => q12 (by rw [e9]; exact ko0))).trans (hfr0 b q12 q576))
              have hrA12 : ∀ b, kd b = 12 → ∀ j, fldR (f_172 b) j = fldR (f b) j := fun b kb j => ((congrArg (fun x => fldR x j) (congrFun ef_172 b)).trans (fra_up (fun j => by rw [hfo_154]; exact fr_set (k := 6) rfl rfl) j b)).trans (hrA12 b kb j)
              have hfA12 : ∀ b, kd b = 12 → ∀ j, j ≠ 6 → j ≠ 7 → j ≠ 8 → j ≠ 14 → fldI (f_172 b) j = fldI (f b) j := fun b kb j n6 n7 n8 n14 => ((congrArg (fun x => fldI x j) (congrFun ef_172 b)).trans (fia_up (fun h9 => by rw [hfo_154]; exact fi_set (k := 6) rfl h9) n6 b)).trans (hfA12 b kb j n6 n7 n8 n14)
              have hT0 : frel kd 576 7 f_172 a_2 := by rw [ef_172]; exact hT0.keep (fun b q => up_ne (kd_ne ko0 q (by decide)))
              have hMm_156 : (∀ z9, fldI (f_172 o0) 6 = some z9 → v_7.toInt ≤ z9.toInt) := by rw [ef_172]; exact (fun z9 h9 => by rw [up_self] at h9; obtain rfl := Option.some.inj h9; have h8 := hMm_156 v_153 (by rw [hfo_154]; rfl); omega)
              have hfo_174 : f_172 o0 = .inr (12, [.ref a_1, .ref a_2, .ref a_3, .int v_4, .ref a_5, .int v_6, .int x_169, .int v_80, .int v_81, .int v_10, .int v_11, .int v_12, .int v_13, .int v_14, .int v_82, .ref a_16, .ref a_17, .ref a_18, .ref a_19, .ref a_20, .ref a_21, .ref a_22, .ref a_23, .int v_24, .int v_25, .int v_26, .int v_27, .int v_28, .ref a_29, .int v_30, .ref a_31, .ref a_32, .int v_33, .int v_34, .ref a_35, .int v_36, .ref a_37, .ref a_38, .int v_39, .int v_40, .ref a_41, .ref a_42, .ref a_43, .int v_44, .ref a_45, .ref a_46, .ref a_47, .ref a_48, .ref a_49, .ref a_50, .ref a_51, .ref a_52, .ref a_53, .int v_54, .int v_55, .ref a_56]) := by rw [ef_172]; exact up_self
              exact hcut_160 f_172 hG _ _ hP hS hD hfr0 hrA12 hfA12 hfo_173 hT0 hMm_156 ls (lv_sub hl [0, 1, 2] rfl)
          refine lv_icmp_ne (tgt := 132) hx hb dX12_item_125 (by decide) (fun c_175 => ?_) (fun c_175 => ?_)
          · skip
            rw [← Int32.toInt_inj, ti_42] at c_175
            refine lv_iconst (v := 0) hx hb dX12_item_132 (by decide) ?_
            exact hcut_138 0 (by decide) ls (lv_sub hl [0, 1, 2] rfl)
          · skip
            rw [← Int32.toInt_inj, ti_42] at c_175
            refine lv_iconst (v := 1) hx hb dX12_item_128 (by decide) ?_
            refine lv_goto (tgt := 133) hx hb dX12_item_129 (by decide) ?_
            exact hcut_138 1 (by decide) ls (lv_sub hl [0, 1, 2] rfl)
        · skip
          rw [← Int32.toInt_inj, ti_58] at c_123
          have hclc_176 : (0 ≤ v_119.toInt ∧ v_119.toInt ≤ 599) := by constructor <;> omega
          refine lv_aload_n hx hb dX12_item_72 rfl (lv_at hl 1 rfl) ?_
          refine lv_dup hx hb dX12_item_73 rfl ?_
          refine tk_getP (D := (dC, dI)) (ci := 12) (v := .int v_119) (C := RX12) (T := TX12) (N := 56) hx hb hU inlX12 hown hK hP mo0 hfo_120 rfl 6 (by decide) (hU _ wd_566) (fun _ h9 => h9) rfl dX12_item_74 ?_
          refine lv_iconst (v := 1) hx hb dX12_item_77 (by decide) ?_
          refine lv_iadd hx hb dX12_item_78 ?_
          refine lv_topi (fun x_177 ex_177 => ?_)
          have hx_177 : x_177.toInt = v_119.toInt + 1 := by rw [ex_177, ad_I (by rw [ti_1]; omega) (by rw [ti_1]; omega), ti_1]
          have bx_177 : (1 ≤ x_177.toInt ∧ x_177.toInt ≤ 600) := by constructor <;> omega
          refine tk_putP (D := (dC, dI)) (ci := 12) (v := .int x_177) (ty := .int) (C := RX12) (T := TX12) (N := 56) hx hb hU inlX12 tyX12 tyX12_ok nmX12 hown hK hP hD hS mo0 hfo_120 rfl 6 (by decide) (hU _ wd_566) (fun _ h9 => h9) rfl (by decide +kernel) rfl rfl (Nat.le_of_ble_eq_true rfl) dX12_item_79 (fun H locs hP hD hS => ?_)
          have fa_178 := fu12_6 (y := x_177) fa_121 (by constructor <;> omega)
          obtain ⟨f_180, ef_180⟩ : ∃ y : Nat → va_E, y = va_up f_112 o0 (.inr (12, [.ref a_1, .ref a_2, .ref a_3, .int v_4, .ref a_5, .int v_6, .int x_177, .int v_80, .int v_81, .int v_10, .int v_11, .int v_12, .int v_13, .int v_14, .int v_82, .ref a_16, .ref a_17, .ref a_18, .ref a_19, .ref a_20, .ref a_21, .ref a_22, .ref a_23, .int v_24, .int v_25, .int v_26, .int v_27, .int v_28, .ref a_29, .int v_30, .ref a_31, .ref a_32, .int v_33, .int v_34, .ref a_35, .int v_36, .ref a_37, .ref a_38, .int v_39, .int v_40, .ref a_41, .ref a_42, .ref a_43, .int v_44, .ref a_45, .ref a_46, .ref a_47, .ref a_48, .ref a_49, .ref a_50, .ref a_51, .ref a_52, .ref a_53, .int v_54, .int v_55, .ref a_56])) := ⟨_, rfl⟩
          have hP : va_P (dC, dI) vwCl (va_pl L f_180) H := by rw [ef_180]; exact hP
          have hD : va_D (fun q => q ∈ L) (va_pl L f_180) := by rw [ef_180]; exact hD
          have hG : GI (okc cI cL cZ cR cG cH L kd) kd L f_180 := by rw [ef_180]; exact hG.set o0 (mk_12 ko0 (fo12 fa_178))
          have hfo_181 : f_180 a_2 = .inl (cI, 1560, .inl g_105) := by rw [ef_180, up_ne (kd_ne ko0 ka_2 (by decide))]; exact hfo_118
          have hfr0 : ∀ b, kd b ≠ 12 → kd b ≠ 576 → f_180 b = f b := fun b q12 q576 => (congrFun ef_180 b).trans ((up_ne (fun e9 => q12 (by rw [e9]; exact ko0))).trans (hfr0 b q12 q576))
          have hrA12 : ∀ b, kd b = 12 → ∀ j, fldR (f_180 b) j = fldR (f b) j := fun b kb j => ((congrArg (fun x => fldR x j) (congrFun ef_180 b)).trans (fra_up (fun j => by rw [hfo_120]; exact fr_set (k := 6) rfl rfl) j b)).trans (hrA12 b kb j)
          have hfA12 : ∀ b, kd b = 12 → ∀ j, j ≠ 6 → j ≠ 7 → j ≠ 8 → j ≠ 14 → fldI (f_180 b) j = fldI (f b) j := fun b kb j n6 n7 n8 n14 => ((congrArg (fun x => fldI x j) (congrFun ef_180 b)).trans (fia_up (fun h9 => by rw [hfo_120]; exact fi_set (k := 6) rfl h9) n6 b)).trans (hfA12 b kb j n6 n7 n8 n14)
          have hT0 : frel kd 576 7 f_180 a_2 := by rw [ef_180]; exact hT0.keep (fun b q => up_ne (kd_ne ko0 q (by decide)))
          have hMm_122 : (∀ z9, fldI (f_180 o0) 6 = some z9 → v_7.toInt ≤ z9.toInt) := by rw [ef_180]; exact (fun z9 h9 => by rw [up_self] at h9; obtain rfl := Option.some.inj h9; have h8 := hMm_122 v_119 (by rw [hfo_120]; rfl); omega)
          have hfo_182 : f_180 o0 = .inr (12, [.ref a_1, .ref a_2, .ref a_3, .int v_4, .ref a_5, .int v_6, .int x_177, .int v_80, .int v_81, .int v_10, .int v_11, .int v_12, .int v_13, .int v_14, .int v_82, .ref a_16, .ref a_17, .ref a_18, .ref a_19, .ref a_20, .ref a_21, .ref a_22, .ref a_23, .int v_24, .int v_25, .int v_26, .int v_27, .int v_28, .ref a_29, .int v_30, .ref a_31, .ref a_32, .int v_33, .int v_34, .ref a_35, .int v_36, .ref a_37, .ref a_38, .int v_39, .int v_40, .ref a_41, .ref a_42, .ref a_43, .int v_44, .ref a_45, .ref a_46, .ref a_47, .ref a_48, .ref a_49, .ref a_50, .ref a_51, .ref a_52, .ref a_53, .int v_54, .int v_55, .ref a_56]) := by rw [ef_180]; exact up_self
          refine lv_aload_n hx hb dX12_item_82 rfl (lv_at hl 1 rfl) ?_
          refine tk_ViP (As := []) (rest := []) (n := 0) hx hb hml hown hU hN hZ (s_X12_takesX_k12 l (dC, dI) cI cL cZ cR cG cH Z kd L f_180 hG o0 mo0 ko0) wd_650 wd_651 wd_652 wd_5 wd_653 (by decide +kernel) ⟨Nat.le_of_ble_eq_true rfl, Nat.le_of_ble_eq_true rfl⟩ hK hP hD hS mo0 hfo_182 12 rfl rfl rfl hl.1 rfl (Nat.le_of_ble_eq_true rfl) dX12_item_83 ⟨Nat.le_of_ble_eq_true rfl, Nat.le_of_ble_eq_true rfl⟩ (fun x_183 f_184 H locs hw hP hD hS => ?_)
          obtain ⟨hG, bx_183, hkc_185, hra_186, hfa_187, hpost_188⟩ := hw
          have hfo_190 : f_184 a_2 = .inl (cI, 1560, .inl g_105) := by rw [hkc_185 a_2 (by rw [ka_2]; decide)]; exact hfo_181
          have hfr0 : ∀ b, kd b ≠ 12 → kd b ≠ 576 → f_184 b = f b := fun b q12 q576 => (hkc_185 b q12).trans (hfr0 b q12 q576)
          have hrA12 : ∀ b, kd b = 12 → ∀ j, fldR (f_184 b) j = fldR (f b) j := fun b kb j => (hra_186 b kb j).trans (hrA12 b kb j)
          have hfA12 : ∀ b, kd b = 12 → ∀ j, j ≠ 6 → j ≠ 7 → j ≠ 8 → j ≠ 14 → fldI (f_184 b) j = fldI (f b) j := fun b kb j n6 n7 n8 n14 => (hfa_187 b kb j n6 n7 n8 n14).trans (hfA12 b kb j n6 n7 n8 n14)
          have hT0 : frel kd 576 7 f_184 a_2 := hT0.keep (fun b q => hkc_185 b (by rw [q]; decide))
          obtain ⟨v_191, v_192, v_193, v_194, hfo_195, fa_196⟩ := op12_6_7_8_14 hfo_182 (hG _ mo0) ko0 (hra_186 o0 ko0) (hfa_187 o0 ko0)
          have bv_191 : (0 ≤ v_191.toInt ∧ v_191.toInt ≤ 600) := fa12_6 fa_196
          have bv_192 : ((-2147483648) ≤ v_192.toInt ∧ v_192.toInt ≤ 2147483647) := ⟨i32_lo _, i32_hi _⟩
          have bv_193 : ((-2147483648) ≤ v_193.toInt ∧ v_193.toInt ≤ 2147483647) := ⟨i32_lo _, i32_hi _⟩
          have bv_194 : ((-2147483648) ≤ v_194.toInt ∧ v_194.toInt ≤ 2147483647) := ⟨i32_lo _, i32_hi _⟩
          have hqhpost_188 := hpost_188 x_177 v_191 (by rw [hfo_182]; rfl) (by rw [hfo_195]; rfl)
          have hMm_197 : (∀ z9, fldI (f_184 o0) 6 = some z9 → v_7.toInt ≤ z9.toInt) := fun z9 h9 => by rw [hfo_195] at h9; obtain rfl := Option.some.inj h9; have h8 := hMm_122 x_177 (by rw [hfo_182]; rfl); omega
          refine lv_if_ne (tgt := 91) hx hb dX12_item_86 (by decide) (fun c_198 => ?_) (fun c_198 => ?_)
          · skip
            rw [← Int32.toInt_inj, ti_0] at c_198
            refine lv_aload_n hx hb dX12_item_91 rfl (lv_at hl 1 rfl) ?_
            refine tk_getP (D := (dC, dI)) (ci := 12) (v := .ref a_2) (C := RX12) (T := TX12) (N := 56) hx hb hU inlX12 hown hK hP mo0 hfo_195 rfl 1 (by decide) (hU _ wd_170) (fun _ h9 => h9) rfl dX12_item_92 ?_
            refine lv_iload_n hx hb dX12_item_95 rfl (lv_at hl 2 rfl) ?_
            refine lv_iconst (v := 1) hx hb dX12_item_96 (by decide) ?_
            refine lv_iadd hx hb dX12_item_97 ?_
            refine lv_topi (fun x_199 ex_199 => ?_)
            have hx_199 : x_199.toInt = p1.toInt + 1 := by rw [ex_199, ad_I (by rw [ti_1]; omega) (by rw [ti_1]; omega), ti_1]
            have bx_199 : (601 ≤ x_199.toInt ∧ x_199.toInt ≤ 1557) := by constructor <;> omega
            refine lv_aload_n hx hb dX12_item_98 rfl (lv_at hl 1 rfl) ?_
            refine tk_getP (D := (dC, dI)) (ci := 12) (v := .int v_194) (C := RX12) (T := TX12) (N := 56) hx hb hU inlX12 hown hK hP mo0 hfo_195 rfl 14 (by decide) (hU _ wd_654) (fun _ h9 => h9) rfl dX12_item_99 ?_
            refine tk_istP hx hb hK hP hD hS 0 ma_2 hfo_190 rfl (vp_in_iff.mpr (by constructor <;> omega)) dX12_item_102 (fun H locs hP hD hS => ?_)
            have hc9 := cl_I (i := x_199) (by omega)
            obtain ⟨g_200, eqg_200⟩ : ∃ y : Nat → Int32, y = upd g_105 (Int32.toNatClampNeg x_199) v_194 := ⟨_, rfl⟩
            rw [← eqg_200] at hP hD
            have hbg_200 : wOK g_200 := by rw [eqg_200]; exact ⟨hbg_105.1.up (fun h1 h2 h3 => by exfalso; omega), hbg_105.2.1.up (fun h1 h2 h3 => by exfalso; omega), hbg_105.2.2.1.up (fun h1 h2 h3 => by exfalso; omega), hbg_105.2.2.2.1.up (fun h1 h2 h3 => by exfalso; omega), hbg_105.2.2.2.2.1.up (fun h1 h2 h3 => by exfalso; omega), hbg_105.2.2.2.2.2.1.up (fun h1 h2 h3 => by exfalso; omega), hbg_105.2.2.2.2.2.2.1.up (fun h1 h2 h3 => by exfalso; omega), hbg_105.2.2.2.2.2.2.2.1.up (fun h1 h2 h3 => by exfalso; omega), hbg_105.2.2.2.2.2.2.2.2.1.up (fun h1 h2 h3 => by exfalso; omega), hbg_105.2.2.2.2.2.2.2.2.2.1.up (fun h1 h2 h3 => by exfalso; omega), hbg_105.2.2.2.2.2.2.2.2.2.2.1.up (fun h1 h2 h3 => by exfalso; omega), hbg_105.2.2.2.2.2.2.2.2.2.2.2.1.up (fun h1 h2 h3 => by exfalso; omega), hbg_105.2.2.2.2.2.2.2.2.2.2.2.2.1.up (fun h1 h2 h3 => by exfalso; omega), hbg_105.2.2.2.2.2.2.2.2.2.2.2.2.2.1.up (fun h1 h2 h3 => by exfalso; omega), hbg_105.2.2.2.2.2.2.2.2.2.2.2.2.2.2.1.up (fun h1 h2 h3 => by exfalso; omega), hbg_105.2.2.2.2.2.2.2.2.2.2.2.2.2.2.2.up (fun h1 h2 h3 => by exfalso; omega)⟩
            obtain ⟨f_202, ef_202⟩ : ∃ y : Nat → va_E, y = va_up f_184 a_2 (.inl (cI, 1560, .inl g_200)) := ⟨_, rfl⟩
            have hP : va_P (dC, dI) vwCl (va_pl L f_202) H := by rw [ef_202]; exact hP
            have hD : va_D (fun q => q ∈ L) (va_pl L f_202) := by rw [ef_202]; exact hD
            have hG : GI (okc cI cL cZ cR cG cH L kd) kd L f_202 := by rw [ef_202]; exact hG.set a_2 (mk_576 ka_2 ⟨_, rfl, hbg_200⟩)
            have hfo_203 : f_202 o0 = .inr (12, [.ref a_1, .ref a_2, .ref a_3, .int v_4, .ref a_5, .int v_6, .int v_191, .int v_192, .int v_193, .int v_10, .int v_11, .int v_12, .int v_13, .int v_14, .int v_194, .ref a_16, .ref a_17, .ref a_18, .ref a_19, .ref a_20, .ref a_21, .ref a_22, .ref a_23, .int v_24, .int v_25, .int v_26, .int v_27, .int v_28, .ref a_29, .int v_30, .ref a_31, .ref a_32, .int v_33, .int v_34, .ref a_35, .int v_36, .ref a_37, .ref a_38, .int v_39, .int v_40, .ref a_41, .ref a_42, .ref a_43, .int v_44, .ref a_45, .ref a_46, .ref a_47, .ref a_48, .ref a_49, .ref a_50, .ref a_51, .ref a_52, .ref a_53, .int v_54, .int v_55, .ref a_56]) := by rw [ef_202, up_ne (kd_ne ka_2 ko0 (by decide))]; exact hfo_195
            have hfr0 : ∀ b, kd b ≠ 12 → kd b ≠ 576 → f_202 b = f b := fun b q12 q576 => (congrFun ef_202 b).trans ((up_ne (fun e9 => q576 (by rw [e9]; exact ka_2))).trans (hfr0 b q12 q576))
            have hrA12 : ∀ b, kd b = 12 → ∀ j, fldR (f_202 b) j = fldR (f b) j := fun b kb j => (congrArg (fun x => fldR x j) ((congrFun ef_202 b).trans (up_ne (kd_ne ka_2 kb (by decide))))).trans (hrA12 b kb j)
            have hfA12 : ∀ b, kd b = 12 → ∀ j, j ≠ 6 → j ≠ 7 → j ≠ 8 → j ≠ 14 → fldI (f_202 b) j = fldI (f b) j := fun b kb j n6 n7 n8 n14 => (congrArg (fun x => fldI x j) ((congrFun ef_202 b).trans (up_ne (kd_ne ka_2 kb (by decide))))).trans (hfA12 b kb j n6 n7 n8 n14)
            have hT0 : frel kd 576 7 f_202 a_2 := by rw [ef_202]; exact frel.mk ka_2 up_self (by rw [eqg_200]; exact (hT0.get hfo_190).up (hbg_105.2.1 16 (by decide) (by decide) (by decide)).2 (by omega) (by omega) (by omega) (fun h9 => by exfalso; omega))
            have hMm_197 : (∀ z9, fldI (f_202 o0) 6 = some z9 → v_7.toInt ≤ z9.toInt) := by rw [ef_202]; exact (fun z9 h9 => hMm_197 z9 (by rw [up_ne (kd_ne ka_2 ko0 (by decide))] at h9; exact h9))
            have hfo_204 : f_202 a_2 = .inl (cI, 1560, .inl g_200) := by rw [ef_202]; exact up_self
            have ql_205 : v_194 = g_200 (Int32.toNatClampNeg x_199) := by rw [eqg_200, pk_us]
            refine lv_aload_n hx hb dX12_item_103 rfl (lv_at hl 1 rfl) ?_
            refine tk_getP (D := (dC, dI)) (ci := 12) (v := .ref a_2) (C := RX12) (T := TX12) (N := 56) hx hb hU inlX12 hown hK hP mo0 hfo_203 rfl 1 (by decide) (hU _ wd_170) (fun _ h9 => h9) rfl dX12_item_104 ?_
            refine lv_iload_n hx hb dX12_item_107 rfl (lv_at hl 2 rfl) ?_
            refine lv_iconst (v := 2) hx hb dX12_item_108 (by decide) ?_
            refine lv_iadd hx hb dX12_item_109 ?_
            refine lv_topi (fun x_206 ex_206 => ?_)
            have hx_206 : x_206.toInt = p1.toInt + 2 := by rw [ex_206, ad_I (by rw [ti_2]; omega) (by rw [ti_2]; omega), ti_2]
            have bx_206 : (602 ≤ x_206.toInt ∧ x_206.toInt ≤ 1558) := by constructor <;> omega
            refine lv_iconst (v := 0) hx hb dX12_item_110 (by decide) ?_
            refine tk_istP hx hb hK hP hD hS 0 ma_2 hfo_204 rfl (vp_in_iff.mpr (by constructor <;> omega)) dX12_item_111 (fun H locs hP hD hS => ?_)
            have hc9 := cl_I (i := x_206) (by omega)
            obtain ⟨g_207, eqg_207⟩ : ∃ y : Nat → Int32, y = upd g_200 (Int32.toNatClampNeg x_206) 0 := ⟨_, rfl⟩
            rw [← eqg_207] at hP hD
            have hbg_207 : wOK g_207 := by rw [eqg_207]; exact ⟨hbg_200.1.up (fun h1 h2 h3 => by exfalso; omega), hbg_200.2.1.up (fun h1 h2 h3 => by exfalso; omega), hbg_200.2.2.1.up (fun h1 h2 h3 => by exfalso; omega), hbg_200.2.2.2.1.up (fun h1 h2 h3 => by exfalso; omega), hbg_200.2.2.2.2.1.up (fun h1 h2 h3 => by exfalso; omega), hbg_200.2.2.2.2.2.1.up (fun h1 h2 h3 => by exfalso; omega), hbg_200.2.2.2.2.2.2.1.up (fun h1 h2 h3 => by exfalso; omega), hbg_200.2.2.2.2.2.2.2.1.up (fun h1 h2 h3 => by exfalso; omega), hbg_200.2.2.2.2.2.2.2.2.1.up (fun h1 h2 h3 => by exfalso; omega), hbg_200.2.2.2.2.2.2.2.2.2.1.up (fun h1 h2 h3 => by exfalso; omega), hbg_200.2.2.2.2.2.2.2.2.2.2.1.up (fun h1 h2 h3 => by exfalso; omega), hbg_200.2.2.2.2.2.2.2.2.2.2.2.1.up (fun h1 h2 h3 => by exfalso; omega), hbg_200.2.2.2.2.2.2.2.2.2.2.2.2.1.up (fun h1 h2 h3 => by exfalso; omega), hbg_200.2.2.2.2.2.2.2.2.2.2.2.2.2.1.up (fun h1 h2 h3 => by exfalso; omega), hbg_200.2.2.2.2.2.2.2.2.2.2.2.2.2.2.1.up (fun h1 h2 h3 => by exfalso; omega), hbg_200.2.2.2.2.2.2.2.2.2.2.2.2.2.2.2.up (fun h1 h2 h3 => by exfalso; omega)⟩
            obtain ⟨f_209, ef_209⟩ : ∃ y : Nat → va_E, y = va_up f_202 a_2 (.inl (cI, 1560, .inl g_207)) := ⟨_, rfl⟩
            have hP : va_P (dC, dI) vwCl (va_pl L f_209) H := by rw [ef_209]; exact hP
            have hD : va_D (fun q => q ∈ L) (va_pl L f_209) := by rw [ef_209]; exact hD
            have hG : GI (okc cI cL cZ cR cG cH L kd) kd L f_209 := by rw [ef_209]; exact hG.set a_2 (mk_576 ka_2 ⟨_, rfl, hbg_207⟩)
            have hfo_210 : f_209 o0 = .inr (12, [.ref a_1, .ref a_2, .ref a_3, .int v_4, .ref a_5, .int v_6, .int v_191, .int v_192, .int v_193, .int v_10, .int v_11, .int v_12, .int v_13, .int v_14, .int v_194, .ref a_16, .ref a_17, .ref a_18, .ref a_19, .ref a_20, .ref a_21, .ref a_22, .ref a_23, .int v_24, .int v_25, .int v_26, .int v_27, .int v_28, .ref a_29, .int v_30, .ref a_31, .ref a_32, .int v_33, .int v_34, .ref a_35, .int v_36, .ref a_37, .ref a_38, .int v_39, .int v_40, .ref a_41, .ref a_42, .ref a_43, .int v_44, .ref a_45, .ref a_46, .ref a_47, .ref a_48, .ref a_49, .ref a_50, .ref a_51, .ref a_52, .ref a_53, .int v_54, .int v_55, .ref a_56]) := by rw [ef_209, up_ne (kd_ne ka_2 ko0 (by decide))]; exact hfo_203
            have hfr0 : ∀ b, kd b ≠ 12 → kd b ≠ 576 → f_209 b = f b := fun b q12 q576 => (congrFun ef_209 b).trans ((up_ne (fun e9 => q576 (by rw [e9]; exact ka_2))).trans (hfr0 b q12 q576))
            have hrA12 : ∀ b, kd b = 12 → ∀ j, fldR (f_209 b) j = fldR (f b) j := fun b kb j => (congrArg (fun x => fldR x j) ((congrFun ef_209 b).trans (up_ne (kd_ne ka_2 kb (by decide))))).trans (hrA12 b kb j)
            have hfA12 : ∀ b, kd b = 12 → ∀ j, j ≠ 6 → j ≠ 7 → j ≠ 8 → j ≠ 14 → fldI (f_209 b) j = fldI (f b) j := fun b kb j n6 n7 n8 n14 => (congrArg (fun x => fldI x j) ((congrFun ef_209 b).trans (up_ne (kd_ne ka_2 kb (by decide))))).trans (hfA12 b kb j n6 n7 n8 n14)
            have hT0 : frel kd 576 7 f_209 a_2 := by rw [ef_209]; exact frel.mk ka_2 up_self (by rw [eqg_207]; exact (hT0.get hfo_204).up (hbg_200.2.1 16 (by decide) (by decide) (by decide)).2 (by omega) (by omega) (by omega) (fun h9 => by exfalso; omega))
            have hMm_197 : (∀ z9, fldI (f_209 o0) 6 = some z9 → v_7.toInt ≤ z9.toInt) := by rw [ef_209]; exact (fun z9 h9 => hMm_197 z9 (by rw [up_ne (kd_ne ka_2 ko0 (by decide))] at h9; exact h9))
            have hfo_211 : f_209 a_2 = .inl (cI, 1560, .inl g_207) := by rw [ef_209]; exact up_self
            have ql_212 : 0 = g_207 (Int32.toNatClampNeg x_206) := by rw [eqg_207, pk_us]
            refine lv_aload_n hx hb dX12_item_112 rfl (lv_at hl 1 rfl) ?_
            refine tk_getP (D := (dC, dI)) (ci := 12) (v := .ref a_2) (C := RX12) (T := TX12) (N := 56) hx hb hU inlX12 hown hK hP mo0 hfo_210 rfl 1 (by decide) (hU _ wd_170) (fun _ h9 => h9) rfl dX12_item_113 ?_
            refine lv_iload_n hx hb dX12_item_116 rfl (lv_at hl 2 rfl) ?_
            refine lv_iconst (v := 3) hx hb dX12_item_117 (by decide) ?_
            refine lv_iadd hx hb dX12_item_118 ?_
            refine lv_topi (fun x_213 ex_213 => ?_)
            have hx_213 : x_213.toInt = p1.toInt + 3 := by rw [ex_213, ad_I (by rw [ti_3]; omega) (by rw [ti_3]; omega), ti_3]
            have bx_213 : (603 ≤ x_213.toInt ∧ x_213.toInt ≤ 1559) := by constructor <;> omega
            refine lv_aload_n hx hb dX12_item_119 rfl (lv_at hl 1 rfl) ?_
            refine tk_ViP (As := []) (rest := [.int x_213, .ref a_2]) (n := 0) hx hb hml hown hU hN hZ (s_X12_sign_k12 l (dC, dI) cI cL cZ cR cG cH Z kd L f_209 hG o0 mo0 ko0) wd_573 wd_574 wd_575 wd_5 wd_576 (by decide +kernel) ⟨Nat.le_of_ble_eq_true rfl, Nat.le_of_ble_eq_true rfl⟩ hK hP hD hS mo0 hfo_210 12 rfl rfl rfl hl.1 rfl (Nat.le_of_ble_eq_true rfl) dX12_item_120 ⟨Nat.le_of_ble_eq_true rfl, Nat.le_of_ble_eq_true rfl⟩ (fun x_214 f_215 H locs hw hP hD hS => ?_)
            obtain ⟨hG, bx_214, hkc_216, hra_217, hfa_218, hpost_219⟩ := hw
            have hfo_221 : f_215 a_2 = .inl (cI, 1560, .inl g_207) := by rw [hkc_216 a_2 (by rw [ka_2]; decide)]; exact hfo_211
            have hfr0 : ∀ b, kd b ≠ 12 → kd b ≠ 576 → f_215 b = f b := fun b q12 q576 => (hkc_216 b q12).trans (hfr0 b q12 q576)
            have hrA12 : ∀ b, kd b = 12 → ∀ j, fldR (f_215 b) j = fldR (f b) j := fun b kb j => (hra_217 b kb j).trans (hrA12 b kb j)
            have hfA12 : ∀ b, kd b = 12 → ∀ j, j ≠ 6 → j ≠ 7 → j ≠ 8 → j ≠ 14 → fldI (f_215 b) j = fldI (f b) j := fun b kb j n6 n7 n8 n14 => (hfa_218 b kb j n6).trans (hfA12 b kb j n6 n7 n8 n14)
            have hT0 : frel kd 576 7 f_215 a_2 := hT0.keep (fun b q => hkc_216 b (by rw [q]; decide))
            obtain ⟨v_222, hfo_223, fa_224⟩ := op12_6 hfo_210 (hG _ mo0) ko0 (hra_217 o0 ko0) (hfa_218 o0 ko0)
            have bv_222 : (0 ≤ v_222.toInt ∧ v_222.toInt ≤ 600) := fa12_6 fa_224
            have hqhpost_219 := hpost_219 v_191 v_222 (by rw [hfo_210]; rfl) (by rw [hfo_223]; rfl)
            have hMm_225 : (∀ z9, fldI (f_215 o0) 6 = some z9 → v_7.toInt ≤ z9.toInt) := fun z9 h9 => by rw [hfo_223] at h9; obtain rfl := Option.some.inj h9; have h8 := hMm_197 v_191 (by rw [hfo_210]; rfl); omega
            refine lv_bipush (v := 42) hx hb dX12_item_123 (by decide) ?_
            have hcut_227 : ∀ (y_226 : Int32), (0 ≤ y_226.toInt ∧ y_226.toInt ≤ 1) → ∀ (ls : Array Slot), lv_has ls 3 [(2, .int y_70), (0, .ref o0), (1, .int p1)] → W p l e (headSpec (wU yX12_item cX12_item 3 (some .boolean)) { frames := 4, cells := 0, slots := 0, locals := 83 }).room s m [.ref o0, .int p1].toArray below meth c H locs 0 0 (MQ below (va_Qi (fun (r : Int32) (f9 : Nat → va_E) => GI (okc cI cL cZ cR cG cH L kd) kd L f9 ∧ (0 ≤ r.toInt ∧ r.toInt ≤ 1) ∧ (∀ b, kd b ≠ 12 → kd b ≠ 576 → f9 b = f b) ∧ (∀ b, kd b = 12 → ∀ j, fldR (f9 b) j = fldR (f b) j) ∧ (∀ b, kd b = 12 → ∀ j, j ≠ 6 → j ≠ 7 → j ≠ 8 → j ≠ 14 → fldI (f9 b) j = fldI (f b) j) ∧ (∀ (w6 z6 : Int32), fldI (f o0) 6 = some w6 → fldI (f9 o0) 6 = some z6 → w6.toInt ≤ z6.toInt) ∧ (∀ d9, fldR (f9 o0) 1 = some d9 → frel kd 576 7 f9 d9)) (qP (dC, dI) cI cL cZ cR cG cH L) (fun q => q ∈ L)) [.ref o0, .int p1].toArray s 0 0 (fun q => q ∈ L)) (F0 m 133 ls [.int y_226, .int x_213, .ref a_2]) := by
              intro y_226 by_226 ls hl
              refine tk_istP hx hb hK hP hD hS 0 ma_2 hfo_221 rfl (vp_in_iff.mpr (by constructor <;> omega)) dX12_item_133 (fun H locs hP hD hS => ?_)
              have hc9 := cl_I (i := x_213) (by omega)
              obtain ⟨g_228, eqg_228⟩ : ∃ y : Nat → Int32, y = upd g_207 (Int32.toNatClampNeg x_213) y_226 := ⟨_, rfl⟩
              rw [← eqg_228] at hP hD
              have hbg_228 : wOK g_228 := by rw [eqg_228]; exact ⟨hbg_207.1.up (fun h1 h2 h3 => by exfalso; omega), hbg_207.2.1.up (fun h1 h2 h3 => by exfalso; omega), hbg_207.2.2.1.up (fun h1 h2 h3 => by exfalso; omega), hbg_207.2.2.2.1.up (fun h1 h2 h3 => by exfalso; omega), hbg_207.2.2.2.2.1.up (fun h1 h2 h3 => by exfalso; omega), hbg_207.2.2.2.2.2.1.up (fun h1 h2 h3 => by exfalso; omega), hbg_207.2.2.2.2.2.2.1.up (fun h1 h2 h3 => by exfalso; omega), hbg_207.2.2.2.2.2.2.2.1.up (fun h1 h2 h3 => by exfalso; omega), hbg_207.2.2.2.2.2.2.2.2.1.up (fun h1 h2 h3 => by exfalso; omega), hbg_207.2.2.2.2.2.2.2.2.2.1.up (fun h1 h2 h3 => by exfalso; omega), hbg_207.2.2.2.2.2.2.2.2.2.2.1.up (fun h1 h2 h3 => by exfalso; omega), hbg_207.2.2.2.2.2.2.2.2.2.2.2.1.up (fun h1 h2 h3 => by exfalso; omega), hbg_207.2.2.2.2.2.2.2.2.2.2.2.2.1.up (fun h1 h2 h3 => by exfalso; omega), hbg_207.2.2.2.2.2.2.2.2.2.2.2.2.2.1.up (fun h1 h2 h3 => by exfalso; omega), hbg_207.2.2.2.2.2.2.2.2.2.2.2.2.2.2.1.up (fun h1 h2 h3 => by exfalso; omega), hbg_207.2.2.2.2.2.2.2.2.2.2.2.2.2.2.2.up (fun h1 h2 h3 => by exfalso; omega)⟩
              obtain ⟨f_230, ef_230⟩ : ∃ y : Nat → va_E, y = va_up f_215 a_2 (.inl (cI, 1560, .inl g_228)) := ⟨_, rfl⟩
              have hP : va_P (dC, dI) vwCl (va_pl L f_230) H := by rw [ef_230]; exact hP
              have hD : va_D (fun q => q ∈ L) (va_pl L f_230) := by rw [ef_230]; exact hD
              have hG : GI (okc cI cL cZ cR cG cH L kd) kd L f_230 := by rw [ef_230]; exact hG.set a_2 (mk_576 ka_2 ⟨_, rfl, hbg_228⟩)
              have hfo_231 : f_230 o0 = .inr (12, [.ref a_1, .ref a_2, .ref a_3, .int v_4, .ref a_5, .int v_6, .int v_222, .int v_192, .int v_193, .int v_10, .int v_11, .int v_12, .int v_13, .int v_14, .int v_194, .ref a_16, .ref a_17, .ref a_18, .ref a_19, .ref a_20, .ref a_21, .ref a_22, .ref a_23, .int v_24, .int v_25, .int v_26, .int v_27, .int v_28, .ref a_29, .int v_30, .ref a_31, .ref a_32, .int v_33, .int v_34, .ref a_35, .int v_36, .ref a_37, .ref a_38, .int v_39, .int v_40, .ref a_41, .ref a_42, .ref a_43, .int v_44, .ref a_45, .ref a_46, .ref a_47, .ref a_48, .ref a_49, .ref a_50, .ref a_51, .ref a_52, .ref a_53, .int v_54, .int v_55, .ref a_56]) := by rw [ef_230, up_ne (kd_ne ka_2 ko0 (by decide))]; exact hfo_223
              have hfr0 : ∀ b, kd b ≠ 12 → kd b ≠ 576 → f_230 b = f b := fun b q12 q576 => (congrFun ef_230 b).trans ((up_ne (fun e9 => q576 (by rw [e9]; exact ka_2))).trans (hfr0 b q12 q576))
              have hrA12 : ∀ b, kd b = 12 → ∀ j, fldR (f_230 b) j = fldR (f b) j := fun b kb j => (congrArg (fun x => fldR x j) ((congrFun ef_230 b).trans (up_ne (kd_ne ka_2 kb (by decide))))).trans (hrA12 b kb j)
              have hfA12 : ∀ b, kd b = 12 → ∀ j, j ≠ 6 → j ≠ 7 → j ≠ 8 → j ≠ 14 → fldI (f_230 b) j = fldI (f b) j := fun b kb j n6 n7 n8 n14 => (congrArg (fun x => fldI x j) ((congrFun ef_230 b).trans (up_ne (kd_ne ka_2 kb (by decide))))).trans (hfA12 b kb j n6 n7 n8 n14)
              have hT0 : frel kd 576 7 f_230 a_2 := by rw [ef_230]; exact frel.mk ka_2 up_self (by rw [eqg_228]; exact (hT0.get hfo_221).up (hbg_207.2.1 16 (by decide) (by decide) (by decide)).2 (by omega) (by omega) (by omega) (fun h9 => by exfalso; omega))
              have hMm_225 : (∀ z9, fldI (f_230 o0) 6 = some z9 → v_7.toInt ≤ z9.toInt) := by rw [ef_230]; exact (fun z9 h9 => hMm_225 z9 (by rw [up_ne (kd_ne ka_2 ko0 (by decide))] at h9; exact h9))
              have hfo_232 : f_230 a_2 = .inl (cI, 1560, .inl g_228) := by rw [ef_230]; exact up_self
              have ql_233 : y_226 = g_228 (Int32.toNatClampNeg x_213) := by rw [eqg_228, pk_us]
              refine lv_aload_n hx hb dX12_item_134 rfl (lv_at hl 1 rfl) ?_
              refine tk_ViP (As := []) (rest := []) (n := 0) hx hb hml hown hU hN hZ (s_X12_sign_k12 l (dC, dI) cI cL cZ cR cG cH Z kd L f_230 hG o0 mo0 ko0) wd_573 wd_574 wd_575 wd_5 wd_576 (by decide +kernel) ⟨Nat.le_of_ble_eq_true rfl, Nat.le_of_ble_eq_true rfl⟩ hK hP hD hS mo0 hfo_231 12 rfl rfl rfl hl.1 rfl (Nat.le_of_ble_eq_true rfl) dX12_item_135 ⟨Nat.le_of_ble_eq_true rfl, Nat.le_of_ble_eq_true rfl⟩ (fun x_234 f_235 H locs hw hP hD hS => ?_)
              obtain ⟨hG, bx_234, hkc_236, hra_237, hfa_238, hpost_239⟩ := hw
              have hfo_241 : f_235 a_2 = .inl (cI, 1560, .inl g_228) := by rw [hkc_236 a_2 (by rw [ka_2]; decide)]; exact hfo_232
              have hfr0 : ∀ b, kd b ≠ 12 → kd b ≠ 576 → f_235 b = f b := fun b q12 q576 => (hkc_236 b q12).trans (hfr0 b q12 q576)
              have hrA12 : ∀ b, kd b = 12 → ∀ j, fldR (f_235 b) j = fldR (f b) j := fun b kb j => (hra_237 b kb j).trans (hrA12 b kb j)
              have hfA12 : ∀ b, kd b = 12 → ∀ j, j ≠ 6 → j ≠ 7 → j ≠ 8 → j ≠ 14 → fldI (f_235 b) j = fldI (f b) j := fun b kb j n6 n7 n8 n14 => (hfa_238 b kb j n6).trans (hfA12 b kb j n6 n7 n8 n14)
              have hT0 : frel kd 576 7 f_235 a_2 := hT0.keep (fun b q => hkc_236 b (by rw [q]; decide))
              obtain ⟨v_242, hfo_243, fa_244⟩ := op12_6 hfo_231 (hG _ mo0) ko0 (hra_237 o0 ko0) (hfa_238 o0 ko0)
              have bv_242 : (0 ≤ v_242.toInt ∧ v_242.toInt ≤ 600) := fa12_6 fa_244
              have hqhpost_239 := hpost_239 v_222 v_242 (by rw [hfo_231]; rfl) (by rw [hfo_243]; rfl)
              have hMm_245 : (∀ z9, fldI (f_235 o0) 6 = some z9 → v_7.toInt ≤ z9.toInt) := fun z9 h9 => by rw [hfo_243] at h9; obtain rfl := Option.some.inj h9; have h8 := hMm_225 v_222 (by rw [hfo_231]; rfl); omega
              refine lv_bipush (v := 42) hx hb dX12_item_138 (by decide) ?_
              have hcut_249 : ∀ (f_247 : Nat → va_E), GI (okc cI cL cZ cR cG cH L kd) kd L f_247 → ∀ (H : Heap) (locs : List Loc), va_P (dC, dI) vwCl (va_pl L f_247) H → va_S (fun q => q ∈ L) s.heap H locs → va_D (fun q => q ∈ L) (va_pl L f_247) → (∀ b, kd b ≠ 12 → kd b ≠ 576 → f_247 b = f b) → (∀ b, kd b = 12 → ∀ j, fldR (f_247 b) j = fldR (f b) j) → (∀ b, kd b = 12 → ∀ j, j ≠ 6 → j ≠ 7 → j ≠ 8 → j ≠ 14 → fldI (f_247 b) j = fldI (f b) j) → (f_247 a_2 = .inl (cI, 1560, .inl g_228)) → frel kd 576 7 f_247 a_2 → (∀ z9, fldI (f_247 o0) 6 = some z9 → v_7.toInt ≤ z9.toInt) → ∀ (ls : Array Slot), lv_has ls 3 [(2, .int y_70), (0, .ref o0), (1, .int p1)] → W p l e (headSpec (wU yX12_item cX12_item 3 (some .boolean)) { frames := 4, cells := 0, slots := 0, locals := 83 }).room s m [.ref o0, .int p1].toArray below meth c H locs 0 0 (MQ below (va_Qi (fun (r : Int32) (f9 : Nat → va_E) => GI (okc cI cL cZ cR cG cH L kd) kd L f9 ∧ (0 ≤ r.toInt ∧ r.toInt ≤ 1) ∧ (∀ b, kd b ≠ 12 → kd b ≠ 576 → f9 b = f b) ∧ (∀ b, kd b = 12 → ∀ j, fldR (f9 b) j = fldR (f b) j) ∧ (∀ b, kd b = 12 → ∀ j, j ≠ 6 → j ≠ 7 → j ≠ 8 → j ≠ 14 → fldI (f9 b) j = fldI (f b) j) ∧ (∀ (w6 z6 : Int32), fldI (f o0) 6 = some w6 → fldI (f9 o0) 6 = some z6 → w6.toInt ≤ z6.toInt) ∧ (∀ d9, fldR (f9 o0) 1 = some d9 → frel kd 576 7 f9 d9)) (qP (dC, dI) cI cL cZ cR cG cH L) (fun q => q ∈ L)) [.ref o0, .int p1].toArray s 0 0 (fun q => q ∈ L)) (F0 m 153 ls []) := by
                intro f_247 hG H locs hP hS hD hfr0 hrA12 hfA12 hfo_248 hT0 hMm_245 ls hl
                refine lv_iconst (v := 1) hx hb dX12_item_153 (by decide) ?_
                obtain ⟨v_250, v_251, v_252, v_253, hfo_254, fa_255⟩ := op12_6_7_8_14 hfo_57 (hG _ mo0) ko0 (hrA12 o0 ko0) (hfA12 o0 ko0)
                have bv_250 : (0 ≤ v_250.toInt ∧ v_250.toInt ≤ 600) := fa12_6 fa_255
                have bv_251 : ((-2147483648) ≤ v_251.toInt ∧ v_251.toInt ≤ 2147483647) := ⟨i32_lo _, i32_hi _⟩
                have bv_252 : ((-2147483648) ≤ v_252.toInt ∧ v_252.toInt ≤ 2147483647) := ⟨i32_lo _, i32_hi _⟩
                have bv_253 : ((-2147483648) ≤ v_253.toInt ∧ v_253.toInt ≤ 2147483647) := ⟨i32_lo _, i32_hi _⟩
                have hM9 := hMm_245 v_250 (by rw [hfo_254]; rfl)
                exact W.zret (v := 1) (ty := .boolean) hx hb hr rfl (fun t ht hW => ⟨⟨1, f_247, rfl, ⟨hG, (by decide), hfr0, hrA12, hfA12, (by intro w6 z6 e6 d6; rw [hfo_57] at e6; rw [hfo_254] at d6; obtain rfl := Option.some.inj e6; obtain rfl := Option.some.inj d6; (try rw [ti_1]) <;> omega), (fun d9 h9 => by rw [hfo_254] at h9; obtain rfl := Option.some.inj h9; exact hT0)⟩, by rw [ht]; exact hP, va_K.moved hW.alike hK, pl_in hD⟩, hS.F ht⟩) hS.2.2 dX12_item_154
              refine lv_icmp_ne (tgt := 153) hx hb dX12_item_140 (by decide) (fun c_256 => ?_) (fun c_256 => ?_)
              · skip
                rw [← Int32.toInt_inj, ti_42] at c_256
                exact hcut_249 f_235 hG _ _ hP hS hD hfr0 hrA12 hfA12 hfo_241 hT0 hMm_245 ls (lv_sub hl [0, 1, 2] rfl)
              · skip
                rw [← Int32.toInt_inj, ti_42] at c_256
                have hclc_257 : (0 ≤ v_242.toInt ∧ v_242.toInt ≤ 599) := by constructor <;> omega
                refine lv_aload_n hx hb dX12_item_143 rfl (lv_at hl 1 rfl) ?_
                refine lv_dup hx hb dX12_item_144 rfl ?_
                refine tk_getP (D := (dC, dI)) (ci := 12) (v := .int v_242) (C := RX12) (T := TX12) (N := 56) hx hb hU inlX12 hown hK hP mo0 hfo_243 rfl 6 (by decide) (hU _ wd_566) (fun _ h9 => h9) rfl dX12_item_145 ?_
                refine lv_iconst (v := 1) hx hb dX12_item_148 (by decide) ?_
                refine lv_iadd hx hb dX12_item_149 ?_
                refine lv_topi (fun x_258 ex_258 => ?_)
                have hx_258 : x_258.toInt = v_242.toInt + 1 := by rw [ex_258, ad_I (by rw [ti_1]; omega) (by rw [ti_1]; omega), ti_1]
                have bx_258 : (1 ≤ x_258.toInt ∧ x_258.toInt ≤ 600) := by constructor <;> omega
                refine tk_putP (D := (dC, dI)) (ci := 12) (v := .int x_258) (ty := .int) (C := RX12) (T := TX12) (N := 56) hx hb hU inlX12 tyX12 tyX12_ok nmX12 hown hK hP hD hS mo0 hfo_243 rfl 6 (by decide) (hU _ wd_566) (fun _ h9 => h9) rfl (by decide +kernel) rfl rfl (Nat.le_of_ble_eq_true rfl) dX12_item_150 (fun H locs hP hD hS => ?_)
                have fa_259 := fu12_6 (y := x_258) fa_244 (by constructor <;> omega)
                obtain ⟨f_261, ef_261⟩ : ∃ y : Nat → va_E, y = va_up f_235 o0 (.inr (12, [.ref a_1, .ref a_2, .ref a_3, .int v_4, .ref a_5, .int v_6, .int x_258, .int v_192, .int v_193, .int v_10, .int v_11, .int v_12, .int v_13, .int v_14, .int v_194, .ref a_16, .ref a_17, .ref a_18, .ref a_19, .ref a_20, .ref a_21, .ref a_22, .ref a_23, .int v_24, .int v_25, .int v_26, .int v_27, .int v_28, .ref a_29, .int v_30, .ref a_31, .ref a_32, .int v_33, .int v_34, .ref a_35, .int v_36, .ref a_37, .ref a_38, .int v_39, .int v_40, .ref a_41, .ref a_42, .ref a_43, .int v_44, .ref a_45, .ref a_46, .ref a_47, .ref a_48, .ref a_49, .ref a_50, .ref a_51, .ref a_52, .ref a_53, .int v_54, .int v_55, .ref a_56])) := ⟨_, rfl⟩
                have hP : va_P (dC, dI) vwCl (va_pl L f_261) H := by rw [ef_261]; exact hP
                have hD : va_D (fun q => q ∈ L) (va_pl L f_261) := by rw [ef_261]; exact hD
                have hG : GI (okc cI cL cZ cR cG cH L kd) kd L f_261 := by rw [ef_261]; exact hG.set o0 (mk_12 ko0 (fo12 fa_259))
                have hfo_262 : f_261 a_2 = .inl (cI, 1560, .inl g_228) := by rw [ef_261, up_ne (kd_ne ko0 ka_2 (by decide))]; exact hfo_241
                have hfr0 : ∀ b, kd b ≠ 12 → kd b ≠ 576 → f_261 b = f b := fun b q12 q576 => (congrFun ef_261 b).trans ((up_ne (fun e9 => q12 (by rw [e9]; exact ko0))).trans (hfr0 b q12 q576))
                have hrA12 : ∀ b, kd b = 12 → ∀ j, fldR (f_261 b) j = fldR (f b) j := fun b kb j => ((congrArg (fun x => fldR x j) (congrFun ef_261 b)).trans (fra_up (fun j => by rw [hfo_243]; exact fr_set (k := 6) rfl rfl) j b)).trans (hrA12 b kb j)
                have hfA12 : ∀ b, kd b = 12 → ∀ j, j ≠ 6 → j ≠ 7 → j ≠ 8 → j ≠ 14 → fldI (f_261 b) j = fldI (f b) j := fun b kb j n6 n7 n8 n14 => ((congrArg (fun x => fldI x j) (congrFun ef_261 b)).trans (fia_up (fun h9 => by rw [hfo_243]; exact fi_set (k := 6) rfl h9) n6 b)).trans (hfA12 b kb j n6 n7 n8 n14)
                have hT0 : frel kd 576 7 f_261 a_2 := by rw [ef_261]; exact hT0.keep (fun b q => up_ne (kd_ne ko0 q (by decide)))
                have hMm_245 : (∀ z9, fldI (f_261 o0) 6 = some z9 → v_7.toInt ≤ z9.toInt) := by rw [ef_261]; exact (fun z9 h9 => by rw [up_self] at h9; obtain rfl := Option.some.inj h9; have h8 := hMm_245 v_242 (by rw [hfo_243]; rfl); omega)
                have hfo_263 : f_261 o0 = .inr (12, [.ref a_1, .ref a_2, .ref a_3, .int v_4, .ref a_5, .int v_6, .int x_258, .int v_192, .int v_193, .int v_10, .int v_11, .int v_12, .int v_13, .int v_14, .int v_194, .ref a_16, .ref a_17, .ref a_18, .ref a_19, .ref a_20, .ref a_21, .ref a_22, .ref a_23, .int v_24, .int v_25, .int v_26, .int v_27, .int v_28, .ref a_29, .int v_30, .ref a_31, .ref a_32, .int v_33, .int v_34, .ref a_35, .int v_36, .ref a_37, .ref a_38, .int v_39, .int v_40, .ref a_41, .ref a_42, .ref a_43, .int v_44, .ref a_45, .ref a_46, .ref a_47, .ref a_48, .ref a_49, .ref a_50, .ref a_51, .ref a_52, .ref a_53, .int v_54, .int v_55, .ref a_56]) := by rw [ef_261]; exact up_self
                exact hcut_249 f_261 hG _ _ hP hS hD hfr0 hrA12 hfA12 hfo_262 hT0 hMm_245 ls (lv_sub hl [0, 1, 2] rfl)
            refine lv_icmp_ne (tgt := 132) hx hb dX12_item_125 (by decide) (fun c_264 => ?_) (fun c_264 => ?_)
            · skip
              rw [← Int32.toInt_inj, ti_42] at c_264
              refine lv_iconst (v := 0) hx hb dX12_item_132 (by decide) ?_
              exact hcut_227 0 (by decide) ls (lv_sub hl [0, 1, 2] rfl)
            · skip
              rw [← Int32.toInt_inj, ti_42] at c_264
              refine lv_iconst (v := 1) hx hb dX12_item_128 (by decide) ?_
              refine lv_goto (tgt := 133) hx hb dX12_item_129 (by decide) ?_
              exact hcut_227 1 (by decide) ls (lv_sub hl [0, 1, 2] rfl)
          · skip
            rw [← Int32.toInt_inj, ti_0] at c_198
            refine lv_iconst (v := 0) hx hb dX12_item_89 (by decide) ?_
            have hM9 := hMm_197 v_191 (by rw [hfo_195]; rfl)
            exact W.zret (v := 0) (ty := .boolean) hx hb hr rfl (fun t ht hW => ⟨⟨0, f_184, rfl, ⟨hG, (by decide), hfr0, hrA12, hfA12, (by intro w6 z6 e6 d6; rw [hfo_57] at e6; rw [hfo_195] at d6; obtain rfl := Option.some.inj e6; obtain rfl := Option.some.inj d6; (try rw [ti_0]) <;> omega), (fun d9 h9 => by rw [hfo_195] at h9; obtain rfl := Option.some.inj h9; exact hT0)⟩, by rw [ht]; exact hP, va_K.moved hW.alike hK, pl_in hD⟩, hS.F ht⟩) hS.2.2 dX12_item_90
      refine lv_if_eq (tgt := 61) hx hb dX12_item_54 (by decide) (fun c_265 => ?_) (fun c_265 => ?_)
      · skip
        rw [← Int32.toInt_inj, ti_0] at c_265
        refine lv_iconst (v := 1) hx hb dX12_item_61 (by decide) ?_
        exact hcut_104 1 (by decide) ls (lv_sub hl [0, 1, 2] rfl)
      · skip
        rw [← Int32.toInt_inj, ti_0] at c_265
        refine lv_iconst (v := 0) hx hb dX12_item_57 (by decide) ?_
        refine lv_goto (tgt := 62) hx hb dX12_item_58 (by decide) ?_
        exact hcut_104 0 (by decide) ls (lv_sub hl [0, 1, 2] rfl)
    · skip
      rw [← Int32.toInt_inj, ti_0] at c_86
      refine lv_iconst (v := 0) hx hb dX12_item_22 (by decide) ?_
      have hM9 := hMm_85 v_79 (by rw [hfo_83]; rfl)
      exact W.zret (v := 0) (ty := .boolean) hx hb hr rfl (fun t ht hW => ⟨⟨0, f_73, rfl, ⟨hG, (by decide), hfr0, hrA12, hfA12, (by intro w6 z6 e6 d6; rw [hfo_57] at e6; rw [hfo_83] at d6; obtain rfl := Option.some.inj e6; obtain rfl := Option.some.inj d6; (try rw [ti_0]) <;> omega), (fun d9 h9 => by rw [hfo_83] at h9; obtain rfl := Option.some.inj h9; exact hT0)⟩, by rw [ht]; exact hP, va_K.moved hW.alike hK, pl_in hD⟩, hS.F ht⟩) hS.2.2 dX12_item_23
  refine lv_icmp_ne (tgt := 13) hx hb dX12_item_6 (by decide) (fun c_266 => ?_) (fun c_266 => ?_)
  · skip
    rw [← Int32.toInt_inj, ti_63] at c_266
    refine lv_iconst (v := 0) hx hb dX12_item_13 (by decide) ?_
    exact hcut_71 0 (by decide) ls (lv_sub hl [0, 1] rfl)
  · skip
    rw [← Int32.toInt_inj, ti_63] at c_266
    refine lv_iconst (v := 1) hx hb dX12_item_9 (by decide) ?_
    refine lv_goto (tgt := 14) hx hb dX12_item_10 (by decide) ?_
    exact hcut_71 1 (by decide) ls (lv_sub hl [0, 1] rfl)
