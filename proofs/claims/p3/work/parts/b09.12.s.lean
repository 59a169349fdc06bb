set_option maxHeartbeats 8000000 in
set_option maxRecDepth 100000 in
theorem s_X12_side_k12 (l : Launch) (D : va_G) (cI cL cZ cR cG cH : ClassId) (Z : zT) (kd : Nat → Nat) (L : List Nat) (f : Nat → va_E) (hG : GI (okc cI cL cZ cR cG cH L kd) kd L f) (o0 : Nat) (mo0 : o0 ∈ L) (ko0 : kd o0 = 12) (p1 : Int32) (bp1 : (0 ≤ p1.toInt ∧ p1.toInt ≤ 23)) (p2 : Int32) (bp2 : (0 ≤ p2.toInt ∧ p2.toInt ≤ 1)) (hxtr0 : ∀ d9, fldR (f o0) 1 = some d9 → frel kd 576 7 f d9) : mPI l D cI cL cZ cR cG cH Z yX12_side cX12_side 5 (some .boolean) 5 105 [.ref o0, .int p1, .int p2] L f (fun (r : Int32) (f9 : Nat → va_E) => GI (okc cI cL cZ cR cG cH L kd) kd L f9 ∧ (0 ≤ r.toInt ∧ r.toInt ≤ 1) ∧ (∀ b, kd b ≠ 12 → kd b ≠ 576 → f9 b = f b) ∧ (∀ b, kd b = 12 → ∀ j, fldR (f9 b) j = fldR (f b) j) ∧ (∀ b, kd b = 12 → ∀ j, j ≠ 6 → j ≠ 7 → j ≠ 8 → j ≠ 14 → fldI (f9 b) j = fldI (f b) j) ∧ (∀ (w6 z6 : Int32), fldI (f o0) 6 = some w6 → fldI (f9 o0) 6 = some z6 → w6.toInt ≤ z6.toInt) ∧ (∀ d9, fldR (f9 o0) 1 = some d9 → frel kd 576 7 f9 d9)) := by
  obtain ⟨dC, dI⟩ := D
  refine Met.ofW (cc := cX12_side) (maxL := 5) (ret := (some .boolean)) (by decide) rfl ?_
  intro p e s m args below meth c s₁ B hml hv
  obtain ⟨rfl, hP, hK, hD0, hN, hZ⟩ := hv
  have hx := B.exec
  have hb := B.bytes
  have hr := B.returns
  have hU : ∀ w ∈ wsU, w.before _ s = true := fun w h => atoms_spec (ws := wU yX12_side cX12_side 5 (some .boolean)) B.pre w (List.mem_cons_of_mem _ h)
  have hown : s.vm.findClass RX12 = some m.cls := findClass_of_methodNamed B.named
  have hlocks := B.notSynchronized
  have hD := pl_in hD0
  have hS : va_S (fun q => q ∈ L) s.heap s.heap [] := va_S.rf
  have hl := lv_entry ([.ref o0, .int p1, .int p2]) (n := 5) (Nat.le_of_ble_eq_true rfl)
  rw [lg_entry_eq]
  generalize (lg_sl ([.ref o0, .int p1, .int p2]) ++ List.replicate (5 - (lg_sl ([.ref o0, .int p1, .int p2])).length) Slot.unset).toArray = ls at hl ⊢
  have hl : lv_has ls 5 [(0, .ref o0), (1, .int p1), (2, .int p2)] := hl
  have hfr0 : ∀ b, kd b ≠ 12 → kd b ≠ 576 → f b = f b := fun _ _ _ => rfl
  have hrA12 : ∀ b, kd b = 12 → ∀ j, fldR (f b) j = fldR (f b) j := fun _ _ _ => rfl
  have hfA12 : ∀ b, kd b = 12 → ∀ j, j ≠ 6 → j ≠ 7 → j ≠ 8 → j ≠ 14 → fldI (f b) j = fldI (f b) j := fun _ _ _ _ _ _ _ => rfl
  obtain ⟨a_1, a_2, a_3, v_4, a_5, v_6, v_7, v_8, v_9, v_10, v_11, v_12, v_13, v_14, v_15, a_16, a_17, a_18, a_19, a_20, a_21, a_22, a_23, v_24, v_25, v_26, v_27, v_28, a_29, v_30, a_31, a_32, v_33, v_34, a_35, v_36, a_37, a_38, v_39, v_40, a_41, a_42, a_43, v_44, a_45, a_46, a_47, a_48, a_49, a_50, a_51, a_52, a_53, v_54, v_55, a_56, hfo_57, fa_58⟩ := un12 (hG _ mo0) ko0
  obtain ⟨ma_2, ka_2⟩ := fa12_1 fa_58
  have bv_7 : (0 ≤ v_7.toInt ∧ v_7.toInt ≤ 600) := fa12_6 fa_58
  have hT0 := hxtr0 a_2 (by rw [hfo_57]; rfl)
  have hM : (∀ z9, fldI (f o0) 6 = some z9 → v_7.toInt ≤ z9.toInt) := fun z9 h9 => by rw [hfo_57] at h9; obtain rfl := Option.some.inj h9; exact Int.le_refl _
  refine lv_iconst (v := 0) hx hb dX12_side_0 (by decide) ?_
  refine lv_istore_n (lv' := [(3, .int 0), (0, .ref o0), (1, .int p1), (2, .int p2)]) hx hb dX12_side_1 rfl hl (by decide) rfl (fun ls hl => ?_)
  have hloop_64 : ∀ (n : Nat), ∀ (y_65 : Int32), (0 ≤ y_65.toInt ∧ y_65.toInt ≤ 5) → ∀ (f_67 : Nat → va_E), GI (okc cI cL cZ cR cG cH L kd) kd L f_67 → ∀ (H : Heap) (locs : List Loc), va_P (dC, dI) vwCl (va_pl L f_67) H → va_S (fun q => q ∈ L) s.heap H locs → va_D (fun q => q ∈ L) (va_pl L f_67) → (∀ b, kd b ≠ 12 → kd b ≠ 576 → f_67 b = f b) → (∀ b, kd b = 12 → ∀ j, fldR (f_67 b) j = fldR (f b) j) → (∀ b, kd b = 12 → ∀ j, j ≠ 6 → j ≠ 7 → j ≠ 8 → j ≠ 14 → fldI (f_67 b) j = fldI (f b) j) → frel kd 576 7 f_67 a_2 → (∀ z9, fldI (f_67 o0) 6 = some z9 → v_7.toInt ≤ z9.toInt) → 5 - y_65.toInt < (n : Int) → ∀ (ls : Array Slot), lv_has ls 5 [(3, .int y_65), (0, .ref o0), (1, .int p1), (2, .int p2)] → W p l e (headSpec (wU yX12_side cX12_side 5 (some .boolean)) { frames := 5, cells := 0, slots := 0, locals := 105 }).room s m [.ref o0, .int p1, .int p2].toArray below meth c H locs 0 0 (MQ below (va_Qi (fun (r : Int32) (f9 : Nat → va_E) => GI (okc cI cL cZ cR cG cH L kd) kd L f9 ∧ (0 ≤ r.toInt ∧ r.toInt ≤ 1) ∧ (∀ b, kd b ≠ 12 → kd b ≠ 576 → f9 b = f b) ∧ (∀ b, kd b = 12 → ∀ j, fldR (f9 b) j = fldR (f b) j) ∧ (∀ b, kd b = 12 → ∀ j, j ≠ 6 → j ≠ 7 → j ≠ 8 → j ≠ 14 → fldI (f9 b) j = fldI (f b) j) ∧ (∀ (w6 z6 : Int32), fldI (f o0) 6 = some w6 → fldI (f9 o0) 6 = some z6 → w6.toInt ≤ z6.toInt) ∧ (∀ d9, fldR (f9 o0) 1 = some d9 → frel kd 576 7 f9 d9)) (qP (dC, dI) cI cL cZ cR cG cH L) (fun q => q ∈ L)) [.ref o0, .int p1, .int p2].toArray s 0 0 (fun q => q ∈ L)) (F0 m 2 ls []) := by
    intro n
    induction n with
    | zero => intro y_65 by_65 f_67 hG H locs hP hS hD hfr0 hrA12 hfA12 hT0 hM hmuhloop_64 ls hl; exfalso; omega
    | succ n ih_hloop_64 =>
      intro y_65 by_65 f_67 hG H locs hP hS hD hfr0 hrA12 hfA12 hT0 hM hmuhloop_64 ls hl
      refine lv_aload_n hx hb dX12_side_2 rfl (lv_at hl 1 rfl) ?_
      obtain ⟨v_68, v_69, v_70, v_71, hfo_72, fa_73⟩ := op12_6_7_8_14 hfo_57 (hG _ mo0) ko0 (hrA12 o0 ko0) (hfA12 o0 ko0)
      have bv_68 : (0 ≤ v_68.toInt ∧ v_68.toInt ≤ 600) := fa12_6 fa_73
      have bv_69 : ((-2147483648) ≤ v_69.toInt ∧ v_69.toInt ≤ 2147483647) := ⟨i32_lo _, i32_hi _⟩
      have bv_70 : ((-2147483648) ≤ v_70.toInt ∧ v_70.toInt ≤ 2147483647) := ⟨i32_lo _, i32_hi _⟩
      have bv_71 : ((-2147483648) ≤ v_71.toInt ∧ v_71.toInt ≤ 2147483647) := ⟨i32_lo _, i32_hi _⟩
      refine tk_ViP (As := []) (rest := []) (n := 0) hx hb hml hown hU hN hZ (s_X12_sign_k12 l (dC, dI) cI cL cZ cR cG cH Z kd L f_67 hG o0 mo0 ko0) wd_573 wd_574 wd_575 wd_5 wd_576 (by decide +kernel) ⟨Nat.le_of_ble_eq_true rfl, Nat.le_of_ble_eq_true rfl⟩ hK hP hD hS mo0 hfo_72 12 rfl rfl rfl hl.1 rfl (Nat.le_of_ble_eq_true rfl) dX12_side_3 ⟨Nat.le_of_ble_eq_true rfl, Nat.le_of_ble_eq_true rfl⟩ (fun x_74 f_75 H locs hw hP hD hS => ?_)
      obtain ⟨hG, bx_74, hkc_76, hra_77, hfa_78, hpost_79⟩ := hw
      have hfr0 : ∀ b, kd b ≠ 12 → kd b ≠ 576 → f_75 b = f b := fun b q12 q576 => (hkc_76 b q12).trans (hfr0 b q12 q576)
      have hrA12 : ∀ b, kd b = 12 → ∀ j, fldR (f_75 b) j = fldR (f b) j := fun b kb j => (hra_77 b kb j).trans (hrA12 b kb j)
      have hfA12 : ∀ b, kd b = 12 → ∀ j, j ≠ 6 → j ≠ 7 → j ≠ 8 → j ≠ 14 → fldI (f_75 b) j = fldI (f b) j := fun b kb j n6 n7 n8 n14 => (hfa_78 b kb j n6).trans (hfA12 b kb j n6 n7 n8 n14)
      have hT0 : frel kd 576 7 f_75 a_2 := hT0.keep (fun b q => hkc_76 b (by rw [q]; decide))
      obtain ⟨v_81, hfo_82, fa_83⟩ := op12_6 hfo_72 (hG _ mo0) ko0 (hra_77 o0 ko0) (hfa_78 o0 ko0)
      have bv_81 : (0 ≤ v_81.toInt ∧ v_81.toInt ≤ 600) := fa12_6 fa_83
      have hqhpost_79 := hpost_79 v_68 v_81 (by rw [hfo_72]; rfl) (by rw [hfo_82]; rfl)
      have hMm_84 : (∀ z9, fldI (f_75 o0) 6 = some z9 → v_7.toInt ≤ z9.toInt) := fun z9 h9 => by rw [hfo_82] at h9; obtain rfl := Option.some.inj h9; have h8 := hM v_68 (by rw [hfo_72]; rfl); omega
      refine tk_SiP (As := [.int x_74]) (rest := []) (n := 1) hx hb hml hown hU hN hZ (s_X12_isX l (dC, dI) cI cL cZ cR cG cH Z kd L f_75 hG x_74) wd_647 wd_648 wd_5 wd_649 (by decide +kernel) ⟨Nat.le_of_ble_eq_true rfl, Nat.le_of_ble_eq_true rfl⟩ hK hP hD hS rfl hl.1 rfl (Nat.le_of_ble_eq_true rfl) dX12_side_6 ⟨Nat.le_of_ble_eq_true rfl, Nat.le_of_ble_eq_true rfl⟩ (fun x_85 f_86 H locs hw hP hD hS => ?_)
      obtain ⟨rfl, bx_85⟩ := hw
      refine lv_if_eq (tgt := 77) hx hb dX12_side_9 (by decide) (fun c_88 => ?_) (fun c_88 => ?_)
      · skip
        rw [← Int32.toInt_inj, ti_0] at c_88
        refine lv_aload_n hx hb dX12_side_77 rfl (lv_at hl 1 rfl) ?_
        refine tk_getP (D := (dC, dI)) (ci := 12) (v := .ref a_2) (C := RX12) (T := TX12) (N := 56) hx hb hU inlX12 hown hK hP mo0 hfo_82 rfl 1 (by decide) (hU _ wd_170) (fun _ h9 => h9) rfl dX12_side_78 ?_
        refine lv_sipush (v := 500) hx hb dX12_side_81 (by decide) ?_
        refine lv_iconst (v := 4) hx hb dX12_side_84 (by decide) ?_
        refine lv_iload_n hx hb dX12_side_85 rfl (lv_at hl 2 rfl) ?_
        refine lv_imul hx hb dX12_side_86 ?_
        refine lv_topi (fun x_89 ex_89 => ?_)
        have hx_89 : x_89.toInt = 4 * p1.toInt := by rw [ex_89, ml_I (by rw [ti_4]; omega) (by rw [ti_4]; omega), ti_4]
        have bx_89 : (0 ≤ x_89.toInt ∧ x_89.toInt ≤ 92) := by constructor <;> omega
        refine lv_iadd hx hb dX12_side_87 ?_
        refine lv_topi (fun x_90 ex_90 => ?_)
        have hx_90 : x_90.toInt = 500 + x_89.toInt := by rw [ex_90, ad_I (by rw [ti_500]; omega) (by rw [ti_500]; omega), ti_500]
        have bx_90 : (500 ≤ x_90.toInt ∧ x_90.toInt ≤ 592) := by constructor <;> omega
        refine lv_iconst (v := 2) hx hb dX12_side_88 (by decide) ?_
        refine lv_iadd hx hb dX12_side_89 ?_
        refine lv_topi (fun x_91 ex_91 => ?_)
        have hx_91 : x_91.toInt = x_90.toInt + 2 := by rw [ex_91, ad_I (by rw [ti_2]; omega) (by rw [ti_2]; omega), ti_2]
        have bx_91 : (502 ≤ x_91.toInt ∧ x_91.toInt ≤ 594) := by constructor <;> omega
        refine lv_iload_n hx hb dX12_side_90 rfl (lv_at hl 3 rfl) ?_
        refine lv_iadd hx hb dX12_side_91 ?_
        refine lv_topi (fun x_92 ex_92 => ?_)
        have hx_92 : x_92.toInt = x_91.toInt + p2.toInt := by rw [ex_92, ad_I (by omega) (by omega)]
        have bx_92 : (502 ≤ x_92.toInt ∧ x_92.toInt ≤ 595) := by constructor <;> omega
        refine lv_iload_n hx hb dX12_side_92 rfl (lv_at hl 0 rfl) ?_
        obtain ⟨g_94, hfo_93, hbg_94⟩ := un_576 (hG _ ma_2) ka_2
        refine tk_istP hx hb hK hP hD hS 0 ma_2 hfo_93 rfl (vp_in_iff.mpr (by constructor <;> omega)) dX12_side_93 (fun H locs hP hD hS => ?_)
        have hc9 := cl_I (i := x_92) (by omega)
        obtain ⟨g_95, eqg_95⟩ : ∃ y : Nat → Int32, y = upd g_94 (Int32.toNatClampNeg x_92) y_65 := ⟨_, rfl⟩
        rw [← eqg_95] at hP hD
        have hbg_95 : wOK g_95 := by rw [eqg_95]; exact ⟨hbg_94.1.up (fun h1 h2 h3 => by exfalso; omega), hbg_94.2.1.up (fun h1 h2 h3 => by exfalso; omega), hbg_94.2.2.1.up (fun h1 h2 h3 => by exfalso; omega), hbg_94.2.2.2.1.up (fun h1 h2 h3 => by exfalso; omega), hbg_94.2.2.2.2.1.up (fun h1 h2 h3 => by exfalso; omega), hbg_94.2.2.2.2.2.1.up (fun h1 h2 h3 => by exfalso; omega), hbg_94.2.2.2.2.2.2.1.up (fun h1 h2 h3 => by exfalso; omega), hbg_94.2.2.2.2.2.2.2.1.up (fun h1 h2 h3 => by exfalso; omega), hbg_94.2.2.2.2.2.2.2.2.1.up (fun h1 h2 h3 => by exfalso; omega), hbg_94.2.2.2.2.2.2.2.2.2.1.up (fun h1 h2 h3 => by exfalso; omega), hbg_94.2.2.2.2.2.2.2.2.2.2.1.up (fun h1 h2 h3 => by exfalso; omega), hbg_94.2.2.2.2.2.2.2.2.2.2.2.1.up (fun h1 h2 h3 => by exfalso; omega), hbg_94.2.2.2.2.2.2.2.2.2.2.2.2.1.up (fun h1 h2 h3 => by exfalso; omega), hbg_94.2.2.2.2.2.2.2.2.2.2.2.2.2.1.up (fun h1 h2 h3 => by exfalso; omega), hbg_94.2.2.2.2.2.2.2.2.2.2.2.2.2.2.1.up (fun h1 h2 h3 => by exfalso; omega), hbg_94.2.2.2.2.2.2.2.2.2.2.2.2.2.2.2.up (fun h1 h2 h3 => by constructor <;> omega)⟩
        obtain ⟨f_97, ef_97⟩ : ∃ y : Nat → va_E, y = va_up f_75 a_2 (.inl (cI, 1560, .inl g_95)) := ⟨_, rfl⟩
        have hP : va_P (dC, dI) vwCl (va_pl L f_97) H := by rw [ef_97]; exact hP
        have hD : va_D (fun q => q ∈ L) (va_pl L f_97) := by rw [ef_97]; exact hD
        have hG : GI (okc cI cL cZ cR cG cH L kd) kd L f_97 := by rw [ef_97]; exact hG.set a_2 (mk_576 ka_2 ⟨_, rfl, hbg_95⟩)
        have hfo_98 : f_97 o0 = .inr (12, [.ref a_1, .ref a_2, .ref a_3, .int v_4, .ref a_5, .int v_6, .int v_81, .int v_69, .int v_70, .int v_10, .int v_11, .int v_12, .int v_13, .int v_14, .int v_71, .ref a_16, .ref a_17, .ref a_18, .ref a_19, .ref a_20, .ref a_21, .ref a_22, .ref a_23, .int v_24, .int v_25, .int v_26, .int v_27, .int v_28, .ref a_29, .int v_30, .ref a_31, .ref a_32, .int v_33, .int v_34, .ref a_35, .int v_36, .ref a_37, .ref a_38, .int v_39, .int v_40, .ref a_41, .ref a_42, .ref a_43, .int v_44, .ref a_45, .ref a_46, .ref a_47, .ref a_48, .ref a_49, .ref a_50, .ref a_51, .ref a_52, .ref a_53, .int v_54, .int v_55, .ref a_56]) := by rw [ef_97, up_ne (kd_ne ka_2 ko0 (by decide))]; exact hfo_82
        have hfr0 : ∀ b, kd b ≠ 12 → kd b ≠ 576 → f_97 b = f b := fun b q12 q576 => (congrFun ef_97 b).trans ((up_ne (fun e9 => q576 (by rw [e9]; exact ka_2))).trans (hfr0 b q12 q576))
        have hrA12 : ∀ b, kd b = 12 → ∀ j, fldR (f_97 b) j = fldR (f b) j := fun b kb j => (congrArg (fun x => fldR x j) ((congrFun ef_97 b).trans (up_ne (kd_ne ka_2 kb (by decide))))).trans (hrA12 b kb j)
        have hfA12 : ∀ b, kd b = 12 → ∀ j, j ≠ 6 → j ≠ 7 → j ≠ 8 → j ≠ 14 → fldI (f_97 b) j = fldI (f b) j := fun b kb j n6 n7 n8 n14 => (congrArg (fun x => fldI x j) ((congrFun ef_97 b).trans (up_ne (kd_ne ka_2 kb (by decide))))).trans (hfA12 b kb j n6 n7 n8 n14)
        have hT0 : frel kd 576 7 f_97 a_2 := by rw [ef_97]; exact frel.mk ka_2 up_self (by rw [eqg_95]; exact (hT0.get hfo_93).up (hbg_94.2.1 16 (by decide) (by decide) (by decide)).2 (by omega) (by omega) (by omega) (fun h9 => by exfalso; omega))
        have hMm_84 : (∀ z9, fldI (f_97 o0) 6 = some z9 → v_7.toInt ≤ z9.toInt) := by rw [ef_97]; exact (fun z9 h9 => hMm_84 z9 (by rw [up_ne (kd_ne ka_2 ko0 (by decide))] at h9; exact h9))
        have hfo_99 : f_97 a_2 = .inl (cI, 1560, .inl g_95) := by rw [ef_97]; exact up_self
        have ql_100 : y_65 = g_95 (Int32.toNatClampNeg x_92) := by rw [eqg_95, pk_us]
        refine lv_iconst (v := 1) hx hb dX12_side_94 (by decide) ?_
        have hM9 := hMm_84 v_81 (by rw [hfo_98]; rfl)
        exact W.zret (v := 1) (ty := .boolean) hx hb hr rfl (fun t ht hW => ⟨⟨1, f_97, rfl, ⟨hG, (by decide), hfr0, hrA12, hfA12, (by intro w6 z6 e6 d6; rw [hfo_57] at e6; rw [hfo_98] at d6; obtain rfl := Option.some.inj e6; obtain rfl := Option.some.inj d6; (try rw [ti_1]) <;> omega), (fun d9 h9 => by rw [hfo_98] at h9; obtain rfl := Option.some.inj h9; exact hT0)⟩, by rw [ht]; exact hP, va_K.moved hW.alike hK, pl_in hD⟩, hS.F ht⟩) hS.2.2 dX12_side_95
      · skip
        rw [← Int32.toInt_inj, ti_0] at c_88
        refine lv_iload_n hx hb dX12_side_12 rfl (lv_at hl 0 rfl) ?_
        refine lv_iconst (v := 5) hx hb dX12_side_13 (by decide) ?_
        refine lv_icmp_ne (tgt := 46) hx hb dX12_side_14 (by decide) (fun c_101 => ?_) (fun c_101 => ?_)
        · skip
          rw [← Int32.toInt_inj, ti_5] at c_101
          refine lv_aload_n hx hb dX12_side_46 rfl (lv_at hl 1 rfl) ?_
          refine lv_sipush (v := 600) hx hb dX12_side_47 (by decide) ?_
          refine lv_iconst (v := 4) hx hb dX12_side_50 (by decide) ?_
          refine lv_bipush (v := 10) hx hb dX12_side_51 (by decide) ?_
          refine lv_iload_n hx hb dX12_side_53 rfl (lv_at hl 2 rfl) ?_
          refine lv_imul hx hb dX12_side_54 ?_
          refine lv_topi (fun x_102 ex_102 => ?_)
          have hx_102 : x_102.toInt = 10 * p1.toInt := by rw [ex_102, ml_I (by rw [ti_10]; omega) (by rw [ti_10]; omega), ti_10]
          have bx_102 : (0 ≤ x_102.toInt ∧ x_102.toInt ≤ 230) := by constructor <;> omega
          refine lv_iconst (v := 5) hx hb dX12_side_55 (by decide) ?_
          refine lv_iload_n hx hb dX12_side_56 rfl (lv_at hl 3 rfl) ?_
          refine lv_imul hx hb dX12_side_57 ?_
          refine lv_topi (fun x_103 ex_103 => ?_)
          have hx_103 : x_103.toInt = 5 * p2.toInt := by rw [ex_103, ml_I (by rw [ti_5]; omega) (by rw [ti_5]; omega), ti_5]
          have bx_103 : (0 ≤ x_103.toInt ∧ x_103.toInt ≤ 5) := by constructor <;> omega
          refine lv_iadd hx hb dX12_side_58 ?_
          refine lv_topi (fun x_104 ex_104 => ?_)
          have hx_104 : x_104.toInt = x_102.toInt + x_103.toInt := by rw [ex_104, ad_I (by omega) (by omega)]
          have bx_104 : (0 ≤ x_104.toInt ∧ x_104.toInt ≤ 235) := by constructor <;> omega
          refine lv_iload_n hx hb dX12_side_59 rfl (lv_at hl 0 rfl) ?_
          refine lv_iadd hx hb dX12_side_60 ?_
          refine lv_topi (fun x_105 ex_105 => ?_)
          have hx_105 : x_105.toInt = x_104.toInt + y_65.toInt := by rw [ex_105, ad_I (by omega) (by omega)]
          have bx_105 : (0 ≤ x_105.toInt ∧ x_105.toInt ≤ 239) := by constructor <;> omega
          refine lv_imul hx hb dX12_side_61 ?_
          refine lv_topi (fun x_106 ex_106 => ?_)
          have hx_106 : x_106.toInt = 4 * x_105.toInt := by rw [ex_106, ml_I (by rw [ti_4]; omega) (by rw [ti_4]; omega), ti_4]
          have bx_106 : (0 ≤ x_106.toInt ∧ x_106.toInt ≤ 956) := by constructor <;> omega
          refine lv_iadd hx hb dX12_side_62 ?_
          refine lv_topi (fun x_107 ex_107 => ?_)
          have hx_107 : x_107.toInt = 600 + x_106.toInt := by rw [ex_107, ad_I (by rw [ti_600]; omega) (by rw [ti_600]; omega), ti_600]
          have bx_107 : (600 ≤ x_107.toInt ∧ x_107.toInt ≤ 1556) := by constructor <;> omega
          refine tk_ViP (As := [.int x_107]) (rest := []) (n := 1) hx hb hml hown hU hN hZ (s_X12_item_k12 l (dC, dI) cI cL cZ cR cG cH Z kd L f_75 hG o0 mo0 ko0 x_107 (by constructor <;> omega) (fun d9 h9 => by rw [hfo_82] at h9; obtain rfl := Option.some.inj h9; exact hT0)) wd_655 wd_656 wd_657 wd_5 wd_658 (by decide +kernel) ⟨Nat.le_of_ble_eq_true rfl, Nat.le_of_ble_eq_true rfl⟩ hK hP hD hS mo0 hfo_82 12 rfl rfl rfl hl.1 rfl (Nat.le_of_ble_eq_true rfl) dX12_side_63 ⟨Nat.le_of_ble_eq_true rfl, Nat.le_of_ble_eq_true rfl⟩ (fun x_108 f_109 H locs hw hP hD hS => ?_)
          obtain ⟨hG, bx_108, hkc_110, hra_111, hfa_112, hpost_113, hTc_114⟩ := hw
          have hfr0 : ∀ b, kd b ≠ 12 → kd b ≠ 576 → f_109 b = f b := fun b q12 q576 => (hkc_110 b q12 q576).trans (hfr0 b q12 q576)
          have hrA12 : ∀ b, kd b = 12 → ∀ j, fldR (f_109 b) j = fldR (f b) j := fun b kb j => (hra_111 b kb j).trans (hrA12 b kb j)
          have hfA12 : ∀ b, kd b = 12 → ∀ j, j ≠ 6 → j ≠ 7 → j ≠ 8 → j ≠ 14 → fldI (f_109 b) j = fldI (f b) j := fun b kb j n6 n7 n8 n14 => (hfa_112 b kb j n6 n7 n8 n14).trans (hfA12 b kb j n6 n7 n8 n14)
          obtain ⟨v_116, v_117, v_118, v_119, hfo_120, fa_121⟩ := op12_6_7_8_14 hfo_82 (hG _ mo0) ko0 (hra_111 o0 ko0) (hfa_112 o0 ko0)
          have bv_116 : (0 ≤ v_116.toInt ∧ v_116.toInt ≤ 600) := fa12_6 fa_121
          have bv_117 : ((-2147483648) ≤ v_117.toInt ∧ v_117.toInt ≤ 2147483647) := ⟨i32_lo _, i32_hi _⟩
          have bv_118 : ((-2147483648) ≤ v_118.toInt ∧ v_118.toInt ≤ 2147483647) := ⟨i32_lo _, i32_hi _⟩
          have bv_119 : ((-2147483648) ≤ v_119.toInt ∧ v_119.toInt ≤ 2147483647) := ⟨i32_lo _, i32_hi _⟩
          have hqhpost_113 := hpost_113 v_81 v_116 (by rw [hfo_82]; rfl) (by rw [hfo_120]; rfl)
          have hMm_122 : (∀ z9, fldI (f_109 o0) 6 = some z9 → v_7.toInt ≤ z9.toInt) := fun z9 h9 => by rw [hfo_120] at h9; obtain rfl := Option.some.inj h9; have h8 := hMm_84 v_81 (by rw [hfo_82]; rfl); omega
          have hT_123 := hTc_114 a_2 (by rw [hfo_120]; rfl)
          refine lv_if_ne (tgt := 71) hx hb dX12_side_66 (by decide) (fun c_124 => ?_) (fun c_124 => ?_)
          · skip
            rw [← Int32.toInt_inj, ti_0] at c_124
            obtain ⟨x_125, ex_125⟩ : ∃ y : Int32, y_65 + 1 = y := ⟨_, rfl⟩
            have hx_125 : x_125.toInt = y_65.toInt + 1 := by rw [← ex_125, ad_I (by rw [ti_1]; omega) (by rw [ti_1]; omega), ti_1]
            have bx_125 : (1 ≤ x_125.toInt ∧ x_125.toInt ≤ 5) := by constructor <;> omega
            refine lv_iinc (v := x_125) (lv' := [(3, .int x_125), (0, .ref o0), (1, .int p1), (2, .int p2)]) hx hb dX12_side_71 hl (k := 0) rfl ex_125 (by decide) rfl (fun ls hl => ?_)
            refine lv_goto (tgt := 2) hx hb dX12_side_74 (by decide) ?_
            exact ih_hloop_64 x_125 (by constructor <;> omega) f_109 hG _ _ hP hS hD hfr0 hrA12 hfA12 hT_123 hMm_122 (by omega) ls (lv_sub hl [0, 1, 2, 3] rfl)
          · skip
            rw [← Int32.toInt_inj, ti_0] at c_124
            refine lv_iconst (v := 0) hx hb dX12_side_69 (by decide) ?_
            have hM9 := hMm_122 v_116 (by rw [hfo_120]; rfl)
            exact W.zret (v := 0) (ty := .boolean) hx hb hr rfl (fun t ht hW => ⟨⟨0, f_109, rfl, ⟨hG, (by decide), hfr0, hrA12, hfA12, (by intro w6 z6 e6 d6; rw [hfo_57] at e6; rw [hfo_120] at d6; obtain rfl := Option.some.inj e6; obtain rfl := Option.some.inj d6; (try rw [ti_0]) <;> omega), (fun d9 h9 => by rw [hfo_120] at h9; obtain rfl := Option.some.inj h9; exact hT_123)⟩, by rw [ht]; exact hP, va_K.moved hW.alike hK, pl_in hD⟩, hS.F ht⟩) hS.2.2 dX12_side_70
        · skip
          rw [← Int32.toInt_inj, ti_5] at c_101
          refine lv_aload_n hx hb dX12_side_17 rfl (lv_at hl 1 rfl) ?_
          refine tk_getP (D := (dC, dI)) (ci := 12) (v := .int v_81) (C := RX12) (T := TX12) (N := 56) hx hb hU inlX12 hown hK hP mo0 hfo_82 rfl 6 (by decide) (hU _ wd_566) (fun _ h9 => h9) rfl dX12_side_18 ?_
          refine lv_istore (lv' := [(4, .int v_81), (3, .int y_65), (0, .ref o0), (1, .int p1), (2, .int p2)]) hx hb dX12_side_21 hl (by decide) rfl (fun ls hl => ?_)
          refine lv_aload_n hx hb dX12_side_23 rfl (lv_at hl 2 rfl) ?_
          refine tk_ViP (As := []) (rest := []) (n := 0) hx hb hml hown hU hN hZ (s_X12_takesX_k12 l (dC, dI) cI cL cZ cR cG cH Z kd L f_75 hG o0 mo0 ko0) wd_650 wd_651 wd_652 wd_5 wd_653 (by decide +kernel) ⟨Nat.le_of_ble_eq_true rfl, Nat.le_of_ble_eq_true rfl⟩ hK hP hD hS mo0 hfo_82 12 rfl rfl rfl hl.1 rfl (Nat.le_of_ble_eq_true rfl) dX12_side_24 ⟨Nat.le_of_ble_eq_true rfl, Nat.le_of_ble_eq_true rfl⟩ (fun x_126 f_127 H locs hw hP hD hS => ?_)
          obtain ⟨hG, bx_126, hkc_128, hra_129, hfa_130, hpost_131⟩ := hw
          have hfr0 : ∀ b, kd b ≠ 12 → kd b ≠ 576 → f_127 b = f b := fun b q12 q576 => (hkc_128 b q12).trans (hfr0 b q12 q576)
          have hrA12 : ∀ b, kd b = 12 → ∀ j, fldR (f_127 b) j = fldR (f b) j := fun b kb j => (hra_129 b kb j).trans (hrA12 b kb j)
          have hfA12 : ∀ b, kd b = 12 → ∀ j, j ≠ 6 → j ≠ 7 → j ≠ 8 → j ≠ 14 → fldI (f_127 b) j = fldI (f b) j := fun b kb j n6 n7 n8 n14 => (hfa_130 b kb j n6 n7 n8 n14).trans (hfA12 b kb j n6 n7 n8 n14)
          have hT0 : frel kd 576 7 f_127 a_2 := hT0.keep (fun b q => hkc_128 b (by rw [q]; decide))
          obtain ⟨v_133, v_134, v_135, v_136, hfo_137, fa_138⟩ := op12_6_7_8_14 hfo_82 (hG _ mo0) ko0 (hra_129 o0 ko0) (hfa_130 o0 ko0)
          have bv_133 : (0 ≤ v_133.toInt ∧ v_133.toInt ≤ 600) := fa12_6 fa_138
          have bv_134 : ((-2147483648) ≤ v_134.toInt ∧ v_134.toInt ≤ 2147483647) := ⟨i32_lo _, i32_hi _⟩
          have bv_135 : ((-2147483648) ≤ v_135.toInt ∧ v_135.toInt ≤ 2147483647) := ⟨i32_lo _, i32_hi _⟩
          have bv_136 : ((-2147483648) ≤ v_136.toInt ∧ v_136.toInt ≤ 2147483647) := ⟨i32_lo _, i32_hi _⟩
          have hqhpost_131 := hpost_131 v_81 v_133 (by rw [hfo_82]; rfl) (by rw [hfo_137]; rfl)
          have hMm_139 : (∀ z9, fldI (f_127 o0) 6 = some z9 → v_7.toInt ≤ z9.toInt) := fun z9 h9 => by rw [hfo_137] at h9; obtain rfl := Option.some.inj h9; have h8 := hMm_84 v_81 (by rw [hfo_82]; rfl); omega
          refine lv_if_eq (tgt := 44) hx hb dX12_side_27 (by decide) (fun c_140 => ?_) (fun c_140 => ?_)
          · skip
            rw [← Int32.toInt_inj, ti_0] at c_140
            refine lv_iconst (v := 0) hx hb dX12_side_44 (by decide) ?_
            have hM9 := hMm_139 v_133 (by rw [hfo_137]; rfl)
            exact W.zret (v := 0) (ty := .boolean) hx hb hr rfl (fun t ht hW => ⟨⟨0, f_127, rfl, ⟨hG, (by decide), hfr0, hrA12, hfA12, (by intro w6 z6 e6 d6; rw [hfo_57] at e6; rw [hfo_137] at d6; obtain rfl := Option.some.inj e6; obtain rfl := Option.some.inj d6; (try rw [ti_0]) <;> omega), (fun d9 h9 => by rw [hfo_137] at h9; obtain rfl := Option.some.inj h9; exact hT0)⟩, by rw [ht]; exact hP, va_K.moved hW.alike hK, pl_in hD⟩, hS.F ht⟩) hS.2.2 dX12_side_45
          · skip
            rw [← Int32.toInt_inj, ti_0] at c_140
            refine lv_aload_n hx hb dX12_side_30 rfl (lv_at hl 2 rfl) ?_
            refine lv_iconst (v := 3) hx hb dX12_side_31 (by decide) ?_
            refine lv_iload hx hb dX12_side_32 (lv_at hl 0 rfl) ?_
            refine tk_ViP (As := [.int 3, .int v_81]) (rest := []) (n := 2) hx hb hml hown hU hN hZ (s_X12_bad_k12 l (dC, dI) cI cL cZ cR cG cH Z kd L f_127 hG o0 mo0 ko0 3 v_81) wd_602 wd_603 wd_604 wd_5 wd_605 (by decide +kernel) ⟨Nat.le_of_ble_eq_true rfl, Nat.le_of_ble_eq_true rfl⟩ hK hP hD hS mo0 hfo_137 12 rfl rfl rfl hl.1 rfl (Nat.le_of_ble_eq_true rfl) dX12_side_34 ⟨Nat.le_of_ble_eq_true rfl, Nat.le_of_ble_eq_true rfl⟩ (fun x_141 f_142 H locs hw hP hD hS => ?_)
            obtain ⟨hG, bx_141, hkc_143, hra_144, hfa_145⟩ := hw
            have hfr0 : ∀ b, kd b ≠ 12 → kd b ≠ 576 → f_142 b = f b := fun b q12 q576 => (hkc_143 b q12).trans (hfr0 b q12 q576)
            have hrA12 : ∀ b, kd b = 12 → ∀ j, fldR (f_142 b) j = fldR (f b) j := fun b kb j => (hra_144 b kb j).trans (hrA12 b kb j)
            have hfA12 : ∀ b, kd b = 12 → ∀ j, j ≠ 6 → j ≠ 7 → j ≠ 8 → j ≠ 14 → fldI (f_142 b) j = fldI (f b) j := fun b kb j n6 n7 n8 n14 => (hfa_145 b kb j n7 n8).trans (hfA12 b kb j n6 n7 n8 n14)
            have hT0 : frel kd 576 7 f_142 a_2 := hT0.keep (fun b q => hkc_143 b (by rw [q]; decide))
            have hMm_139 : (∀ z9, fldI (f_142 o0) 6 = some z9 → v_7.toInt ≤ z9.toInt) := (fun z9 h9 => hMm_139 z9 (by rw [hfa_145 o0 ko0 6 (by decide) (by decide)] at h9; exact h9))
            obtain ⟨v_147, v_148, hfo_149, fa_150⟩ := op12_7_8 hfo_137 (hG _ mo0) ko0 (hra_144 o0 ko0) (hfa_145 o0 ko0)
            have bv_147 : ((-2147483648) ≤ v_147.toInt ∧ v_147.toInt ≤ 2147483647) := ⟨i32_lo _, i32_hi _⟩
            have bv_148 : ((-2147483648) ≤ v_148.toInt ∧ v_148.toInt ≤ 2147483647) := ⟨i32_lo _, i32_hi _⟩
            refine lv_if_eq (tgt := 44) hx hb dX12_side_37 (by decide) (fun c_151 => ?_) (fun c_151 => ?_)
            · skip
              rw [← Int32.toInt_inj, ti_0] at c_151
              refine lv_iconst (v := 0) hx hb dX12_side_44 (by decide) ?_
              have hM9 := hMm_139 v_133 (by rw [hfo_149]; rfl)
              exact W.zret (v := 0) (ty := .boolean) hx hb hr rfl (fun t ht hW => ⟨⟨0, f_142, rfl, ⟨hG, (by decide), hfr0, hrA12, hfA12, (by intro w6 z6 e6 d6; rw [hfo_57] at e6; rw [hfo_149] at d6; obtain rfl := Option.some.inj e6; obtain rfl := Option.some.inj d6; (try rw [ti_0]) <;> omega), (fun d9 h9 => by rw [hfo_149] at h9; obtain rfl := Option.some.inj h9; exact hT0)⟩, by rw [ht]; exact hP, va_K.moved hW.alike hK, pl_in hD⟩, hS.F ht⟩) hS.2.2 dX12_side_45
            · skip
              rw [← Int32.toInt_inj, ti_0] at c_151
              exfalso
              omega
  exact hloop_64 6 0 (by decide) f hG _ _ hP hS hD hfr0 hrA12 hfA12 hT0 hM (by (try rw [ti_0]) <;> omega) ls hl
set_option maxHeartbeats 8000000 in
set_option maxRecDepth 100000 in
theorem s_X12_context_k12 (l : Launch) (D : va_G) (cI cL cZ cR cG cH : ClassId) (Z : zT) (kd : Nat → Nat) (L : List Nat) (f : Nat → va_E) (hG : GI (okc cI cL cZ cR cG cH L kd) kd L f) (o0 : Nat) (mo0 : o0 ∈ L) (ko0 : kd o0 = 12) (p1 : Int32) (bp1 : (0 ≤ p1.toInt ∧ p1.toInt ≤ 23)) (hxtr0 : ∀ d9, fldR (f o0) 1 = some d9 → frel kd 576 7 f d9) : mPI l D cI cL cZ cR cG cH Z yX12_context cX12_context 2 (some .boolean) 6 129 [.ref o0, .int p1] L f (fun (r : Int32) (f9 : Nat → va_E) => GI (okc cI cL cZ cR cG cH L kd) kd L f9 ∧ (0 ≤ r.toInt ∧ r.toInt ≤ 1) ∧ (∀ b, kd b ≠ 12 → kd b ≠ 576 → f9 b = f b) ∧ (∀ b, kd b = 12 → ∀ j, fldR (f9 b) j = fldR (f b) j) ∧ (∀ b, kd b = 12 → ∀ j, j ≠ 6 → j ≠ 7 → j ≠ 8 → j ≠ 14 → fldI (f9 b) j = fldI (f b) j) ∧ (∀ (w6 z6 : Int32), fldI (f o0) 6 = some w6 → fldI (f9 o0) 6 = some z6 → w6.toInt ≤ z6.toInt) ∧ (∀ d9, fldR (f9 o0) 1 = some d9 → frel kd 576 7 f9 d9)) := by
  obtain ⟨dC, dI⟩ := D
  refine Met.ofW (cc := cX12_context) (maxL := 2) (ret := (some .boolean)) (by decide) rfl ?_
  intro p e s m args below meth c s₁ B hml hv
  obtain ⟨rfl, hP, hK, hD0, hN, hZ⟩ := hv
  have hx := B.exec
  have hb := B.bytes
  have hr := B.returns
  have hU : ∀ w ∈ wsU, w.before _ s = true := fun w h => atoms_spec (ws := wU yX12_context cX12_context 2 (some .boolean)) B.pre w (List.mem_cons_of_mem _ h)
  have hown : s.vm.findClass RX12 = some m.cls := findClass_of_methodNamed B.named
  have hlocks := B.notSynchronized
  have hD := pl_in hD0
  have hS : va_S (fun q => q ∈ L) s.heap s.heap [] := va_S.rf
  have hl := lv_entry ([.ref o0, .int p1]) (n := 2) (Nat.le_of_ble_eq_true rfl)
  rw [lg_entry_eq]
  generalize (lg_sl ([.ref o0, .int p1]) ++ List.replicate (2 - (lg_sl ([.ref o0, .int p1])).length) Slot.unset).toArray = ls at hl ⊢
  have hl : lv_has ls 2 [(0, .ref o0), (1, .int p1)] := hl
  have hfr0 : ∀ b, kd b ≠ 12 → kd b ≠ 576 → f b = f b := fun _ _ _ => rfl
  have hrA12 : ∀ b, kd b = 12 → ∀ j, fldR (f b) j = fldR (f b) j := fun _ _ _ => rfl
  have hfA12 : ∀ b, kd b = 12 → ∀ j, j ≠ 6 → j ≠ 7 → j ≠ 8 → j ≠ 14 → fldI (f b) j = fldI (f b) j := fun _ _ _ _ _ _ _ => rfl
  obtain ⟨a_1, a_2, a_3, v_4, a_5, v_6, v_7, v_8, v_9, v_10, v_11, v_12, v_13, v_14, v_15, a_16, a_17, a_18, a_19, a_20, a_21, a_22, a_23, v_24, v_25, v_26, v_27, v_28, a_29, v_30, a_31, a_32, v_33, v_34, a_35, v_36, a_37, a_38, v_39, v_40, a_41, a_42, a_43, v_44, a_45, a_46, a_47, a_48, a_49, a_50, a_51, a_52, a_53, v_54, v_55, a_56, hfo_57, fa_58⟩ := un12 (hG _ mo0) ko0
  obtain ⟨ma_2, ka_2⟩ := fa12_1 fa_58
  have bv_7 : (0 ≤ v_7.toInt ∧ v_7.toInt ≤ 600) := fa12_6 fa_58
  have hT0 := hxtr0 a_2 (by rw [hfo_57]; rfl)
  have hM : (∀ z9, fldI (f o0) 6 = some z9 → v_7.toInt ≤ z9.toInt) := fun z9 h9 => by rw [hfo_57] at h9; obtain rfl := Option.some.inj h9; exact Int.le_refl _
  refine lv_aload_n hx hb dX12_context_0 rfl (lv_at hl 0 rfl) ?_
  refine tk_getP (D := (dC, dI)) (ci := 12) (v := .ref a_2) (C := RX12) (T := TX12) (N := 56) hx hb hU inlX12 hown hK hP mo0 hfo_57 rfl 1 (by decide) (hU _ wd_170) (fun _ h9 => h9) rfl dX12_context_1 ?_
  refine lv_sipush (v := 500) hx hb dX12_context_4 (by decide) ?_
  refine lv_iconst (v := 4) hx hb dX12_context_7 (by decide) ?_
  refine lv_iload_n hx hb dX12_context_8 rfl (lv_at hl 1 rfl) ?_
  refine lv_imul hx hb dX12_context_9 ?_
  refine lv_topi (fun x_59 ex_59 => ?_)
  have hx_59 : x_59.toInt = 4 * p1.toInt := by rw [ex_59, ml_I (by rw [ti_4]; omega) (by rw [ti_4]; omega), ti_4]
  have bx_59 : (0 ≤ x_59.toInt ∧ x_59.toInt ≤ 92) := by constructor <;> omega
  refine lv_iadd hx hb dX12_context_10 ?_
  refine lv_topi (fun x_60 ex_60 => ?_)
  have hx_60 : x_60.toInt = 500 + x_59.toInt := by rw [ex_60, ad_I (by rw [ti_500]; omega) (by rw [ti_500]; omega), ti_500]
  have bx_60 : (500 ≤ x_60.toInt ∧ x_60.toInt ≤ 592) := by constructor <;> omega
  refine lv_aload_n hx hb dX12_context_11 rfl (lv_at hl 0 rfl) ?_
  refine tk_ViP (As := []) (rest := [.int x_60, .ref a_2]) (n := 0) hx hb hml hown hU hN hZ (s_X12_sign_k12 l (dC, dI) cI cL cZ cR cG cH Z kd L f hG o0 mo0 ko0) wd_573 wd_574 wd_575 wd_5 wd_576 (by decide +kernel) ⟨Nat.le_of_ble_eq_true rfl, Nat.le_of_ble_eq_true rfl⟩ hK hP hD hS mo0 hfo_57 12 rfl rfl rfl hl.1 rfl (Nat.le_of_ble_eq_true rfl) dX12_context_12 ⟨Nat.le_of_ble_eq_true rfl, Nat.le_of_ble_eq_true rfl⟩ (fun x_61 f_62 H locs hw hP hD hS => ?_)
  obtain ⟨hG, bx_61, hkc_63, hra_64, hfa_65, hpost_66⟩ := hw
  have hfr0 : ∀ b, kd b ≠ 12 → kd b ≠ 576 → f_62 b = f b := fun b q12 q576 => (hkc_63 b q12).trans (hfr0 b q12 q576)
  have hrA12 : ∀ b, kd b = 12 → ∀ j, fldR (f_62 b) j = fldR (f b) j := fun b kb j => (hra_64 b kb j).trans (hrA12 b kb j)
  have hfA12 : ∀ b, kd b = 12 → ∀ j, j ≠ 6 → j ≠ 7 → j ≠ 8 → j ≠ 14 → fldI (f_62 b) j = fldI (f b) j := fun b kb j n6 n7 n8 n14 => (hfa_65 b kb j n6).trans (hfA12 b kb j n6 n7 n8 n14)
  have hT0 : frel kd 576 7 f_62 a_2 := hT0.keep (fun b q => hkc_63 b (by rw [q]; decide))
  obtain ⟨v_68, hfo_69, fa_70⟩ := op12_6 hfo_57 (hG _ mo0) ko0 (hra_64 o0 ko0) (hfa_65 o0 ko0)
  have bv_68 : (0 ≤ v_68.toInt ∧ v_68.toInt ≤ 600) := fa12_6 fa_70
  have hqhpost_66 := hpost_66 v_7 v_68 (by rw [hfo_57]; rfl) (by rw [hfo_69]; rfl)
  have hMm_71 : (∀ z9, fldI (f_62 o0) 6 = some z9 → v_7.toInt ≤ z9.toInt) := fun z9 h9 => by rw [hfo_69] at h9; obtain rfl := Option.some.inj h9; have h8 := hM v_7 (by rw [hfo_57]; rfl); omega
  refine lv_bipush (v := 35) hx hb dX12_context_15 (by decide) ?_
  have hcut_73 : ∀ (y_72 : Int32), (0 ≤ y_72.toInt ∧ y_72.toInt ≤ 1) → ∀ (ls : Array Slot), lv_has ls 2 [(0, .ref o0), (1, .int p1)] → W p l e (headSpec (wU yX12_context cX12_context 2 (some .boolean)) { frames := 6, cells := 0, slots := 0, locals := 129 }).room s m [.ref o0, .int p1].toArray below meth c H locs 0 0 (MQ below (va_Qi (fun (r : Int32) (f9 : Nat → va_E) => GI (okc cI cL cZ cR cG cH L kd) kd L f9 ∧ (0 ≤ r.toInt ∧ r.toInt ≤ 1) ∧ (∀ b, kd b ≠ 12 → kd b ≠ 576 → f9 b = f b) ∧ (∀ b, kd b = 12 → ∀ j, fldR (f9 b) j = fldR (f b) j) ∧ (∀ b, kd b = 12 → ∀ j, j ≠ 6 → j ≠ 7 → j ≠ 8 → j ≠ 14 → fldI (f9 b) j = fldI (f b) j) ∧ (∀ (w6 z6 : Int32), fldI (f o0) 6 = some w6 → fldI (f9 o0) 6 = some z6 → w6.toInt ≤ z6.toInt) ∧ (∀ d9, fldR (f9 o0) 1 = some d9 → frel kd 576 7 f9 d9)) (qP (dC, dI) cI cL cZ cR cG cH L) (fun q => q ∈ L)) [.ref o0, .int p1].toArray s 0 0 (fun q => q ∈ L)) (F0 m 25 ls [.int y_72, .int x_60, .ref a_2]) := by
    intro y_72 by_72 ls hl
    obtain ⟨g_75, hfo_74, hbg_75⟩ := un_576 (hG _ ma_2) ka_2
    refine tk_istP hx hb hK hP hD hS 0 ma_2 hfo_74 rfl (vp_in_iff.mpr (by constructor <;> omega)) dX12_context_25 (fun H locs hP hD hS => ?_)
    have hc9 := cl_I (i := x_60) (by omega)
    obtain ⟨g_76, eqg_76⟩ : ∃ y : Nat → Int32, y = upd g_75 (Int32.toNatClampNeg x_60) y_72 := ⟨_, rfl⟩
    rw [← eqg_76] at hP hD
    have hbg_76 : wOK g_76 := by rw [eqg_76]; exact ⟨hbg_75.1.up (fun h1 h2 h3 => by exfalso; omega), hbg_75.2.1.up (fun h1 h2 h3 => by exfalso; omega), hbg_75.2.2.1.up (fun h1 h2 h3 => by exfalso; omega), hbg_75.2.2.2.1.up (fun h1 h2 h3 => by exfalso; omega), hbg_75.2.2.2.2.1.up (fun h1 h2 h3 => by exfalso; omega), hbg_75.2.2.2.2.2.1.up (fun h1 h2 h3 => by exfalso; omega), hbg_75.2.2.2.2.2.2.1.up (fun h1 h2 h3 => by exfalso; omega), hbg_75.2.2.2.2.2.2.2.1.up (fun h1 h2 h3 => by exfalso; omega), hbg_75.2.2.2.2.2.2.2.2.1.up (fun h1 h2 h3 => by exfalso; omega), hbg_75.2.2.2.2.2.2.2.2.2.1.up (fun h1 h2 h3 => by exfalso; omega), hbg_75.2.2.2.2.2.2.2.2.2.2.1.up (fun h1 h2 h3 => by exfalso; omega), hbg_75.2.2.2.2.2.2.2.2.2.2.2.1.up (fun h1 h2 h3 => by exfalso; omega), hbg_75.2.2.2.2.2.2.2.2.2.2.2.2.1.up (fun h1 h2 h3 => by exfalso; omega), hbg_75.2.2.2.2.2.2.2.2.2.2.2.2.2.1.up (fun h1 h2 h3 => by exfalso; omega), hbg_75.2.2.2.2.2.2.2.2.2.2.2.2.2.2.1.up (fun h1 h2 h3 => by exfalso; omega), hbg_75.2.2.2.2.2.2.2.2.2.2.2.2.2.2.2.up (fun h1 h2 h3 => by constructor <;> omega)⟩
    obtain ⟨f_78, ef_78⟩ : ∃ y : Nat → va_E, y = va_up f_62 a_2 (.inl (cI, 1560, .inl g_76)) := ⟨_, rfl⟩
    have hP : va_P (dC, dI) vwCl (va_pl L f_78) H := by rw [ef_78]; exact hP
    have hD : va_D (fun q => q ∈ L) (va_pl L f_78) := by rw [ef_78]; exact hD
    have hG : GI (okc cI cL cZ cR cG cH L kd) kd L f_78 := by rw [ef_78]; exact hG.set a_2 (mk_576 ka_2 ⟨_, rfl, hbg_76⟩)
    have hfo_79 : f_78 o0 = .inr (12, [.ref a_1, .ref a_2, .ref a_3, .int v_4, .ref a_5, .int v_6, .int v_68, .int v_8, .int v_9, .int v_10, .int v_11, .int v_12, .int v_13, .int v_14, .int v_15, .ref a_16, .ref a_17, .ref a_18, .ref a_19, .ref a_20, .ref a_21, .ref a_22, .ref a_23, .int v_24, .int v_25, .int v_26, .int v_27, .int v_28, .ref a_29, .int v_30, .ref a_31, .ref a_32, .int v_33, .int v_34, .ref a_35, .int v_36, .ref a_37, .ref a_38, .int v_39, .int v_40, .ref a_41, .ref a_42, .ref a_43, .int v_44, .ref a_45, .ref a_46, .ref a_47, .ref a_48, .ref a_49, .ref a_50, .ref a_51, .ref a_52, .ref a_53, .int v_54, .int v_55, .ref a_56]) := by rw [ef_78, up_ne (kd_ne ka_2 ko0 (by decide))]; exact hfo_69
    have hfr0 : ∀ b, kd b ≠ 12 → kd b ≠ 576 → f_78 b = f b := fun b q12 q576 => (congrFun ef_78 b).trans ((up_ne (fun e9 => q576 (by rw [e9]; exact ka_2))).trans (hfr0 b q12 q576))
    have hrA12 : ∀ b, kd b = 12 → ∀ j, fldR (f_78 b) j = fldR (f b) j := fun b kb j => (congrArg (fun x => fldR x j) ((congrFun ef_78 b).trans (up_ne (kd_ne ka_2 kb (by decide))))).trans (hrA12 b kb j)
    have hfA12 : ∀ b, kd b = 12 → ∀ j, j ≠ 6 → j ≠ 7 → j ≠ 8 → j ≠ 14 → fldI (f_78 b) j = fldI (f b) j := fun b kb j n6 n7 n8 n14 => (congrArg (fun x => fldI x j) ((congrFun ef_78 b).trans (up_ne (kd_ne ka_2 kb (by decide))))).trans (hfA12 b kb j n6 n7 n8 n14)
    have hT0 : frel kd 576 7 f_78 a_2 := by rw [ef_78]; exact frel.mk ka_2 up_self (by rw [eqg_76]; exact (hT0.get hfo_74).up (hbg_75.2.1 16 (by decide) (by decide) (by decide)).2 (by omega) (by omega) (by omega) (fun h9 => by exfalso; omega))
    have hMm_71 : (∀ z9, fldI (f_78 o0) 6 = some z9 → v_7.toInt ≤ z9.toInt) := by rw [ef_78]; exact (fun z9 h9 => hMm_71 z9 (by rw [up_ne (kd_ne ka_2 ko0 (by decide))] at h9; exact h9))
    have hfo_80 : f_78 a_2 = .inl (cI, 1560, .inl g_76) := by rw [ef_78]; exact up_self
    have ql_81 : y_72 = g_76 (Int32.toNatClampNeg x_60) := by rw [eqg_76, pk_us]
    refine lv_aload_n hx hb dX12_context_26 rfl (lv_at hl 0 rfl) ?_
    refine tk_ViP (As := []) (rest := []) (n := 0) hx hb hml hown hU hN hZ (s_X12_sign_k12 l (dC, dI) cI cL cZ cR cG cH Z kd L f_78 hG o0 mo0 ko0) wd_573 wd_574 wd_575 wd_5 wd_576 (by decide +kernel) ⟨Nat.le_of_ble_eq_true rfl, Nat.le_of_ble_eq_true rfl⟩ hK hP hD hS mo0 hfo_79 12 rfl rfl rfl hl.1 rfl (Nat.le_of_ble_eq_true rfl) dX12_context_27 ⟨Nat.le_of_ble_eq_true rfl, Nat.le_of_ble_eq_true rfl⟩ (fun x_82 f_83 H locs hw hP hD hS => ?_)
    obtain ⟨hG, bx_82, hkc_84, hra_85, hfa_86, hpost_87⟩ := hw
    have hfo_89 : f_83 a_2 = .inl (cI, 1560, .inl g_76) := by rw [hkc_84 a_2 (by rw [ka_2]; decide)]; exact hfo_80
    have hfr0 : ∀ b, kd b ≠ 12 → kd b ≠ 576 → f_83 b = f b := fun b q12 q576 => (hkc_84 b q12).trans (hfr0 b q12 q576)
    have hrA12 : ∀ b, kd b = 12 → ∀ j, fldR (f_83 b) j = fldR (f b) j := fun b kb j => (hra_85 b kb j).trans (hrA12 b kb j)
    have hfA12 : ∀ b, kd b = 12 → ∀ j, j ≠ 6 → j ≠ 7 → j ≠ 8 → j ≠ 14 → fldI (f_83 b) j = fldI (f b) j := fun b kb j n6 n7 n8 n14 => (hfa_86 b kb j n6).trans (hfA12 b kb j n6 n7 n8 n14)
    have hT0 : frel kd 576 7 f_83 a_2 := hT0.keep (fun b q => hkc_84 b (by rw [q]; decide))
    obtain ⟨v_90, hfo_91, fa_92⟩ := op12_6 hfo_79 (hG _ mo0) ko0 (hra_85 o0 ko0) (hfa_86 o0 ko0)
    have bv_90 : (0 ≤ v_90.toInt ∧ v_90.toInt ≤ 600) := fa12_6 fa_92
    have hqhpost_87 := hpost_87 v_68 v_90 (by rw [hfo_79]; rfl) (by rw [hfo_91]; rfl)
    have hMm_93 : (∀ z9, fldI (f_83 o0) 6 = some z9 → v_7.toInt ≤ z9.toInt) := fun z9 h9 => by rw [hfo_91] at h9; obtain rfl := Option.some.inj h9; have h8 := hMm_71 v_68 (by rw [hfo_79]; rfl); omega
    refine lv_bipush (v := 35) hx hb dX12_context_30 (by decide) ?_
    have hcut_97 : ∀ (f_95 : Nat → va_E), GI (okc cI cL cZ cR cG cH L kd) kd L f_95 → ∀ (H : Heap) (locs : List Loc), va_P (dC, dI) vwCl (va_pl L f_95) H → va_S (fun q => q ∈ L) s.heap H locs → va_D (fun q => q ∈ L) (va_pl L f_95) → (∀ b, kd b ≠ 12 → kd b ≠ 576 → f_95 b = f b) → (∀ b, kd b = 12 → ∀ j, fldR (f_95 b) j = fldR (f b) j) → (∀ b, kd b = 12 → ∀ j, j ≠ 6 → j ≠ 7 → j ≠ 8 → j ≠ 14 → fldI (f_95 b) j = fldI (f b) j) → (f_95 a_2 = .inl (cI, 1560, .inl g_76)) → frel kd 576 7 f_95 a_2 → (∀ z9, fldI (f_95 o0) 6 = some z9 → v_7.toInt ≤ z9.toInt) → ∀ (ls : Array Slot), lv_has ls 2 [(0, .ref o0), (1, .int p1)] → W p l e (headSpec (wU yX12_context cX12_context 2 (some .boolean)) { frames := 6, cells := 0, slots := 0, locals := 129 }).room s m [.ref o0, .int p1].toArray below meth c H locs 0 0 (MQ below (va_Qi (fun (r : Int32) (f9 : Nat → va_E) => GI (okc cI cL cZ cR cG cH L kd) kd L f9 ∧ (0 ≤ r.toInt ∧ r.toInt ≤ 1) ∧ (∀ b, kd b ≠ 12 → kd b ≠ 576 → f9 b = f b) ∧ (∀ b, kd b = 12 → ∀ j, fldR (f9 b) j = fldR (f b) j) ∧ (∀ b, kd b = 12 → ∀ j, j ≠ 6 → j ≠ 7 → j ≠ 8 → j ≠ 14 → fldI (f9 b) j = fldI (f b) j) ∧ (∀ (w6 z6 : Int32), fldI (f o0) 6 = some w6 → fldI (f9 o0) 6 = some z6 → w6.toInt ≤ z6.toInt) ∧ (∀ d9, fldR (f9 o0) 1 = some d9 → frel kd 576 7 f9 d9)) (qP (dC, dI) cI cL cZ cR cG cH L) (fun q => q ∈ L)) [.ref o0, .int p1].toArray s 0 0 (fun q => q ∈ L)) (F0 m 45 ls []) := by
      intro f_95 hG H locs hP hS hD hfr0 hrA12 hfA12 hfo_96 hT0 hMm_93 ls hl
      refine lv_aload_n hx hb dX12_context_45 rfl (lv_at hl 0 rfl) ?_
      refine lv_iload_n hx hb dX12_context_46 rfl (lv_at hl 1 rfl) ?_
      refine lv_iconst (v := 0) hx hb dX12_context_47 (by decide) ?_
      obtain ⟨v_98, v_99, v_100, v_101, hfo_102, fa_103⟩ := op12_6_7_8_14 hfo_57 (hG _ mo0) ko0 (hrA12 o0 ko0) (hfA12 o0 ko0)
      have bv_98 : (0 ≤ v_98.toInt ∧ v_98.toInt ≤ 600) := fa12_6 fa_103
      have bv_99 : ((-2147483648) ≤ v_99.toInt ∧ v_99.toInt ≤ 2147483647) := ⟨i32_lo _, i32_hi _⟩
      have bv_100 : ((-2147483648) ≤ v_100.toInt ∧ v_100.toInt ≤ 2147483647) := ⟨i32_lo _, i32_hi _⟩
      have bv_101 : ((-2147483648) ≤ v_101.toInt ∧ v_101.toInt ≤ 2147483647) := ⟨i32_lo _, i32_hi _⟩
      refine tk_ViP (As := [.int p1, .int 0]) (rest := []) (n := 2) hx hb hml hown hU hN hZ (s_X12_side_k12 l (dC, dI) cI cL cZ cR cG cH Z kd L f_95 hG o0 mo0 ko0 p1 (by constructor <;> omega) 0 (by decide) (fun d9 h9 => by rw [hfo_102] at h9; obtain rfl := Option.some.inj h9; exact hT0)) wd_643 wd_644 wd_645 wd_5 wd_646 (by decide +kernel) ⟨Nat.le_of_ble_eq_true rfl, Nat.le_of_ble_eq_true rfl⟩ hK hP hD hS mo0 hfo_102 12 rfl rfl rfl hl.1 rfl (Nat.le_of_ble_eq_true rfl) dX12_context_48 ⟨Nat.le_of_ble_eq_true rfl, Nat.le_of_ble_eq_true rfl⟩ (fun x_104 f_105 H locs hw hP hD hS => ?_)
      obtain ⟨hG, bx_104, hkc_106, hra_107, hfa_108, hpost_109, hTc_110⟩ := hw
      have hfr0 : ∀ b, kd b ≠ 12 → kd b ≠ 576 → f_105 b = f b := fun b q12 q576 => (hkc_106 b q12 q576).trans (hfr0 b q12 q576)
      have hrA12 : ∀ b, kd b = 12 → ∀ j, fldR (f_105 b) j = fldR (f b) j := fun b kb j => (hra_107 b kb j).trans (hrA12 b kb j)
      have hfA12 : ∀ b, kd b = 12 → ∀ j, j ≠ 6 → j ≠ 7 → j ≠ 8 → j ≠ 14 → fldI (f_105 b) j = fldI (f b) j := fun b kb j n6 n7 n8 n14 => (hfa_108 b kb j n6 n7 n8 n14).trans (hfA12 b kb j n6 n7 n8 n14)
      obtain ⟨v_112, v_113, v_114, v_115, hfo_116, fa_117⟩ := op12_6_7_8_14 hfo_102 (hG _ mo0) ko0 (hra_107 o0 ko0) (hfa_108 o0 ko0)
      have bv_112 : (0 ≤ v_112.toInt ∧ v_112.toInt ≤ 600) := fa12_6 fa_117
      have bv_113 : ((-2147483648) ≤ v_113.toInt ∧ v_113.toInt ≤ 2147483647) := ⟨i32_lo _, i32_hi _⟩
      have bv_114 : ((-2147483648) ≤ v_114.toInt ∧ v_114.toInt ≤ 2147483647) := ⟨i32_lo _, i32_hi _⟩
      have bv_115 : ((-2147483648) ≤ v_115.toInt ∧ v_115.toInt ≤ 2147483647) := ⟨i32_lo _, i32_hi _⟩
      have hqhpost_109 := hpost_109 v_98 v_112 (by rw [hfo_102]; rfl) (by rw [hfo_116]; rfl)
      try rw [ti_0] at hqhpost_109
      have hMm_118 : (∀ z9, fldI (f_105 o0) 6 = some z9 → v_7.toInt ≤ z9.toInt) := fun z9 h9 => by rw [hfo_116] at h9; obtain rfl := Option.some.inj h9; have h8 := hMm_93 v_98 (by rw [hfo_102]; rfl); omega
      have hT_119 := hTc_110 a_2 (by rw [hfo_116]; rfl)
      refine lv_if_eq (tgt := 72) hx hb dX12_context_51 (by decide) (fun c_120 => ?_) (fun c_120 => ?_)
      · skip
        rw [← Int32.toInt_inj, ti_0] at c_120
        refine lv_iconst (v := 0) hx hb dX12_context_72 (by decide) ?_
        have hM9 := hMm_118 v_112 (by rw [hfo_116]; rfl)
        exact W.zret (v := 0) (ty := .boolean) hx hb hr rfl (fun t ht hW => ⟨⟨0, f_105, rfl, ⟨hG, (by decide), hfr0, hrA12, hfA12, (by intro w6 z6 e6 d6; rw [hfo_57] at e6; rw [hfo_116] at d6; obtain rfl := Option.some.inj e6; obtain rfl := Option.some.inj d6; (try rw [ti_0]) <;> omega), (fun d9 h9 => by rw [hfo_116] at h9; obtain rfl := Option.some.inj h9; exact hT_119)⟩, by rw [ht]; exact hP, va_K.moved hW.alike hK, pl_in hD⟩, hS.F ht⟩) hS.2.2 dX12_context_73
      · skip
        rw [← Int32.toInt_inj, ti_0] at c_120
        refine lv_aload_n hx hb dX12_context_54 rfl (lv_at hl 0 rfl) ?_
        refine lv_bipush (v := 95) hx hb dX12_context_55 (by decide) ?_
        refine tk_ViP (As := [.int 95]) (rest := []) (n := 1) hx hb hml hown hU hN hZ (s_X12_takes_k12 l (dC, dI) cI cL cZ cR cG cH Z kd L f_105 hG o0 mo0 ko0 95 (by decide)) wd_624 wd_625 wd_626 wd_5 wd_627 (by decide +kernel) ⟨Nat.le_of_ble_eq_true rfl, Nat.le_of_ble_eq_true rfl⟩ hK hP hD hS mo0 hfo_116 12 rfl rfl rfl hl.1 rfl (Nat.le_of_ble_eq_true rfl) dX12_context_57 ⟨Nat.le_of_ble_eq_true rfl, Nat.le_of_ble_eq_true rfl⟩ (fun x_121 f_122 H locs hw hP hD hS => ?_)
        obtain ⟨hG, bx_121, hkc_123, hra_124, hfa_125, hpost_126⟩ := hw
        have hfr0 : ∀ b, kd b ≠ 12 → kd b ≠ 576 → f_122 b = f b := fun b q12 q576 => (hkc_123 b q12).trans (hfr0 b q12 q576)
        have hrA12 : ∀ b, kd b = 12 → ∀ j, fldR (f_122 b) j = fldR (f b) j := fun b kb j => (hra_124 b kb j).trans (hrA12 b kb j)
        have hfA12 : ∀ b, kd b = 12 → ∀ j, j ≠ 6 → j ≠ 7 → j ≠ 8 → j ≠ 14 → fldI (f_122 b) j = fldI (f b) j := fun b kb j n6 n7 n8 n14 => (hfa_125 b kb j n6 n7 n8).trans (hfA12 b kb j n6 n7 n8 n14)
        have hT_119 : frel kd 576 7 f_122 a_2 := hT_119.keep (fun b q => hkc_123 b (by rw [q]; decide))
        obtain ⟨v_128, v_129, v_130, hfo_131, fa_132⟩ := op12_6_7_8 hfo_116 (hG _ mo0) ko0 (hra_124 o0 ko0) (hfa_125 o0 ko0)
        have bv_128 : (0 ≤ v_128.toInt ∧ v_128.toInt ≤ 600) := fa12_6 fa_132
        have bv_129 : ((-2147483648) ≤ v_129.toInt ∧ v_129.toInt ≤ 2147483647) := ⟨i32_lo _, i32_hi _⟩
        have bv_130 : ((-2147483648) ≤ v_130.toInt ∧ v_130.toInt ≤ 2147483647) := ⟨i32_lo _, i32_hi _⟩
        have hqhpost_126 := hpost_126 v_112 v_128 (by rw [hfo_116]; rfl) (by rw [hfo_131]; rfl)
        try rw [ti_95] at hqhpost_126
        have hMm_133 : (∀ z9, fldI (f_122 o0) 6 = some z9 → v_7.toInt ≤ z9.toInt) := fun z9 h9 => by rw [hfo_131] at h9; obtain rfl := Option.some.inj h9; have h8 := hMm_118 v_112 (by rw [hfo_116]; rfl); omega
        refine lv_if_eq (tgt := 72) hx hb dX12_context_60 (by decide) (fun c_134 => ?_) (fun c_134 => ?_)
        · skip
          rw [← Int32.toInt_inj, ti_0] at c_134
          refine lv_iconst (v := 0) hx hb dX12_context_72 (by decide) ?_
          have hM9 := hMm_133 v_128 (by rw [hfo_131]; rfl)
          exact W.zret (v := 0) (ty := .boolean) hx hb hr rfl (fun t ht hW => ⟨⟨0, f_122, rfl, ⟨hG, (by decide), hfr0, hrA12, hfA12, (by intro w6 z6 e6 d6; rw [hfo_57] at e6; rw [hfo_131] at d6; obtain rfl := Option.some.inj e6; obtain rfl := Option.some.inj d6; (try rw [ti_0]) <;> omega), (fun d9 h9 => by rw [hfo_131] at h9; obtain rfl := Option.some.inj h9; exact hT_119)⟩, by rw [ht]; exact hP, va_K.moved hW.alike hK, pl_in hD⟩, hS.F ht⟩) hS.2.2 dX12_context_73
        · skip
          rw [← Int32.toInt_inj, ti_0] at c_134
          refine lv_aload_n hx hb dX12_context_63 rfl (lv_at hl 0 rfl) ?_
          refine lv_iload_n hx hb dX12_context_64 rfl (lv_at hl 1 rfl) ?_
          refine lv_iconst (v := 1) hx hb dX12_context_65 (by decide) ?_
          refine tk_ViP (As := [.int p1, .int 1]) (rest := []) (n := 2) hx hb hml hown hU hN hZ (s_X12_side_k12 l (dC, dI) cI cL cZ cR cG cH Z kd L f_122 hG o0 mo0 ko0 p1 (by constructor <;> omega) 1 (by decide) (fun d9 h9 => by rw [hfo_131] at h9; obtain rfl := Option.some.inj h9; exact hT_119)) wd_643 wd_644 wd_645 wd_5 wd_646 (by decide +kernel) ⟨Nat.le_of_ble_eq_true rfl, Nat.le_of_ble_eq_true rfl⟩ hK hP hD hS mo0 hfo_131 12 rfl rfl rfl hl.1 rfl (Nat.le_of_ble_eq_true rfl) dX12_context_66 ⟨Nat.le_of_ble_eq_true rfl, Nat.le_of_ble_eq_true rfl⟩ (fun x_135 f_136 H locs hw hP hD hS => ?_)
          obtain ⟨hG, bx_135, hkc_137, hra_138, hfa_139, hpost_140, hTc_141⟩ := hw
          have hfr0 : ∀ b, kd b ≠ 12 → kd b ≠ 576 → f_136 b = f b := fun b q12 q576 => (hkc_137 b q12 q576).trans (hfr0 b q12 q576)
          have hrA12 : ∀ b, kd b = 12 → ∀ j, fldR (f_136 b) j = fldR (f b) j := fun b kb j => (hra_138 b kb j).trans (hrA12 b kb j)
          have hfA12 : ∀ b, kd b = 12 → ∀ j, j ≠ 6 → j ≠ 7 → j ≠ 8 → j ≠ 14 → fldI (f_136 b) j = fldI (f b) j := fun b kb j n6 n7 n8 n14 => (hfa_139 b kb j n6 n7 n8 n14).trans (hfA12 b kb j n6 n7 n8 n14)
          obtain ⟨v_143, v_144, v_145, v_146, hfo_147, fa_148⟩ := op12_6_7_8_14 hfo_131 (hG _ mo0) ko0 (hra_138 o0 ko0) (hfa_139 o0 ko0)
          have bv_143 : (0 ≤ v_143.toInt ∧ v_143.toInt ≤ 600) := fa12_6 fa_148
          have bv_144 : ((-2147483648) ≤ v_144.toInt ∧ v_144.toInt ≤ 2147483647) := ⟨i32_lo _, i32_hi _⟩
          have bv_145 : ((-2147483648) ≤ v_145.toInt ∧ v_145.toInt ≤ 2147483647) := ⟨i32_lo _, i32_hi _⟩
          have bv_146 : ((-2147483648) ≤ v_146.toInt ∧ v_146.toInt ≤ 2147483647) := ⟨i32_lo _, i32_hi _⟩
          have hqhpost_140 := hpost_140 v_128 v_143 (by rw [hfo_131]; rfl) (by rw [hfo_147]; rfl)
          try rw [ti_1] at hqhpost_140
          have hMm_149 : (∀ z9, fldI (f_136 o0) 6 = some z9 → v_7.toInt ≤ z9.toInt) := fun z9 h9 => by rw [hfo_147] at h9; obtain rfl := Option.some.inj h9; have h8 := hMm_133 v_128 (by rw [hfo_131]; rfl); omega
          have hT_150 := hTc_141 a_2 (by rw [hfo_147]; rfl)
          refine lv_if_ne (tgt := 74) hx hb dX12_context_69 (by decide) (fun c_151 => ?_) (fun c_151 => ?_)
          · skip
            rw [← Int32.toInt_inj, ti_0] at c_151
            refine lv_aload_n hx hb dX12_context_74 rfl (lv_at hl 0 rfl) ?_
            refine tk_getP (D := (dC, dI)) (ci := 12) (v := .ref a_2) (C := RX12) (T := TX12) (N := 56) hx hb hU inlX12 hown hK hP mo0 hfo_147 rfl 1 (by decide) (hU _ wd_170) (fun _ h9 => h9) rfl dX12_context_75 ?_
            refine lv_sipush (v := 500) hx hb dX12_context_78 (by decide) ?_
            refine lv_iconst (v := 4) hx hb dX12_context_81 (by decide) ?_
            refine lv_iload_n hx hb dX12_context_82 rfl (lv_at hl 1 rfl) ?_
            refine lv_imul hx hb dX12_context_83 ?_
            refine lv_topi (fun x_152 ex_152 => ?_)
            have hx_152 : x_152.toInt = 4 * p1.toInt := by rw [ex_152, ml_I (by rw [ti_4]; omega) (by rw [ti_4]; omega), ti_4]
            have bx_152 : (0 ≤ x_152.toInt ∧ x_152.toInt ≤ 92) := by constructor <;> omega
            refine lv_iadd hx hb dX12_context_84 ?_
            refine lv_topi (fun x_153 ex_153 => ?_)
            have hx_153 : x_153.toInt = 500 + x_152.toInt := by rw [ex_153, ad_I (by rw [ti_500]; omega) (by rw [ti_500]; omega), ti_500]
            have bx_153 : (500 ≤ x_153.toInt ∧ x_153.toInt ≤ 592) := by constructor <;> omega
            refine lv_iconst (v := 1) hx hb dX12_context_85 (by decide) ?_
            refine lv_iadd hx hb dX12_context_86 ?_
            refine lv_topi (fun x_154 ex_154 => ?_)
            have hx_154 : x_154.toInt = x_153.toInt + 1 := by rw [ex_154, ad_I (by rw [ti_1]; omega) (by rw [ti_1]; omega), ti_1]
            have bx_154 : (501 ≤ x_154.toInt ∧ x_154.toInt ≤ 593) := by constructor <;> omega
            refine lv_aload_n hx hb dX12_context_87 rfl (lv_at hl 0 rfl) ?_
            refine tk_ViP (As := []) (rest := [.int x_154, .ref a_2]) (n := 0) hx hb hml hown hU hN hZ (s_X12_sign_k12 l (dC, dI) cI cL cZ cR cG cH Z kd L f_136 hG o0 mo0 ko0) wd_573 wd_574 wd_575 wd_5 wd_576 (by decide +kernel) ⟨Nat.le_of_ble_eq_true rfl, Nat.le_of_ble_eq_true rfl⟩ hK hP hD hS mo0 hfo_147 12 rfl rfl rfl hl.1 rfl (Nat.le_of_ble_eq_true rfl) dX12_context_88 ⟨Nat.le_of_ble_eq_true rfl, Nat.le_of_ble_eq_true rfl⟩ (fun x_155 f_156 H locs hw hP hD hS => ?_)
            obtain ⟨hG, bx_155, hkc_157, hra_158, hfa_159, hpost_160⟩ := hw
            have hfr0 : ∀ b, kd b ≠ 12 → kd b ≠ 576 → f_156 b = f b := fun b q12 q576 => (hkc_157 b q12).trans (hfr0 b q12 q576)
            have hrA12 : ∀ b, kd b = 12 → ∀ j, fldR (f_156 b) j = fldR (f b) j := fun b kb j => (hra_158 b kb j).trans (hrA12 b kb j)
            have hfA12 : ∀ b, kd b = 12 → ∀ j, j ≠ 6 → j ≠ 7 → j ≠ 8 → j ≠ 14 → fldI (f_156 b) j = fldI (f b) j := fun b kb j n6 n7 n8 n14 => (hfa_159 b kb j n6).trans (hfA12 b kb j n6 n7 n8 n14)
            have hT_150 : frel kd 576 7 f_156 a_2 := hT_150.keep (fun b q => hkc_157 b (by rw [q]; decide))
            obtain ⟨v_162, hfo_163, fa_164⟩ := op12_6 hfo_147 (hG _ mo0) ko0 (hra_158 o0 ko0) (hfa_159 o0 ko0)
            have bv_162 : (0 ≤ v_162.toInt ∧ v_162.toInt ≤ 600) := fa12_6 fa_164
            have hqhpost_160 := hpost_160 v_143 v_162 (by rw [hfo_147]; rfl) (by rw [hfo_163]; rfl)
            have hMm_165 : (∀ z9, fldI (f_156 o0) 6 = some z9 → v_7.toInt ≤ z9.toInt) := fun z9 h9 => by rw [hfo_163] at h9; obtain rfl := Option.some.inj h9; have h8 := hMm_149 v_143 (by rw [hfo_147]; rfl); omega
            refine lv_bipush (v := 35) hx hb dX12_context_91 (by decide) ?_
            have hcut_167 : ∀ (y_166 : Int32), (0 ≤ y_166.toInt ∧ y_166.toInt ≤ 1) → ∀ (ls : Array Slot), lv_has ls 2 [(0, .ref o0), (1, .int p1)] → W p l e (headSpec (wU yX12_context cX12_context 2 (some .boolean)) { frames := 6, cells := 0, slots := 0, locals := 129 }).room s m [.ref o0, .int p1].toArray below meth c H locs 0 0 (MQ below (va_Qi (fun (r : Int32) (f9 : Nat → va_E) => GI (okc cI cL cZ cR cG cH L kd) kd L f9 ∧ (0 ≤ r.toInt ∧ r.toInt ≤ 1) ∧ (∀ b, kd b ≠ 12 → kd b ≠ 576 → f9 b = f b) ∧ (∀ b, kd b = 12 → ∀ j, fldR (f9 b) j = fldR (f b) j) ∧ (∀ b, kd b = 12 → ∀ j, j ≠ 6 → j ≠ 7 → j ≠ 8 → j ≠ 14 → fldI (f9 b) j = fldI (f b) j) ∧ (∀ (w6 z6 : Int32), fldI (f o0) 6 = some w6 → fldI (f9 o0) 6 = some z6 → w6.toInt ≤ z6.toInt) ∧ (∀ d9, fldR (f9 o0) 1 = some d9 → frel kd 576 7 f9 d9)) (qP (dC, dI) cI cL cZ cR cG cH L) (fun q => q ∈ L)) [.ref o0, .int p1].toArray s 0 0 (fun q => q ∈ L)) (F0 m 101 ls [.int y_166, .int x_154, .ref a_2]) := by
              intro y_166 by_166 ls hl
              obtain ⟨g_169, hfo_168, hbg_169⟩ := un_576 (hG _ ma_2) ka_2
              refine tk_istP hx hb hK hP hD hS 0 ma_2 hfo_168 rfl (vp_in_iff.mpr (by constructor <;> omega)) dX12_context_101 (fun H locs hP hD hS => ?_)
              have hc9 := cl_I (i := x_154) (by omega)
              obtain ⟨g_170, eqg_170⟩ : ∃ y : Nat → Int32, y = upd g_169 (Int32.toNatClampNeg x_154) y_166 := ⟨_, rfl⟩
              rw [← eqg_170] at hP hD
              have hbg_170 : wOK g_170 := by rw [eqg_170]; exact ⟨hbg_169.1.up (fun h1 h2 h3 => by exfalso; omega), hbg_169.2.1.up (fun h1 h2 h3 => by exfalso; omega), hbg_169.2.2.1.up (fun h1 h2 h3 => by exfalso; omega), hbg_169.2.2.2.1.up (fun h1 h2 h3 => by exfalso; omega), hbg_169.2.2.2.2.1.up (fun h1 h2 h3 => by exfalso; omega), hbg_169.2.2.2.2.2.1.up (fun h1 h2 h3 => by exfalso; omega), hbg_169.2.2.2.2.2.2.1.up (fun h1 h2 h3 => by exfalso; omega), hbg_169.2.2.2.2.2.2.2.1.up (fun h1 h2 h3 => by exfalso; omega), hbg_169.2.2.2.2.2.2.2.2.1.up (fun h1 h2 h3 => by exfalso; omega), hbg_169.2.2.2.2.2.2.2.2.2.1.up (fun h1 h2 h3 => by exfalso; omega), hbg_169.2.2.2.2.2.2.2.2.2.2.1.up (fun h1 h2 h3 => by exfalso; omega), hbg_169.2.2.2.2.2.2.2.2.2.2.2.1.up (fun h1 h2 h3 => by exfalso; omega), hbg_169.2.2.2.2.2.2.2.2.2.2.2.2.1.up (fun h1 h2 h3 => by exfalso; omega), hbg_169.2.2.2.2.2.2.2.2.2.2.2.2.2.1.up (fun h1 h2 h3 => by exfalso; omega), hbg_169.2.2.2.2.2.2.2.2.2.2.2.2.2.2.1.up (fun h1 h2 h3 => by exfalso; omega), hbg_169.2.2.2.2.2.2.2.2.2.2.2.2.2.2.2.up (fun h1 h2 h3 => by constructor <;> omega)⟩
              obtain ⟨f_172, ef_172⟩ : ∃ y : Nat → va_E, y = va_up f_156 a_2 (.inl (cI, 1560, .inl g_170)) := ⟨_, rfl⟩
              have hP : va_P (dC, dI) vwCl (va_pl L f_172) H := by rw [ef_172]; exact hP
              have hD : va_D (fun q => q ∈ L) (va_pl L f_172) := by rw [ef_172]; exact hD
              have hG : GI (okc cI cL cZ cR cG cH L kd) kd L f_172 := by rw [ef_172]; exact hG.set a_2 (mk_576 ka_2 ⟨_, rfl, hbg_170⟩)
              have hfo_173 : f_172 o0 = .inr (12, [.ref a_1, .ref a_2, .ref a_3, .int v_4, .ref a_5, .int v_6, .int v_162, .int v_144, .int v_145, .int v_10, .int v_11, .int v_12, .int v_13, .int v_14, .int v_146, .ref a_16, .ref a_17, .ref a_18, .ref a_19, .ref a_20, .ref a_21, .ref a_22, .ref a_23, .int v_24, .int v_25, .int v_26, .int v_27, .int v_28, .ref a_29, .int v_30, .ref a_31, .ref a_32, .int v_33, .int v_34, .ref a_35, .int v_36, .ref a_37, .ref a_38, .int v_39, .int v_40, .ref a_41, .ref a_42, .ref a_43, .int v_44, .ref a_45, .ref a_46, .ref a_47, .ref a_48, .ref a_49, .ref a_50, .ref a_51, .ref a_52, .ref a_53, .int v_54, .int v_55, .ref a_56]) := by rw [ef_172, up_ne (kd_ne ka_2 ko0 (by decide))]; exact hfo_163
              have hfr0 : ∀ b, kd b ≠ 12 → kd b ≠ 576 → f_172 b = f b := fun b q12 q576 => (congrFun ef_172 b).trans ((up_ne (fun e9 => q576 (by rw [e9]; exact ka_2))).trans (hfr0 b q12 q576))
              have hrA12 : ∀ b, kd b = 12 → ∀ j, fldR (f_172 b) j = fldR (f b) j := fun b kb j => (congrArg (fun x => fldR x j) ((congrFun ef_172 b).trans (up_ne (kd_ne ka_2 kb (by decide))))).trans (hrA12 b kb j)
              have hfA12 : ∀ b, kd b = 12 → ∀ j, j ≠ 6 → j ≠ 7 → j ≠ 8 → j ≠ 14 → fldI (f_172 b) j = fldI (f b) j := fun b kb j n6 n7 n8 n14 => (congrArg (fun x => fldI x j) ((congrFun ef_172 b).trans (up_ne (kd_ne ka_2 kb (by decide))))).trans (hfA12 b kb j n6 n7 n8 n14)
              have hT_150 : frel kd 576 7 f_172 a_2 := by rw [ef_172]; exact frel.mk ka_2 up_self (by rw [eqg_170]; exact (hT_150.get hfo_168).up (hbg_169.2.1 16 (by decide) (by decide) (by decide)).2 (by omega) (by omega) (by omega) (fun h9 => by exfalso; omega))
              have hMm_165 : (∀ z9, fldI (f_172 o0) 6 = some z9 → v_7.toInt ≤ z9.toInt) := by rw [ef_172]; exact (fun z9 h9 => hMm_165 z9 (by rw [up_ne (kd_ne ka_2 ko0 (by decide))] at h9; exact h9))
              have hfo_174 : f_172 a_2 = .inl (cI, 1560, .inl g_170) := by rw [ef_172]; exact up_self
              have ql_175 : y_166 = g_170 (Int32.toNatClampNeg x_154) := by rw [eqg_170, pk_us]
              refine lv_aload_n hx hb dX12_context_102 rfl (lv_at hl 0 rfl) ?_
              refine tk_ViP (As := []) (rest := []) (n := 0) hx hb hml hown hU hN hZ (s_X12_sign_k12 l (dC, dI) cI cL cZ cR cG cH Z kd L f_172 hG o0 mo0 ko0) wd_573 wd_574 wd_575 wd_5 wd_576 (by decide +kernel) ⟨Nat.le_of_ble_eq_true rfl, Nat.le_of_ble_eq_true rfl⟩ hK hP hD hS mo0 hfo_173 12 rfl rfl rfl hl.1 rfl (Nat.le_of_ble_eq_true rfl) dX12_context_103 ⟨Nat.le_of_ble_eq_true rfl, Nat.le_of_ble_eq_true rfl⟩ (fun x_176 f_177 H locs hw hP hD hS => ?_)
              obtain ⟨hG, bx_176, hkc_178, hra_179, hfa_180, hpost_181⟩ := hw
              have hfo_183 : f_177 a_2 = .inl (cI, 1560, .inl g_170) := by rw [hkc_178 a_2 (by rw [ka_2]; decide)]; exact hfo_174
              have hfr0 : ∀ b, kd b ≠ 12 → kd b ≠ 576 → f_177 b = f b := fun b q12 q576 => (hkc_178 b q12).trans (hfr0 b q12 q576)
              have hrA12 : ∀ b, kd b = 12 → ∀ j, fldR (f_177 b) j = fldR (f b) j := fun b kb j => (hra_179 b kb j).trans (hrA12 b kb j)
              have hfA12 : ∀ b, kd b = 12 → ∀ j, j ≠ 6 → j ≠ 7 → j ≠ 8 → j ≠ 14 → fldI (f_177 b) j = fldI (f b) j := fun b kb j n6 n7 n8 n14 => (hfa_180 b kb j n6).trans (hfA12 b kb j n6 n7 n8 n14)
              have hT_150 : frel kd 576 7 f_177 a_2 := hT_150.keep (fun b q => hkc_178 b (by rw [q]; decide))
              obtain ⟨v_184, hfo_185, fa_186⟩ := op12_6 hfo_173 (hG _ mo0) ko0 (hra_179 o0 ko0) (hfa_180 o0 ko0)
              have bv_184 : (0 ≤ v_184.toInt ∧ v_184.toInt ≤ 600) := fa12_6 fa_186
              have hqhpost_181 := hpost_181 v_162 v_184 (by rw [hfo_173]; rfl) (by rw [hfo_185]; rfl)
              have hMm_187 : (∀ z9, fldI (f_177 o0) 6 = some z9 → v_7.toInt ≤ z9.toInt) := fun z9 h9 => by rw [hfo_185] at h9; obtain rfl := Option.some.inj h9; have h8 := hMm_165 v_162 (by rw [hfo_173]; rfl); omega
              refine lv_bipush (v := 35) hx hb dX12_context_106 (by decide) ?_
              have hcut_191 : ∀ (f_189 : Nat → va_E), GI (okc cI cL cZ cR cG cH L kd) kd L f_189 → ∀ (H : Heap) (locs : List Loc), va_P (dC, dI) vwCl (va_pl L f_189) H → va_S (fun q => q ∈ L) s.heap H locs → va_D (fun q => q ∈ L) (va_pl L f_189) → (∀ b, kd b ≠ 12 → kd b ≠ 576 → f_189 b = f b) → (∀ b, kd b = 12 → ∀ j, fldR (f_189 b) j = fldR (f b) j) → (∀ b, kd b = 12 → ∀ j, j ≠ 6 → j ≠ 7 → j ≠ 8 → j ≠ 14 → fldI (f_189 b) j = fldI (f b) j) → (f_189 a_2 = .inl (cI, 1560, .inl g_170)) → frel kd 576 7 f_189 a_2 → (∀ z9, fldI (f_189 o0) 6 = some z9 → v_7.toInt ≤ z9.toInt) → ∀ (ls : Array Slot), lv_has ls 2 [(0, .ref o0), (1, .int p1)] → W p l e (headSpec (wU yX12_context cX12_context 2 (some .boolean)) { frames := 6, cells := 0, slots := 0, locals := 129 }).room s m [.ref o0, .int p1].toArray below meth c H locs 0 0 (MQ below (va_Qi (fun (r : Int32) (f9 : Nat → va_E) => GI (okc cI cL cZ cR cG cH L kd) kd L f9 ∧ (0 ≤ r.toInt ∧ r.toInt ≤ 1) ∧ (∀ b, kd b ≠ 12 → kd b ≠ 576 → f9 b = f b) ∧ (∀ b, kd b = 12 → ∀ j, fldR (f9 b) j = fldR (f b) j) ∧ (∀ b, kd b = 12 → ∀ j, j ≠ 6 → j ≠ 7 → j ≠ 8 → j ≠ 14 → fldI (f9 b) j = fldI (f b) j) ∧ (∀ (w6 z6 : Int32), fldI (f o0) 6 = some w6 → fldI (f9 o0) 6 = some z6 → w6.toInt ≤ z6.toInt) ∧ (∀ d9, fldR (f9 o0) 1 = some d9 → frel kd 576 7 f9 d9)) (qP (dC, dI) cI cL cZ cR cG cH L) (fun q => q ∈ L)) [.ref o0, .int p1].toArray s 0 0 (fun q => q ∈ L)) (F0 m 121 ls []) := by
                intro f_189 hG H locs hP hS hD hfr0 hrA12 hfA12 hfo_190 hT_150 hMm_187 ls hl
                refine lv_iconst (v := 1) hx hb dX12_context_121 (by decide) ?_
                obtain ⟨v_192, v_193, v_194, v_195, hfo_196, fa_197⟩ := op12_6_7_8_14 hfo_57 (hG _ mo0) ko0 (hrA12 o0 ko0) (hfA12 o0 ko0)
                have bv_192 : (0 ≤ v_192.toInt ∧ v_192.toInt ≤ 600) := fa12_6 fa_197
                have bv_193 : ((-2147483648) ≤ v_193.toInt ∧ v_193.toInt ≤ 2147483647) := ⟨i32_lo _, i32_hi _⟩
                have bv_194 : ((-2147483648) ≤ v_194.toInt ∧ v_194.toInt ≤ 2147483647) := ⟨i32_lo _, i32_hi _⟩
                have bv_195 : ((-2147483648) ≤ v_195.toInt ∧ v_195.toInt ≤ 2147483647) := ⟨i32_lo _, i32_hi _⟩
                have hM9 := hMm_187 v_192 (by rw [hfo_196]; rfl)
                exact W.zret (v := 1) (ty := .boolean) hx hb hr rfl (fun t ht hW => ⟨⟨1, f_189, rfl, ⟨hG, (by decide), hfr0, hrA12, hfA12, (by intro w6 z6 e6 d6; rw [hfo_57] at e6; rw [hfo_196] at d6; obtain rfl := Option.some.inj e6; obtain rfl := Option.some.inj d6; (try rw [ti_1]) <;> omega), (fun d9 h9 => by rw [hfo_196] at h9; obtain rfl := Option.some.inj h9; exact hT_150)⟩, by rw [ht]; exact hP, va_K.moved hW.alike hK, pl_in hD⟩, hS.F ht⟩) hS.2.2 dX12_context_122
              refine lv_icmp_ne (tgt := 121) hx hb dX12_context_108 (by decide) (fun c_198 => ?_) (fun c_198 => ?_)
              · skip
                rw [← Int32.toInt_inj, ti_35] at c_198
                exact hcut_191 f_177 hG _ _ hP hS hD hfr0 hrA12 hfA12 hfo_183 hT_150 hMm_187 ls (lv_sub hl [0, 1] rfl)
              · skip
                rw [← Int32.toInt_inj, ti_35] at c_198
                have hclc_199 : (0 ≤ v_184.toInt ∧ v_184.toInt ≤ 599) := by constructor <;> omega
                refine lv_aload_n hx hb dX12_context_111 rfl (lv_at hl 0 rfl) ?_
                refine lv_dup hx hb dX12_context_112 rfl ?_
                refine tk_getP (D := (dC, dI)) (ci := 12) (v := .int v_184) (C := RX12) (T := TX12) (N := 56) hx hb hU inlX12 hown hK hP mo0 hfo_185 rfl 6 (by decide) (hU _ wd_566) (fun _ h9 => h9) rfl dX12_context_113 ?_
                refine lv_iconst (v := 1) hx hb dX12_context_116 (by decide) ?_
                refine lv_iadd hx hb dX12_context_117 ?_
                refine lv_topi (fun x_200 ex_200 => ?_)
                have hx_200 : x_200.toInt = v_184.toInt + 1 := by rw [ex_200, ad_I (by rw [ti_1]; omega) (by rw [ti_1]; omega), ti_1]
                have bx_200 : (1 ≤ x_200.toInt ∧ x_200.toInt ≤ 600) := by constructor <;> omega
                refine tk_putP (D := (dC, dI)) (ci := 12) (v := .int x_200) (ty := .int) (C := RX12) (T := TX12) (N := 56) hx hb hU inlX12 tyX12 tyX12_ok nmX12 hown hK hP hD hS mo0 hfo_185 rfl 6 (by decide) (hU _ wd_566) (fun _ h9 => h9) rfl (by decide +kernel) rfl rfl (Nat.le_of_ble_eq_true rfl) dX12_context_118 (fun H locs hP hD hS => ?_)
                have fa_201 := fu12_6 (y := x_200) fa_186 (by constructor <;> omega)
                obtain ⟨f_203, ef_203⟩ : ∃ y : Nat → va_E, y = va_up f_177 o0 (.inr (12, [.ref a_1, .ref a_2, .ref a_3, .int v_4, .ref a_5, .int v_6, .int x_200, .int v_144, .int v_145, .int v_10, .int v_11, .int v_12, .int v_13, .int v_14, .int v_146, .ref a_16, .ref a_17, .ref a_18, .ref a_19, .ref a_20, .ref a_21, .ref a_22, .ref a_23, .int v_24, .int v_25, .int v_26, .int v_27, .int v_28, .ref a_29, .int v_30, .ref a_31, .ref a_32, .int v_33, .int v_34, .ref a_35, .int v_36, .ref a_37, .ref a_38, .int v_39, .int v_40, .ref a_41, .ref a_42, .ref a_43, .int v_44, .ref a_45, .ref a_46, .ref a_47, .ref a_48, .ref a_49, .ref a_50, .ref a_51, .ref a_52, .ref a_53, .int v_54, .int v_55, .ref a_56])) := ⟨_, rfl⟩
                have hP : va_P (dC, dI) vwCl (va_pl L f_203) H := by rw [ef_203]; exact hP
                have hD : va_D (fun q => q ∈ L) (va_pl L f_203) := by rw [ef_203]; exact hD
                have hG : GI (okc cI cL cZ cR cG cH L kd) kd L f_203 := by rw [ef_203]; exact hG.set o0 (mk_12 ko0 (fo12 fa_201))
                have hfo_204 : f_203 a_2 = .inl (cI, 1560, .inl g_170) := by rw [ef_203, up_ne (kd_ne ko0 ka_2 (by decide))]; exact hfo_183
                have hfr0 : ∀ b, kd b ≠ 12 → kd b ≠ 576 → f_203 b = f b := fun b q12 q576 => (congrFun ef_203 b).trans ((up_ne (fun e9 => q12 (by rw [e9]; exact ko0))).trans (hfr0 b q12 q576))
                have hrA12 : ∀ b, kd b = 12 → ∀ j, fldR (f_203 b) j = fldR (f b) j := fun b kb j => ((congrArg (fun x => fldR x j) (congrFun ef_203 b)).trans (fra_up (fun j => by rw [hfo_185]; exact fr_set (k := 6) rfl rfl) j b)).trans (hrA12 b kb j)
                have hfA12 : ∀ b, kd b = 12 → ∀ j, j ≠ 6 → j ≠ 7 → j ≠ 8 → j ≠ 14 → fldI (f_203 b) j = fldI (f b) j := fun b kb j n6 n7 n8 n14 => ((congrArg (fun x => fldI x j) (congrFun ef_203 b)).trans (fia_up (fun h9 => by rw [hfo_185]; exact fi_set (k := 6) rfl h9) n6 b)).trans (hfA12 b kb j n6 n7 n8 n14)
                have hT_150 : frel kd 576 7 f_203 a_2 := by rw [ef_203]; exact hT_150.keep (fun b q => up_ne (kd_ne ko0 q (by decide)))
                have hMm_187 : (∀ z9, fldI (f_203 o0) 6 = some z9 → v_7.toInt ≤ z9.toInt) := by rw [ef_203]; exact (fun z9 h9 => by rw [up_self] at h9; obtain rfl := Option.some.inj h9; have h8 := hMm_187 v_184 (by rw [hfo_185]; rfl); omega)
                have hfo_205 : f_203 o0 = .inr (12, [.ref a_1, .ref a_2, .ref a_3, .int v_4, .ref a_5, .int v_6, .int x_200, .int v_144, .int v_145, .int v_10, .int v_11, .int v_12, .int v_13, .int v_14, .int v_146, .ref a_16, .ref a_17, .ref a_18, .ref a_19, .ref a_20, .ref a_21, .ref a_22, .ref a_23, .int v_24, .int v_25, .int v_26, .int v_27, .int v_28, .ref a_29, .int v_30, .ref a_31, .ref a_32, .int v_33, .int v_34, .ref a_35, .int v_36, .ref a_37, .ref a_38, .int v_39, .int v_40, .ref a_41, .ref a_42, .ref a_43, .int v_44, .ref a_45, .ref a_46, .ref a_47, .ref a_48, .ref a_49, .ref a_50, .ref a_51, .ref a_52, .ref a_53, .int v_54, .int v_55, .ref a_56]) := by rw [ef_203]; exact up_self
                exact hcut_191 f_203 hG _ _ hP hS hD hfr0 hrA12 hfA12 hfo_204 hT_150 hMm_187 ls (lv_sub hl [0, 1] rfl)
            refine lv_icmp_ne (tgt := 100) hx hb dX12_context_93 (by decide) (fun c_206 => ?_) (fun c_206 => ?_)
            · skip
              rw [← Int32.toInt_inj, ti_35] at c_206
              refine lv_iconst (v := 0) hx hb dX12_context_100 (by decide) ?_
              exact hcut_167 0 (by decide) ls (lv_sub hl [0, 1] rfl)
            · skip
              rw [← Int32.toInt_inj, ti_35] at c_206
              refine lv_iconst (v := 1) hx hb dX12_context_96 (by decide) ?_
              refine lv_goto (tgt := 101) hx hb dX12_context_97 (by decide) ?_
              exact hcut_167 1 (by decide) ls (lv_sub hl [0, 1] rfl)
          · skip
            rw [← Int32.toInt_inj, ti_0] at c_151
            refine lv_iconst (v := 0) hx hb dX12_context_72 (by decide) ?_
            have hM9 := hMm_149 v_143 (by rw [hfo_147]; rfl)
            exact W.zret (v := 0) (ty := .boolean) hx hb hr rfl (fun t ht hW => ⟨⟨0, f_136, rfl, ⟨hG, (by decide), hfr0, hrA12, hfA12, (by intro w6 z6 e6 d6; rw [hfo_57] at e6; rw [hfo_147] at d6; obtain rfl := Option.some.inj e6; obtain rfl := Option.some.inj d6; (try rw [ti_0]) <;> omega), (fun d9 h9 => by rw [hfo_147] at h9; obtain rfl := Option.some.inj h9; exact hT_150)⟩, by rw [ht]; exact hP, va_K.moved hW.alike hK, pl_in hD⟩, hS.F ht⟩) hS.2.2 dX12_context_73
    refine lv_icmp_ne (tgt := 45) hx hb dX12_context_32 (by decide) (fun c_207 => ?_) (fun c_207 => ?_)
    · skip
      rw [← Int32.toInt_inj, ti_35] at c_207
      exact hcut_97 f_83 hG _ _ hP hS hD hfr0 hrA12 hfA12 hfo_89 hT0 hMm_93 ls (lv_sub hl [0, 1] rfl)
    · skip
      rw [← Int32.toInt_inj, ti_35] at c_207
      have hclc_208 : (0 ≤ v_90.toInt ∧ v_90.toInt ≤ 599) := by constructor <;> omega
      refine lv_aload_n hx hb dX12_context_35 rfl (lv_at hl 0 rfl) ?_
      refine lv_dup hx hb dX12_context_36 rfl ?_
      refine tk_getP (D := (dC, dI)) (ci := 12) (v := .int v_90) (C := RX12) (T := TX12) (N := 56) hx hb hU inlX12 hown hK hP mo0 hfo_91 rfl 6 (by decide) (hU _ wd_566) (fun _ h9 => h9) rfl dX12_context_37 ?_
      refine lv_iconst (v := 1) hx hb dX12_context_40 (by decide) ?_
      refine lv_iadd hx hb dX12_context_41 ?_
      refine lv_topi (fun x_209 ex_209 => ?_)
      have hx_209 : x_209.toInt = v_90.toInt + 1 := by rw [ex_209, ad_I (by rw [ti_1]; omega) (by rw [ti_1]; omega), ti_1]
      have bx_209 : (1 ≤ x_209.toInt ∧ x_209.toInt ≤ 600) := by constructor <;> omega
      refine tk_putP (D := (dC, dI)) (ci := 12) (v := .int x_209) (ty := .int) (C := RX12) (T := TX12) (N := 56) hx hb hU inlX12 tyX12 tyX12_ok nmX12 hown hK hP hD hS mo0 hfo_91 rfl 6 (by decide) (hU _ wd_566) (fun _ h9 => h9) rfl (by decide +kernel) rfl rfl (Nat.le_of_ble_eq_true rfl) dX12_context_42 (fun H locs hP hD hS => ?_)
      have fa_210 := fu12_6 (y := x_209) fa_92 (by constructor <;> omega)
      obtain ⟨f_212, ef_212⟩ : ∃ y : Nat → va_E, y = va_up f_83 o0 (.inr (12, [.ref a_1, .ref a_2, .ref a_3, .int v_4, .ref a_5, .int v_6, .int x_209, .int v_8, .int v_9, .int v_10, .int v_11, .int v_12, .int v_13, .int v_14, .int v_15, .ref a_16, .ref a_17, .ref a_18, .ref a_19, .ref a_20, .ref a_21, .ref a_22, .ref a_23, .int v_24, .int v_25, .int v_26, .int v_27, .int v_28, .ref a_29, .int v_30, .ref a_31, .ref a_32, .int v_33, .int v_34, .ref a_35, .int v_36, .ref a_37, .ref a_38, .int v_39, .int v_40, .ref a_41, .ref a_42, .ref a_43, .int v_44, .ref a_45, .ref a_46, .ref a_47, .ref a_48, .ref a_49, .ref a_50, .ref a_51, .ref a_52, .ref a_53, .int v_54, .int v_55, .ref a_56])) := ⟨_, rfl⟩
      have hP : va_P (dC, dI) vwCl (va_pl L f_212) H := by rw [ef_212]; exact hP
      have hD : va_D (fun q => q ∈ L) (va_pl L f_212) := by rw [ef_212]; exact hD
      have hG : GI (okc cI cL cZ cR cG cH L kd) kd L f_212 := by rw [ef_212]; exact hG.set o0 (mk_12 ko0 (fo12 fa_210))
      have hfo_213 : f_212 a_2 = .inl (cI, 1560, .inl g_76) := by rw [ef_212, up_ne (kd_ne ko0 ka_2 (by decide))]; exact hfo_89
      have hfr0 : ∀ b, kd b ≠ 12 → kd b ≠ 576 → f_212 b = f b := fun b q12 q576 => (congrFun ef_212 b).trans ((up_ne (fun e9 => q12 (by rw [e9]; exact ko0))).trans (hfr0 b q12 q576))
      have hrA12 : ∀ b, kd b = 12 → ∀ j, fldR (f_212 b) j = fldR (f b) j := fun b kb j => ((congrArg (fun x => fldR x j) (congrFun ef_212 b)).trans (fra_up (fun j => by rw [hfo_91]; exact fr_set (k := 6) rfl rfl) j b)).trans (hrA12 b kb j)
      have hfA12 : ∀ b, kd b = 12 → ∀ j, j ≠ 6 → j ≠ 7 → j ≠ 8 → j ≠ 14 → fldI (f_212 b) j = fldI (f b) j := fun b kb j n6 n7 n8 n14 => ((congrArg (fun x => fldI x j) (congrFun ef_212 b)).trans (fia_up (fun h9 => by rw [hfo_91]; exact fi_set (k := 6) rfl h9) n6 b)).trans (hfA12 b kb j n6 n7 n8 n14)
      have hT0 : frel kd 576 7 f_212 a_2 := by rw [ef_212]; exact hT0.keep (fun b q => up_ne (kd_ne ko0 q (by decide)))
      have hMm_93 : (∀ z9, fldI (f_212 o0) 6 = some z9 → v_7.toInt ≤ z9.toInt) := by rw [ef_212]; exact (fun z9 h9 => by rw [up_self] at h9; obtain rfl := Option.some.inj h9; have h8 := hMm_93 v_90 (by rw [hfo_91]; rfl); omega)
      have hfo_214 : f_212 o0 = .inr (12, [.ref a_1, .ref a_2, .ref a_3, .int v_4, .ref a_5, .int v_6, .int x_209, .int v_8, .int v_9, .int v_10, .int v_11, .int v_12, .int v_13, .int v_14, .int v_15, .ref a_16, .ref a_17, .ref a_18, .ref a_19, .ref a_20, .ref a_21, .ref a_22, .ref a_23, .int v_24, .int v_25, .int v_26, .int v_27, .int v_28, .ref a_29, .int v_30, .ref a_31, .ref a_32, .int v_33, .int v_34, .ref a_35, .int v_36, .ref a_37, .ref a_38, .int v_39, .int v_40, .ref a_41, .ref a_42, .ref a_43, .int v_44, .ref a_45, .ref a_46, .ref a_47, .ref a_48, .ref a_49, .ref a_50, .ref a_51, .ref a_52, .ref a_53, .int v_54, .int v_55, .ref a_56]) := by rw [ef_212]; exact up_self
      exact hcut_97 f_212 hG _ _ hP hS hD hfr0 hrA12 hfA12 hfo_213 hT0 hMm_93 ls (lv_sub hl [0, 1] rfl)
  refine lv_icmp_ne (tgt := 24) hx hb dX12_context_17 (by decide) (fun c_215 => ?_) (fun c_215 => ?_)
  · skip
    rw [← Int32.toInt_inj, ti_35] at c_215
    refine lv_iconst (v := 0) hx hb dX12_context_24 (by decide) ?_
    exact hcut_73 0 (by decide) ls (lv_sub hl [0, 1] rfl)
  · skip
    rw [← Int32.toInt_inj, ti_35] at c_215
    refine lv_iconst (v := 1) hx hb dX12_context_20 (by decide) ?_
    refine lv_goto (tgt := 25) hx hb dX12_context_21 (by decide) ?_
    exact hcut_73 1 (by decide) ls (lv_sub hl [0, 1] rfl)
