set_option maxHeartbeats 8000000 in
set_option maxRecDepth 100000 in
theorem s_X12_classOf_k12 (l : Launch) (D : va_G) (cI cL cZ cR cG cH : ClassId) (Z : zT) (kd : Nat → Nat) (L : List Nat) (f : Nat → va_E) (hG : GI (okc cI cL cZ cR cG cH L kd) kd L f) (o0 : Nat) (mo0 : o0 ∈ L) (ko0 : kd o0 = 12) (hxtr0 : ∀ d9, fldR (f o0) 1 = some d9 → frel kd 576 8 f d9) : mPI l D cI cL cZ cR cG cH Z yX12_classOf cX12_classOf 5 (some .boolean) 3 61 [.ref o0] L f (fun (r : Int32) (f9 : Nat → va_E) => GI (okc cI cL cZ cR cG cH L kd) kd L f9 ∧ (0 ≤ r.toInt ∧ r.toInt ≤ 1) ∧ (∀ b, kd b ≠ 12 → kd b ≠ 576 → f9 b = f b) ∧ (∀ b, kd b = 12 → ∀ j, fldR (f9 b) j = fldR (f b) j) ∧ (∀ b, kd b = 12 → ∀ j, j ≠ 6 → j ≠ 7 → j ≠ 8 → fldI (f9 b) j = fldI (f b) j) ∧ (∀ (w6 z6 : Int32), fldI (f o0) 6 = some w6 → fldI (f9 o0) 6 = some z6 → w6.toInt ≤ z6.toInt) ∧ (∀ d9, fldR (f9 o0) 1 = some d9 → frel kd 576 8 f9 d9)) := by
  obtain ⟨dC, dI⟩ := D
  refine Met.ofW (cc := cX12_classOf) (maxL := 5) (ret := (some .boolean)) (by decide) rfl ?_
  intro p e s m args below meth c s₁ B hml hv
  obtain ⟨rfl, hP, hK, hD0, hN, hZ⟩ := hv
  have hx := B.exec
  have hb := B.bytes
  have hr := B.returns
  have hU : ∀ w ∈ wsU, w.before _ s = true := fun w h => atoms_spec (ws := wU yX12_classOf cX12_classOf 5 (some .boolean)) B.pre w (List.mem_cons_of_mem _ h)
  have hown : s.vm.findClass RX12 = some m.cls := findClass_of_methodNamed B.named
  have hlocks := B.notSynchronized
  have hD := pl_in hD0
  have hS : va_S (fun q => q ∈ L) s.heap s.heap [] := va_S.rf
  have hl := lv_entry ([.ref o0]) (n := 5) (Nat.le_of_ble_eq_true rfl)
  rw [lg_entry_eq]
  generalize (lg_sl ([.ref o0]) ++ List.replicate (5 - (lg_sl ([.ref o0])).length) Slot.unset).toArray = ls at hl ⊢
  have hl : lv_has ls 5 [(0, .ref o0)] := hl
  have hfr0 : ∀ b, kd b ≠ 12 → kd b ≠ 576 → f b = f b := fun _ _ _ => rfl
  have hrA12 : ∀ b, kd b = 12 → ∀ j, fldR (f b) j = fldR (f b) j := fun _ _ _ => rfl
  have hfA12 : ∀ b, kd b = 12 → ∀ j, j ≠ 6 → j ≠ 7 → j ≠ 8 → fldI (f b) j = fldI (f b) j := fun _ _ _ _ _ _ => rfl
  obtain ⟨a_1, a_2, a_3, v_4, a_5, v_6, v_7, v_8, v_9, v_10, v_11, v_12, v_13, v_14, v_15, a_16, a_17, a_18, a_19, a_20, a_21, a_22, a_23, v_24, v_25, v_26, v_27, v_28, a_29, v_30, a_31, a_32, v_33, v_34, a_35, v_36, a_37, a_38, v_39, v_40, a_41, a_42, a_43, v_44, a_45, a_46, a_47, a_48, a_49, a_50, a_51, a_52, a_53, v_54, v_55, a_56, hfo_57, fa_58⟩ := un12 (hG _ mo0) ko0
  obtain ⟨ma_2, ka_2⟩ := fa12_1 fa_58
  have bv_7 : (0 ≤ v_7.toInt ∧ v_7.toInt ≤ 600) := fa12_6 fa_58
  have hT0 := hxtr0 a_2 (by rw [hfo_57]; rfl)
  refine lv_aload_n hx hb dX12_classOf_0 rfl (lv_at hl 0 rfl) ?_
  refine tk_ViP (As := []) (rest := []) (n := 0) hx hb hml hown hU hN hZ (s_X12_sign_k12 l (dC, dI) cI cL cZ cR cG cH Z kd L f hG o0 mo0 ko0) wd_573 wd_574 wd_575 wd_5 wd_576 (by decide +kernel) ⟨Nat.le_of_ble_eq_true rfl, Nat.le_of_ble_eq_true rfl⟩ hK hP hD hS mo0 hfo_57 12 rfl rfl rfl hl.1 rfl (Nat.le_of_ble_eq_true rfl) dX12_classOf_1 ⟨Nat.le_of_ble_eq_true rfl, Nat.le_of_ble_eq_true rfl⟩ (fun x_59 f_60 H locs hw hP hD hS => ?_)
  obtain ⟨hG, bx_59, hkc_61, hra_62, hfa_63, hpost_64⟩ := hw
  have hfr0 : ∀ b, kd b ≠ 12 → kd b ≠ 576 → f_60 b = f b := fun b q12 q576 => (hkc_61 b q12).trans (hfr0 b q12 q576)
  have hrA12 : ∀ b, kd b = 12 → ∀ j, fldR (f_60 b) j = fldR (f b) j := fun b kb j => (hra_62 b kb j).trans (hrA12 b kb j)
  have hfA12 : ∀ b, kd b = 12 → ∀ j, j ≠ 6 → j ≠ 7 → j ≠ 8 → fldI (f_60 b) j = fldI (f b) j := fun b kb j n6 n7 n8 => (hfa_63 b kb j n6).trans (hfA12 b kb j n6 n7 n8)
  have hT0 : frel kd 576 8 f_60 a_2 := hT0.keep (fun b q => hkc_61 b (by rw [q]; decide))
  obtain ⟨v_66, hfo_67, fa_68⟩ := op12_6 hfo_57 (hG _ mo0) ko0 (hra_62 o0 ko0) (hfa_63 o0 ko0)
  have bv_66 : (0 ≤ v_66.toInt ∧ v_66.toInt ≤ 600) := fa12_6 fa_68
  have hqhpost_64 := hpost_64 v_7 v_66 (by rw [hfo_57]; rfl) (by rw [hfo_67]; rfl)
  refine lv_istore_n (lv' := [(1, .int x_59), (0, .ref o0)]) hx hb dX12_classOf_4 rfl hl (by decide) rfl (fun ls hl => ?_)
  refine lv_iload_n hx hb dX12_classOf_5 rfl (lv_at hl 0 rfl) ?_
  refine lv_bipush (v := 65) hx hb dX12_classOf_6 (by decide) ?_
  refine lv_bipush (v := 70) hx hb dX12_classOf_8 (by decide) ?_
  refine tk_SiP (As := [.int x_59, .int 65, .int 70]) (rest := []) (n := 3) hx hb hml hown hU hN hZ (s_X12_isIn l (dC, dI) cI cL cZ cR cG cH Z kd L f_60 hG x_59 65 70) wd_227 wd_228 wd_5 wd_229 (by decide +kernel) ⟨Nat.le_of_ble_eq_true rfl, Nat.le_of_ble_eq_true rfl⟩ hK hP hD hS rfl hl.1 rfl (Nat.le_of_ble_eq_true rfl) dX12_classOf_10 ⟨Nat.le_of_ble_eq_true rfl, Nat.le_of_ble_eq_true rfl⟩ (fun x_69 f_70 H locs hw hP hD hS => ?_)
  obtain ⟨rfl, bx_69, relx_69⟩ := hw
  try rw [ti_65] at relx_69
  try rw [ti_70] at relx_69
  refine lv_if_ne (tgt := 26) hx hb dX12_classOf_13 (by decide) (fun c_72 => ?_) (fun c_72 => ?_)
  · skip
    rw [← Int32.toInt_inj, ti_0] at c_72
    have hclc_73 : (0 ≤ v_66.toInt ∧ v_66.toInt ≤ 599) := by constructor <;> omega
    refine lv_aload_n hx hb dX12_classOf_26 rfl (lv_at hl 1 rfl) ?_
    refine lv_dup hx hb dX12_classOf_27 rfl ?_
    refine tk_getP (D := (dC, dI)) (ci := 12) (v := .int v_66) (C := RX12) (T := TX12) (N := 56) hx hb hU inlX12 hown hK hP mo0 hfo_67 rfl 6 (by decide) (hU _ wd_566) (fun _ h9 => h9) rfl dX12_classOf_28 ?_
    refine lv_iconst (v := 1) hx hb dX12_classOf_31 (by decide) ?_
    refine lv_iadd hx hb dX12_classOf_32 ?_
    refine lv_topi (fun x_74 ex_74 => ?_)
    have hx_74 : x_74.toInt = v_66.toInt + 1 := by rw [ex_74, ad_I (by rw [ti_1]; omega) (by rw [ti_1]; omega), ti_1]
    have bx_74 : (1 ≤ x_74.toInt ∧ x_74.toInt ≤ 600) := by constructor <;> omega
    refine tk_putP (D := (dC, dI)) (ci := 12) (v := .int x_74) (ty := .int) (C := RX12) (T := TX12) (N := 56) hx hb hU inlX12 tyX12 tyX12_ok nmX12 hown hK hP hD hS mo0 hfo_67 rfl 6 (by decide) (hU _ wd_566) (fun _ h9 => h9) rfl (by decide +kernel) rfl rfl (Nat.le_of_ble_eq_true rfl) dX12_classOf_33 (fun H locs hP hD hS => ?_)
    have fa_75 := fu12_6 (y := x_74) fa_68 (by constructor <;> omega)
    obtain ⟨f_77, ef_77⟩ : ∃ y : Nat → va_E, y = va_up f_60 o0 (.inr (12, [.ref a_1, .ref a_2, .ref a_3, .int v_4, .ref a_5, .int v_6, .int x_74, .int v_8, .int v_9, .int v_10, .int v_11, .int v_12, .int v_13, .int v_14, .int v_15, .ref a_16, .ref a_17, .ref a_18, .ref a_19, .ref a_20, .ref a_21, .ref a_22, .ref a_23, .int v_24, .int v_25, .int v_26, .int v_27, .int v_28, .ref a_29, .int v_30, .ref a_31, .ref a_32, .int v_33, .int v_34, .ref a_35, .int v_36, .ref a_37, .ref a_38, .int v_39, .int v_40, .ref a_41, .ref a_42, .ref a_43, .int v_44, .ref a_45, .ref a_46, .ref a_47, .ref a_48, .ref a_49, .ref a_50, .ref a_51, .ref a_52, .ref a_53, .int v_54, .int v_55, .ref a_56])) := ⟨_, rfl⟩
    have hP : va_P (dC, dI) vwCl (va_pl L f_77) H := by rw [ef_77]; exact hP
    have hD : va_D (fun q => q ∈ L) (va_pl L f_77) := by rw [ef_77]; exact hD
    have hG : GI (okc cI cL cZ cR cG cH L kd) kd L f_77 := by rw [ef_77]; exact hG.set o0 (mk_12 ko0 (fo12 fa_75))
    have hfr0 : ∀ b, kd b ≠ 12 → kd b ≠ 576 → f_77 b = f b := fun b q12 q576 => (congrFun ef_77 b).trans ((up_ne (fun e9 => q12 (by rw [e9]; exact ko0))).trans (hfr0 b q12 q576))
    have hrA12 : ∀ b, kd b = 12 → ∀ j, fldR (f_77 b) j = fldR (f b) j := fun b kb j => ((congrArg (fun x => fldR x j) (congrFun ef_77 b)).trans (fra_up (fun j => by rw [hfo_67]; exact fr_set (k := 6) rfl rfl) j b)).trans (hrA12 b kb j)
    have hfA12 : ∀ b, kd b = 12 → ∀ j, j ≠ 6 → j ≠ 7 → j ≠ 8 → fldI (f_77 b) j = fldI (f b) j := fun b kb j n6 n7 n8 => ((congrArg (fun x => fldI x j) (congrFun ef_77 b)).trans (fia_up (fun h9 => by rw [hfo_67]; exact fi_set (k := 6) rfl h9) n6 b)).trans (hfA12 b kb j n6 n7 n8)
    have hT0 : frel kd 576 8 f_77 a_2 := by rw [ef_77]; exact hT0.keep (fun b q => up_ne (kd_ne ko0 q (by decide)))
    have hfo_78 : f_77 o0 = .inr (12, [.ref a_1, .ref a_2, .ref a_3, .int v_4, .ref a_5, .int v_6, .int x_74, .int v_8, .int v_9, .int v_10, .int v_11, .int v_12, .int v_13, .int v_14, .int v_15, .ref a_16, .ref a_17, .ref a_18, .ref a_19, .ref a_20, .ref a_21, .ref a_22, .ref a_23, .int v_24, .int v_25, .int v_26, .int v_27, .int v_28, .ref a_29, .int v_30, .ref a_31, .ref a_32, .int v_33, .int v_34, .ref a_35, .int v_36, .ref a_37, .ref a_38, .int v_39, .int v_40, .ref a_41, .ref a_42, .ref a_43, .int v_44, .ref a_45, .ref a_46, .ref a_47, .ref a_48, .ref a_49, .ref a_50, .ref a_51, .ref a_52, .ref a_53, .int v_54, .int v_55, .ref a_56]) := by rw [ef_77]; exact up_self
    refine lv_iconst (v := 0) hx hb dX12_classOf_36 (by decide) ?_
    refine lv_istore_n (lv' := [(2, .int 0), (1, .int x_59), (0, .ref o0)]) hx hb dX12_classOf_37 rfl hl (by decide) rfl (fun ls hl => ?_)
    have hloop_84 : ∀ (n : Nat), ∀ (y_85 : Int32), ((-2147483648) ≤ y_85.toInt ∧ y_85.toInt ≤ 2147483647) → ∀ (f_87 : Nat → va_E), GI (okc cI cL cZ cR cG cH L kd) kd L f_87 → ∀ (H : Heap) (locs : List Loc), va_P (dC, dI) vwCl (va_pl L f_87) H → va_S (fun q => q ∈ L) s.heap H locs → va_D (fun q => q ∈ L) (va_pl L f_87) → (∀ b, kd b ≠ 12 → kd b ≠ 576 → f_87 b = f b) → (∀ b, kd b = 12 → ∀ j, fldR (f_87 b) j = fldR (f b) j) → (∀ b, kd b = 12 → ∀ j, j ≠ 6 → j ≠ 7 → j ≠ 8 → fldI (f_87 b) j = fldI (f b) j) → frel kd 576 8 f_87 a_2 → ∀ (whloop_84_0_6 : Int32), fldI (f_87 o0) 6 = some whloop_84_0_6 → (v_7.toInt ≤ whloop_84_0_6.toInt) → (0 ≤ whloop_84_0_6.toInt ∧ whloop_84_0_6.toInt ≤ 600) → 600 - whloop_84_0_6.toInt < (n : Int) → ∀ (ls : Array Slot), lv_has ls 5 [(2, .int y_85), (1, .int x_59), (0, .ref o0)] → W p l e (headSpec (wU yX12_classOf cX12_classOf 5 (some .boolean)) { frames := 3, cells := 0, slots := 0, locals := 61 }).room s m [.ref o0].toArray below meth c H locs 0 0 (MQ below (va_Qi (fun (r : Int32) (f9 : Nat → va_E) => GI (okc cI cL cZ cR cG cH L kd) kd L f9 ∧ (0 ≤ r.toInt ∧ r.toInt ≤ 1) ∧ (∀ b, kd b ≠ 12 → kd b ≠ 576 → f9 b = f b) ∧ (∀ b, kd b = 12 → ∀ j, fldR (f9 b) j = fldR (f b) j) ∧ (∀ b, kd b = 12 → ∀ j, j ≠ 6 → j ≠ 7 → j ≠ 8 → fldI (f9 b) j = fldI (f b) j) ∧ (∀ (w6 z6 : Int32), fldI (f o0) 6 = some w6 → fldI (f9 o0) 6 = some z6 → w6.toInt ≤ z6.toInt) ∧ (∀ d9, fldR (f9 o0) 1 = some d9 → frel kd 576 8 f9 d9)) (qP (dC, dI) cI cL cZ cR cG cH L) (fun q => q ∈ L)) [.ref o0].toArray s 0 0 (fun q => q ∈ L)) (F0 m 38 ls []) := by
      intro n
      induction n with
      | zero => intro y_85 by_85 f_87 hG H locs hP hS hD hfr0 hrA12 hfA12 hT0 whloop_84_0_6 hghloop_84_0_6 hrelhloop_84_0 hrelhloop_84_1 hmuhloop_84 ls hl; exfalso; omega
      | succ n ih_hloop_84 =>
        intro y_85 by_85 f_87 hG H locs hP hS hD hfr0 hrA12 hfA12 hT0 whloop_84_0_6 hghloop_84_0_6 hrelhloop_84_0 hrelhloop_84_1 hmuhloop_84 ls hl
        obtain ⟨v_88, v_89, v_90, hfo_91, fa_92⟩ := op12_6_7_8 hfo_57 (hG _ mo0) ko0 (hrA12 o0 ko0) (hfA12 o0 ko0)
        have bv_88 : (0 ≤ v_88.toInt ∧ v_88.toInt ≤ 600) := fa12_6 fa_92
        have bv_89 : ((-2147483648) ≤ v_89.toInt ∧ v_89.toInt ≤ 2147483647) := ⟨i32_lo _, i32_hi _⟩
        have bv_90 : ((-2147483648) ≤ v_90.toInt ∧ v_90.toInt ≤ 2147483647) := ⟨i32_lo _, i32_hi _⟩
        obtain rfl : v_88 = whloop_84_0_6 := by rw [hfo_91] at hghloop_84_0_6; exact Option.some.inj hghloop_84_0_6
        refine lv_iload_n hx hb dX12_classOf_38 rfl (lv_at hl 0 rfl) ?_
        refine lv_if_eq (tgt := 51) hx hb dX12_classOf_39 (by decide) (fun c_93 => ?_) (fun c_93 => ?_)
        · skip
          rw [← Int32.toInt_inj, ti_0] at c_93
          refine lv_aload_n hx hb dX12_classOf_51 rfl (lv_at hl 2 rfl) ?_
          refine tk_ViP (As := []) (rest := []) (n := 0) hx hb hml hown hU hN hZ (s_X12_sign_k12 l (dC, dI) cI cL cZ cR cG cH Z kd L f_87 hG o0 mo0 ko0) wd_573 wd_574 wd_575 wd_5 wd_576 (by decide +kernel) ⟨Nat.le_of_ble_eq_true rfl, Nat.le_of_ble_eq_true rfl⟩ hK hP hD hS mo0 hfo_91 12 rfl rfl rfl hl.1 rfl (Nat.le_of_ble_eq_true rfl) dX12_classOf_52 ⟨Nat.le_of_ble_eq_true rfl, Nat.le_of_ble_eq_true rfl⟩ (fun x_94 f_95 H locs hw hP hD hS => ?_)
          obtain ⟨hG, bx_94, hkc_96, hra_97, hfa_98, hpost_99⟩ := hw
          have hfr0 : ∀ b, kd b ≠ 12 → kd b ≠ 576 → f_95 b = f b := fun b q12 q576 => (hkc_96 b q12).trans (hfr0 b q12 q576)
          have hrA12 : ∀ b, kd b = 12 → ∀ j, fldR (f_95 b) j = fldR (f b) j := fun b kb j => (hra_97 b kb j).trans (hrA12 b kb j)
          have hfA12 : ∀ b, kd b = 12 → ∀ j, j ≠ 6 → j ≠ 7 → j ≠ 8 → fldI (f_95 b) j = fldI (f b) j := fun b kb j n6 n7 n8 => (hfa_98 b kb j n6).trans (hfA12 b kb j n6 n7 n8)
          have hT0 : frel kd 576 8 f_95 a_2 := hT0.keep (fun b q => hkc_96 b (by rw [q]; decide))
          obtain ⟨v_101, hfo_102, fa_103⟩ := op12_6 hfo_91 (hG _ mo0) ko0 (hra_97 o0 ko0) (hfa_98 o0 ko0)
          have bv_101 : (0 ≤ v_101.toInt ∧ v_101.toInt ≤ 600) := fa12_6 fa_103
          have hqhpost_99 := hpost_99 v_88 v_101 (by rw [hfo_91]; rfl) (by rw [hfo_102]; rfl)
          refine lv_istore_n (lv' := [(3, .int x_94), (2, .int y_85), (1, .int x_59), (0, .ref o0)]) hx hb dX12_classOf_55 rfl hl (by decide) rfl (fun ls hl => ?_)
          refine lv_iload_n hx hb dX12_classOf_56 rfl (lv_at hl 0 rfl) ?_
          refine tk_SiP (As := [.int x_94]) (rest := []) (n := 1) hx hb hml hown hU hN hZ (s_X12_isSmall l (dC, dI) cI cL cZ cR cG cH Z kd L f_95 hG x_94) wd_589 wd_590 wd_5 wd_591 (by decide +kernel) ⟨Nat.le_of_ble_eq_true rfl, Nat.le_of_ble_eq_true rfl⟩ hK hP hD hS rfl hl.1 rfl (Nat.le_of_ble_eq_true rfl) dX12_classOf_57 ⟨Nat.le_of_ble_eq_true rfl, Nat.le_of_ble_eq_true rfl⟩ (fun x_104 f_105 H locs hw hP hD hS => ?_)
          obtain ⟨rfl, bx_104, relx_104⟩ := hw
          refine lv_if_ne (tgt := 73) hx hb dX12_classOf_60 (by decide) (fun c_107 => ?_) (fun c_107 => ?_)
          · skip
            rw [← Int32.toInt_inj, ti_0] at c_107
            refine lv_aload_n hx hb dX12_classOf_73 rfl (lv_at hl 3 rfl) ?_
            refine tk_getP (D := (dC, dI)) (ci := 12) (v := .ref a_2) (C := RX12) (T := TX12) (N := 56) hx hb hU inlX12 hown hK hP mo0 hfo_102 rfl 1 (by decide) (hU _ wd_170) (fun _ h9 => h9) rfl dX12_classOf_74 ?_
            refine lv_iload_n hx hb dX12_classOf_77 rfl (lv_at hl 0 rfl) ?_
            refine tk_SiP (As := [.ref a_2, .int x_94]) (rest := []) (n := 2) hx hb hml hown hU hN hZ (s_X12_letterIn_a576 l (dC, dI) cI cL cZ cR cG cH Z kd L f_95 hG a_2 ma_2 ka_2 x_94) wd_606 wd_607 wd_5 wd_608 (by decide +kernel) ⟨Nat.le_of_ble_eq_true rfl, Nat.le_of_ble_eq_true rfl⟩ hK hP hD hS rfl hl.1 rfl (Nat.le_of_ble_eq_true rfl) dX12_classOf_78 ⟨Nat.le_of_ble_eq_true rfl, Nat.le_of_ble_eq_true rfl⟩ (fun x_108 f_109 H locs hw hP hD hS => ?_)
            obtain ⟨rfl, bx_108, hxp_110⟩ := hw
            obtain ⟨g_113, hfo_112, hbg_113⟩ := un_576 (hG _ ma_2) ka_2
            have hlix_108 := hxp_110 g_113 hfo_112
            refine lv_istore (lv' := [(4, .int x_108), (3, .int x_94), (2, .int y_85), (1, .int x_59), (0, .ref o0)]) hx hb dX12_classOf_81 hl (by decide) rfl (fun ls hl => ?_)
            refine lv_iload hx hb dX12_classOf_83 (lv_at hl 0 rfl) ?_
            refine lv_if_ne (tgt := 98) hx hb dX12_classOf_85 (by decide) (fun c_114 => ?_) (fun c_114 => ?_)
            · skip
              rw [← Int32.toInt_inj, ti_0] at c_114
              refine lv_iload_n hx hb dX12_classOf_98 rfl (lv_at hl 2 rfl) ?_
              refine lv_iconst (v := 1) hx hb dX12_classOf_99 (by decide) ?_
              refine lv_iload hx hb dX12_classOf_100 (lv_at hl 0 rfl) ?_
              refine lv_ishl hx hb dX12_classOf_102 ?_
              refine lv_topi (fun x_115 ex_115 => ?_)
              have bx_115 : (1 ≤ x_115.toInt ∧ x_115.toInt ≤ 256) := by rw [ex_115]; exact sh_8 (by constructor <;> omega)
              refine lv_ior hx hb dX12_classOf_103 ?_
              refine lv_topi (fun x_116 ex_116 => ?_)
              have bx_116 : (0 ≤ x_116.toInt ∧ x_116.toInt ≤ 511) := by rw [ex_116]; exact or_K 9 (by decide) (by constructor <;> omega) (by constructor <;> omega)
              refine lv_istore_n (lv' := [(2, .int x_116), (4, .int x_108), (3, .int x_94), (1, .int x_59), (0, .ref o0)]) hx hb dX12_classOf_104 rfl hl (by decide) rfl (fun ls hl => ?_)
              have hclc_117 : (0 ≤ v_101.toInt ∧ v_101.toInt ≤ 599) := by constructor <;> omega
              refine lv_aload_n hx hb dX12_classOf_105 rfl (lv_at hl 4 rfl) ?_
              refine lv_dup hx hb dX12_classOf_106 rfl ?_
              refine tk_getP (D := (dC, dI)) (ci := 12) (v := .int v_101) (C := RX12) (T := TX12) (N := 56) hx hb hU inlX12 hown hK hP mo0 hfo_102 rfl 6 (by decide) (hU _ wd_566) (fun _ h9 => h9) rfl dX12_classOf_107 ?_
              refine lv_iconst (v := 1) hx hb dX12_classOf_110 (by decide) ?_
              refine lv_iadd hx hb dX12_classOf_111 ?_
              refine lv_topi (fun x_118 ex_118 => ?_)
              have hx_118 : x_118.toInt = v_101.toInt + 1 := by rw [ex_118, ad_I (by rw [ti_1]; omega) (by rw [ti_1]; omega), ti_1]
              have bx_118 : (1 ≤ x_118.toInt ∧ x_118.toInt ≤ 600) := by constructor <;> omega
              refine tk_putP (D := (dC, dI)) (ci := 12) (v := .int x_118) (ty := .int) (C := RX12) (T := TX12) (N := 56) hx hb hU inlX12 tyX12 tyX12_ok nmX12 hown hK hP hD hS mo0 hfo_102 rfl 6 (by decide) (hU _ wd_566) (fun _ h9 => h9) rfl (by decide +kernel) rfl rfl (Nat.le_of_ble_eq_true rfl) dX12_classOf_112 (fun H locs hP hD hS => ?_)
              have fa_119 := fu12_6 (y := x_118) fa_103 (by constructor <;> omega)
              obtain ⟨f_121, ef_121⟩ : ∃ y : Nat → va_E, y = va_up f_95 o0 (.inr (12, [.ref a_1, .ref a_2, .ref a_3, .int v_4, .ref a_5, .int v_6, .int x_118, .int v_89, .int v_90, .int v_10, .int v_11, .int v_12, .int v_13, .int v_14, .int v_15, .ref a_16, .ref a_17, .ref a_18, .ref a_19, .ref a_20, .ref a_21, .ref a_22, .ref a_23, .int v_24, .int v_25, .int v_26, .int v_27, .int v_28, .ref a_29, .int v_30, .ref a_31, .ref a_32, .int v_33, .int v_34, .ref a_35, .int v_36, .ref a_37, .ref a_38, .int v_39, .int v_40, .ref a_41, .ref a_42, .ref a_43, .int v_44, .ref a_45, .ref a_46, .ref a_47, .ref a_48, .ref a_49, .ref a_50, .ref a_51, .ref a_52, .ref a_53, .int v_54, .int v_55, .ref a_56])) := ⟨_, rfl⟩
              have hP : va_P (dC, dI) vwCl (va_pl L f_121) H := by rw [ef_121]; exact hP
              have hD : va_D (fun q => q ∈ L) (va_pl L f_121) := by rw [ef_121]; exact hD
              have hG : GI (okc cI cL cZ cR cG cH L kd) kd L f_121 := by rw [ef_121]; exact hG.set o0 (mk_12 ko0 (fo12 fa_119))
              have hfo_122 : f_121 a_2 = .inl (cI, 1560, .inl g_113) := by rw [ef_121, up_ne (kd_ne ko0 ka_2 (by decide))]; exact hfo_112
              have hfr0 : ∀ b, kd b ≠ 12 → kd b ≠ 576 → f_121 b = f b := fun b q12 q576 => (congrFun ef_121 b).trans ((up_ne (fun e9 => q12 (by rw [e9]; exact ko0))).trans (hfr0 b q12 q576))
              have hrA12 : ∀ b, kd b = 12 → ∀ j, fldR (f_121 b) j = fldR (f b) j := fun b kb j => ((congrArg (fun x => fldR x j) (congrFun ef_121 b)).trans (fra_up (fun j => by rw [hfo_102]; exact fr_set (k := 6) rfl rfl) j b)).trans (hrA12 b kb j)
              have hfA12 : ∀ b, kd b = 12 → ∀ j, j ≠ 6 → j ≠ 7 → j ≠ 8 → fldI (f_121 b) j = fldI (f b) j := fun b kb j n6 n7 n8 => ((congrArg (fun x => fldI x j) (congrFun ef_121 b)).trans (fia_up (fun h9 => by rw [hfo_102]; exact fi_set (k := 6) rfl h9) n6 b)).trans (hfA12 b kb j n6 n7 n8)
              have hT0 : frel kd 576 8 f_121 a_2 := by rw [ef_121]; exact hT0.keep (fun b q => up_ne (kd_ne ko0 q (by decide)))
              have hfo_123 : f_121 o0 = .inr (12, [.ref a_1, .ref a_2, .ref a_3, .int v_4, .ref a_5, .int v_6, .int x_118, .int v_89, .int v_90, .int v_10, .int v_11, .int v_12, .int v_13, .int v_14, .int v_15, .ref a_16, .ref a_17, .ref a_18, .ref a_19, .ref a_20, .ref a_21, .ref a_22, .ref a_23, .int v_24, .int v_25, .int v_26, .int v_27, .int v_28, .ref a_29, .int v_30, .ref a_31, .ref a_32, .int v_33, .int v_34, .ref a_35, .int v_36, .ref a_37, .ref a_38, .int v_39, .int v_40, .ref a_41, .ref a_42, .ref a_43, .int v_44, .ref a_45, .ref a_46, .ref a_47, .ref a_48, .ref a_49, .ref a_50, .ref a_51, .ref a_52, .ref a_53, .int v_54, .int v_55, .ref a_56]) := by rw [ef_121]; exact up_self
              refine lv_goto (tgt := 38) hx hb dX12_classOf_115 (by decide) ?_
              exact ih_hloop_84 x_116 (by constructor <;> omega) f_121 hG _ _ hP hS hD hfr0 hrA12 hfA12 hT0 x_118 (by rw [hfo_123]; rfl) (by omega) (by omega) (by omega) ls (lv_sub hl [0, 3, 4] rfl)
            · skip
              rw [← Int32.toInt_inj, ti_0] at c_114
              refine lv_aload_n hx hb dX12_classOf_88 rfl (lv_at hl 4 rfl) ?_
              refine lv_iconst (v := 2) hx hb dX12_classOf_89 (by decide) ?_
              refine lv_aload_n hx hb dX12_classOf_90 rfl (lv_at hl 4 rfl) ?_
              refine tk_getP (D := (dC, dI)) (ci := 12) (v := .int v_101) (C := RX12) (T := TX12) (N := 56) hx hb hU inlX12 hown hK hP mo0 hfo_102 rfl 6 (by decide) (hU _ wd_566) (fun _ h9 => h9) rfl dX12_classOf_91 ?_
              refine tk_ViP (As := [.int 2, .int v_101]) (rest := []) (n := 2) hx hb hml hown hU hN hZ (s_X12_bad_k12 l (dC, dI) cI cL cZ cR cG cH Z kd L f_95 hG o0 mo0 ko0 2 v_101) wd_602 wd_603 wd_604 wd_5 wd_605 (by decide +kernel) ⟨Nat.le_of_ble_eq_true rfl, Nat.le_of_ble_eq_true rfl⟩ hK hP hD hS mo0 hfo_102 12 rfl rfl rfl hl.1 rfl (Nat.le_of_ble_eq_true rfl) dX12_classOf_94 ⟨Nat.le_of_ble_eq_true rfl, Nat.le_of_ble_eq_true rfl⟩ (fun x_124 f_125 H locs hw hP hD hS => ?_)
              obtain ⟨hG, bx_124, hkc_126, hra_127, hfa_128⟩ := hw
              have hfo_130 : f_125 a_2 = .inl (cI, 1560, .inl g_113) := by rw [hkc_126 a_2 (by rw [ka_2]; decide)]; exact hfo_112
              have hfr0 : ∀ b, kd b ≠ 12 → kd b ≠ 576 → f_125 b = f b := fun b q12 q576 => (hkc_126 b q12).trans (hfr0 b q12 q576)
              have hrA12 : ∀ b, kd b = 12 → ∀ j, fldR (f_125 b) j = fldR (f b) j := fun b kb j => (hra_127 b kb j).trans (hrA12 b kb j)
              have hfA12 : ∀ b, kd b = 12 → ∀ j, j ≠ 6 → j ≠ 7 → j ≠ 8 → fldI (f_125 b) j = fldI (f b) j := fun b kb j n6 n7 n8 => (hfa_128 b kb j n7 n8).trans (hfA12 b kb j n6 n7 n8)
              have hT0 : frel kd 576 8 f_125 a_2 := hT0.keep (fun b q => hkc_126 b (by rw [q]; decide))
              obtain ⟨v_131, v_132, hfo_133, fa_134⟩ := op12_7_8 hfo_102 (hG _ mo0) ko0 (hra_127 o0 ko0) (hfa_128 o0 ko0)
              have bv_131 : ((-2147483648) ≤ v_131.toInt ∧ v_131.toInt ≤ 2147483647) := ⟨i32_lo _, i32_hi _⟩
              have bv_132 : ((-2147483648) ≤ v_132.toInt ∧ v_132.toInt ≤ 2147483647) := ⟨i32_lo _, i32_hi _⟩
              exact W.zret (v := x_124) (ty := .boolean) hx hb hr (zb_n (by constructor <;> omega)) (fun t ht hW => ⟨⟨x_124, f_125, rfl, ⟨hG, (by constructor <;> omega), hfr0, hrA12, hfA12, (by intro w6 z6 e6 d6; rw [hfo_57] at e6; rw [hfo_133] at d6; obtain rfl := Option.some.inj e6; obtain rfl := Option.some.inj d6; omega), (fun d9 h9 => by rw [hfo_133] at h9; obtain rfl := Option.some.inj h9; exact hT0)⟩, by rw [ht]; exact hP, va_K.moved hW.alike hK, pl_in hD⟩, hS.F ht⟩) hS.2.2 dX12_classOf_97
          · skip
            rw [← Int32.toInt_inj, ti_0] at c_107
            refine lv_aload_n hx hb dX12_classOf_63 rfl (lv_at hl 3 rfl) ?_
            refine lv_iconst (v := 1) hx hb dX12_classOf_64 (by decide) ?_
            refine lv_aload_n hx hb dX12_classOf_65 rfl (lv_at hl 3 rfl) ?_
            refine tk_getP (D := (dC, dI)) (ci := 12) (v := .int v_101) (C := RX12) (T := TX12) (N := 56) hx hb hU inlX12 hown hK hP mo0 hfo_102 rfl 6 (by decide) (hU _ wd_566) (fun _ h9 => h9) rfl dX12_classOf_66 ?_
            refine tk_ViP (As := [.int 1, .int v_101]) (rest := []) (n := 2) hx hb hml hown hU hN hZ (s_X12_bad_k12 l (dC, dI) cI cL cZ cR cG cH Z kd L f_95 hG o0 mo0 ko0 1 v_101) wd_602 wd_603 wd_604 wd_5 wd_605 (by decide +kernel) ⟨Nat.le_of_ble_eq_true rfl, Nat.le_of_ble_eq_true rfl⟩ hK hP hD hS mo0 hfo_102 12 rfl rfl rfl hl.1 rfl (Nat.le_of_ble_eq_true rfl) dX12_classOf_69 ⟨Nat.le_of_ble_eq_true rfl, Nat.le_of_ble_eq_true rfl⟩ (fun x_135 f_136 H locs hw hP hD hS => ?_)
            obtain ⟨hG, bx_135, hkc_137, hra_138, hfa_139⟩ := hw
            have hfr0 : ∀ b, kd b ≠ 12 → kd b ≠ 576 → f_136 b = f b := fun b q12 q576 => (hkc_137 b q12).trans (hfr0 b q12 q576)
            have hrA12 : ∀ b, kd b = 12 → ∀ j, fldR (f_136 b) j = fldR (f b) j := fun b kb j => (hra_138 b kb j).trans (hrA12 b kb j)
            have hfA12 : ∀ b, kd b = 12 → ∀ j, j ≠ 6 → j ≠ 7 → j ≠ 8 → fldI (f_136 b) j = fldI (f b) j := fun b kb j n6 n7 n8 => (hfa_139 b kb j n7 n8).trans (hfA12 b kb j n6 n7 n8)
            have hT0 : frel kd 576 8 f_136 a_2 := hT0.keep (fun b q => hkc_137 b (by rw [q]; decide))
            obtain ⟨v_141, v_142, hfo_143, fa_144⟩ := op12_7_8 hfo_102 (hG _ mo0) ko0 (hra_138 o0 ko0) (hfa_139 o0 ko0)
            have bv_141 : ((-2147483648) ≤ v_141.toInt ∧ v_141.toInt ≤ 2147483647) := ⟨i32_lo _, i32_hi _⟩
            have bv_142 : ((-2147483648) ≤ v_142.toInt ∧ v_142.toInt ≤ 2147483647) := ⟨i32_lo _, i32_hi _⟩
            exact W.zret (v := x_135) (ty := .boolean) hx hb hr (zb_n (by constructor <;> omega)) (fun t ht hW => ⟨⟨x_135, f_136, rfl, ⟨hG, (by constructor <;> omega), hfr0, hrA12, hfA12, (by intro w6 z6 e6 d6; rw [hfo_57] at e6; rw [hfo_143] at d6; obtain rfl := Option.some.inj e6; obtain rfl := Option.some.inj d6; omega), (fun d9 h9 => by rw [hfo_143] at h9; obtain rfl := Option.some.inj h9; exact hT0)⟩, by rw [ht]; exact hP, va_K.moved hW.alike hK, pl_in hD⟩, hS.F ht⟩) hS.2.2 dX12_classOf_72
        · skip
          rw [← Int32.toInt_inj, ti_0] at c_93
          refine lv_aload_n hx hb dX12_classOf_42 rfl (lv_at hl 2 rfl) ?_
          refine tk_ViP (As := []) (rest := []) (n := 0) hx hb hml hown hU hN hZ (s_X12_sign_k12 l (dC, dI) cI cL cZ cR cG cH Z kd L f_87 hG o0 mo0 ko0) wd_573 wd_574 wd_575 wd_5 wd_576 (by decide +kernel) ⟨Nat.le_of_ble_eq_true rfl, Nat.le_of_ble_eq_true rfl⟩ hK hP hD hS mo0 hfo_91 12 rfl rfl rfl hl.1 rfl (Nat.le_of_ble_eq_true rfl) dX12_classOf_43 ⟨Nat.le_of_ble_eq_true rfl, Nat.le_of_ble_eq_true rfl⟩ (fun x_145 f_146 H locs hw hP hD hS => ?_)
          obtain ⟨hG, bx_145, hkc_147, hra_148, hfa_149, hpost_150⟩ := hw
          have hfr0 : ∀ b, kd b ≠ 12 → kd b ≠ 576 → f_146 b = f b := fun b q12 q576 => (hkc_147 b q12).trans (hfr0 b q12 q576)
          have hrA12 : ∀ b, kd b = 12 → ∀ j, fldR (f_146 b) j = fldR (f b) j := fun b kb j => (hra_148 b kb j).trans (hrA12 b kb j)
          have hfA12 : ∀ b, kd b = 12 → ∀ j, j ≠ 6 → j ≠ 7 → j ≠ 8 → fldI (f_146 b) j = fldI (f b) j := fun b kb j n6 n7 n8 => (hfa_149 b kb j n6).trans (hfA12 b kb j n6 n7 n8)
          have hT0 : frel kd 576 8 f_146 a_2 := hT0.keep (fun b q => hkc_147 b (by rw [q]; decide))
          obtain ⟨v_152, hfo_153, fa_154⟩ := op12_6 hfo_91 (hG _ mo0) ko0 (hra_148 o0 ko0) (hfa_149 o0 ko0)
          have bv_152 : (0 ≤ v_152.toInt ∧ v_152.toInt ≤ 600) := fa12_6 fa_154
          have hqhpost_150 := hpost_150 v_88 v_152 (by rw [hfo_91]; rfl) (by rw [hfo_153]; rfl)
          refine lv_bipush (v := 59) hx hb dX12_classOf_46 (by decide) ?_
          refine lv_icmp_eq (tgt := 118) hx hb dX12_classOf_48 (by decide) (fun c_155 => ?_) (fun c_155 => ?_)
          · skip
            rw [← Int32.toInt_inj, ti_59] at c_155
            refine lv_aload_n hx hb dX12_classOf_118 rfl (lv_at hl 2 rfl) ?_
            refine tk_getP (D := (dC, dI)) (ci := 12) (v := .ref a_2) (C := RX12) (T := TX12) (N := 56) hx hb hU inlX12 hown hK hP mo0 hfo_153 rfl 1 (by decide) (hU _ wd_170) (fun _ h9 => h9) rfl dX12_classOf_119 ?_
            refine lv_bipush (v := 10) hx hb dX12_classOf_122 (by decide) ?_
            refine lv_iload_n hx hb dX12_classOf_124 rfl (lv_at hl 1 rfl) ?_
            refine lv_iadd hx hb dX12_classOf_125 ?_
            refine lv_topi (fun x_156 ex_156 => ?_)
            have hx_156 : x_156.toInt = 10 + x_59.toInt := by rw [ex_156, ad_I (by rw [ti_10]; omega) (by rw [ti_10]; omega), ti_10]
            have bx_156 : (75 ≤ x_156.toInt ∧ x_156.toInt ≤ 80) := by constructor <;> omega
            refine lv_bipush (v := 65) hx hb dX12_classOf_126 (by decide) ?_
            refine lv_isub hx hb dX12_classOf_128 ?_
            refine lv_topi (fun x_157 ex_157 => ?_)
            have hx_157 : x_157.toInt = x_156.toInt - 65 := by rw [ex_157, sb_I (by rw [ti_65]; omega) (by rw [ti_65]; omega), ti_65]
            have bx_157 : (10 ≤ x_157.toInt ∧ x_157.toInt ≤ 15) := by constructor <;> omega
            refine lv_iload_n hx hb dX12_classOf_129 rfl (lv_at hl 0 rfl) ?_
            obtain ⟨g_159, hfo_158, hbg_159⟩ := un_576 (hG _ ma_2) ka_2
            refine tk_istP hx hb hK hP hD hS 0 ma_2 hfo_158 rfl (vp_in_iff.mpr (by constructor <;> omega)) dX12_classOf_130 (fun H locs hP hD hS => ?_)
            have hc9 := cl_I (i := x_157) (by omega)
            obtain ⟨g_160, eqg_160⟩ : ∃ y : Nat → Int32, y = upd g_159 (Int32.toNatClampNeg x_157) y_85 := ⟨_, rfl⟩
            rw [← eqg_160] at hP hD
            have hbg_160 : wOK g_160 := by rw [eqg_160]; exact ⟨hbg_159.1.up (fun h1 h2 h3 => by exfalso; omega), hbg_159.2.1.up (fun h1 h2 h3 => by exfalso; omega), hbg_159.2.2.1.up (fun h1 h2 h3 => by exfalso; omega), hbg_159.2.2.2.1.up (fun h1 h2 h3 => by exfalso; omega), hbg_159.2.2.2.2.1.up (fun h1 h2 h3 => by exfalso; omega), hbg_159.2.2.2.2.2.1.up (fun h1 h2 h3 => by exfalso; omega), hbg_159.2.2.2.2.2.2.1.up (fun h1 h2 h3 => by exfalso; omega), hbg_159.2.2.2.2.2.2.2.1.up (fun h1 h2 h3 => by exfalso; omega), hbg_159.2.2.2.2.2.2.2.2.1.up (fun h1 h2 h3 => by exfalso; omega), hbg_159.2.2.2.2.2.2.2.2.2.1.up (fun h1 h2 h3 => by exfalso; omega), hbg_159.2.2.2.2.2.2.2.2.2.2.1.up (fun h1 h2 h3 => by exfalso; omega), hbg_159.2.2.2.2.2.2.2.2.2.2.2.1.up (fun h1 h2 h3 => by exfalso; omega), hbg_159.2.2.2.2.2.2.2.2.2.2.2.2.1.up (fun h1 h2 h3 => by exfalso; omega), hbg_159.2.2.2.2.2.2.2.2.2.2.2.2.2.1.up (fun h1 h2 h3 => by exfalso; omega), hbg_159.2.2.2.2.2.2.2.2.2.2.2.2.2.2.1.up (fun h1 h2 h3 => by exfalso; omega), hbg_159.2.2.2.2.2.2.2.2.2.2.2.2.2.2.2.up (fun h1 h2 h3 => by exfalso; omega)⟩
            obtain ⟨f_162, ef_162⟩ : ∃ y : Nat → va_E, y = va_up f_146 a_2 (.inl (cI, 1560, .inl g_160)) := ⟨_, rfl⟩
            have hP : va_P (dC, dI) vwCl (va_pl L f_162) H := by rw [ef_162]; exact hP
            have hD : va_D (fun q => q ∈ L) (va_pl L f_162) := by rw [ef_162]; exact hD
            have hG : GI (okc cI cL cZ cR cG cH L kd) kd L f_162 := by rw [ef_162]; exact hG.set a_2 (mk_576 ka_2 ⟨_, rfl, hbg_160⟩)
            have hfo_163 : f_162 o0 = .inr (12, [.ref a_1, .ref a_2, .ref a_3, .int v_4, .ref a_5, .int v_6, .int v_152, .int v_89, .int v_90, .int v_10, .int v_11, .int v_12, .int v_13, .int v_14, .int v_15, .ref a_16, .ref a_17, .ref a_18, .ref a_19, .ref a_20, .ref a_21, .ref a_22, .ref a_23, .int v_24, .int v_25, .int v_26, .int v_27, .int v_28, .ref a_29, .int v_30, .ref a_31, .ref a_32, .int v_33, .int v_34, .ref a_35, .int v_36, .ref a_37, .ref a_38, .int v_39, .int v_40, .ref a_41, .ref a_42, .ref a_43, .int v_44, .ref a_45, .ref a_46, .ref a_47, .ref a_48, .ref a_49, .ref a_50, .ref a_51, .ref a_52, .ref a_53, .int v_54, .int v_55, .ref a_56]) := by rw [ef_162, up_ne (kd_ne ka_2 ko0 (by decide))]; exact hfo_153
            have hfr0 : ∀ b, kd b ≠ 12 → kd b ≠ 576 → f_162 b = f b := fun b q12 q576 => (congrFun ef_162 b).trans ((up_ne (fun e9 => q576 (by rw [e9]; exact ka_2))).trans (hfr0 b q12 q576))
            have hrA12 : ∀ b, kd b = 12 → ∀ j, fldR (f_162 b) j = fldR (f b) j := fun b kb j => (congrArg (fun x => fldR x j) ((congrFun ef_162 b).trans (up_ne (kd_ne ka_2 kb (by decide))))).trans (hrA12 b kb j)
            have hfA12 : ∀ b, kd b = 12 → ∀ j, j ≠ 6 → j ≠ 7 → j ≠ 8 → fldI (f_162 b) j = fldI (f b) j := fun b kb j n6 n7 n8 => (congrArg (fun x => fldI x j) ((congrFun ef_162 b).trans (up_ne (kd_ne ka_2 kb (by decide))))).trans (hfA12 b kb j n6 n7 n8)
            have hT0 : frel kd 576 8 f_162 a_2 := by rw [ef_162]; exact frel.mk ka_2 up_self (by rw [eqg_160]; exact (hT0.get hfo_158).up (hbg_159.2.1 16 (by decide) (by decide) (by decide)).2 (by omega) (by omega) (by omega) (fun h9 => by exfalso; omega))
            have hfo_164 : f_162 a_2 = .inl (cI, 1560, .inl g_160) := by rw [ef_162]; exact up_self
            have ql_165 : y_85 = g_160 (Int32.toNatClampNeg x_157) := by rw [eqg_160, pk_us]
            refine lv_iconst (v := 1) hx hb dX12_classOf_131 (by decide) ?_
            exact W.zret (v := 1) (ty := .boolean) hx hb hr rfl (fun t ht hW => ⟨⟨1, f_162, rfl, ⟨hG, (by decide), hfr0, hrA12, hfA12, (by intro w6 z6 e6 d6; rw [hfo_57] at e6; rw [hfo_163] at d6; obtain rfl := Option.some.inj e6; obtain rfl := Option.some.inj d6; (try rw [ti_1]) <;> omega), (fun d9 h9 => by rw [hfo_163] at h9; obtain rfl := Option.some.inj h9; exact hT0)⟩, by rw [ht]; exact hP, va_K.moved hW.alike hK, pl_in hD⟩, hS.F ht⟩) hS.2.2 dX12_classOf_132
          · skip
            rw [← Int32.toInt_inj, ti_59] at c_155
            refine lv_aload_n hx hb dX12_classOf_51 rfl (lv_at hl 2 rfl) ?_
            refine tk_ViP (As := []) (rest := []) (n := 0) hx hb hml hown hU hN hZ (s_X12_sign_k12 l (dC, dI) cI cL cZ cR cG cH Z kd L f_146 hG o0 mo0 ko0) wd_573 wd_574 wd_575 wd_5 wd_576 (by decide +kernel) ⟨Nat.le_of_ble_eq_true rfl, Nat.le_of_ble_eq_true rfl⟩ hK hP hD hS mo0 hfo_153 12 rfl rfl rfl hl.1 rfl (Nat.le_of_ble_eq_true rfl) dX12_classOf_52 ⟨Nat.le_of_ble_eq_true rfl, Nat.le_of_ble_eq_true rfl⟩ (fun x_166 f_167 H locs hw hP hD hS => ?_)
            obtain ⟨hG, bx_166, hkc_168, hra_169, hfa_170, hpost_171⟩ := hw
            have hfr0 : ∀ b, kd b ≠ 12 → kd b ≠ 576 → f_167 b = f b := fun b q12 q576 => (hkc_168 b q12).trans (hfr0 b q12 q576)
            have hrA12 : ∀ b, kd b = 12 → ∀ j, fldR (f_167 b) j = fldR (f b) j := fun b kb j => (hra_169 b kb j).trans (hrA12 b kb j)
            have hfA12 : ∀ b, kd b = 12 → ∀ j, j ≠ 6 → j ≠ 7 → j ≠ 8 → fldI (f_167 b) j = fldI (f b) j := fun b kb j n6 n7 n8 => (hfa_170 b kb j n6).trans (hfA12 b kb j n6 n7 n8)
            have hT0 : frel kd 576 8 f_167 a_2 := hT0.keep (fun b q => hkc_168 b (by rw [q]; decide))
            obtain ⟨v_173, hfo_174, fa_175⟩ := op12_6 hfo_153 (hG _ mo0) ko0 (hra_169 o0 ko0) (hfa_170 o0 ko0)
            have bv_173 : (0 ≤ v_173.toInt ∧ v_173.toInt ≤ 600) := fa12_6 fa_175
            have hqhpost_171 := hpost_171 v_152 v_173 (by rw [hfo_153]; rfl) (by rw [hfo_174]; rfl)
            refine lv_istore_n (lv' := [(3, .int x_166), (2, .int y_85), (1, .int x_59), (0, .ref o0)]) hx hb dX12_classOf_55 rfl hl (by decide) rfl (fun ls hl => ?_)
            refine lv_iload_n hx hb dX12_classOf_56 rfl (lv_at hl 0 rfl) ?_
            refine tk_SiP (As := [.int x_166]) (rest := []) (n := 1) hx hb hml hown hU hN hZ (s_X12_isSmall l (dC, dI) cI cL cZ cR cG cH Z kd L f_167 hG x_166) wd_589 wd_590 wd_5 wd_591 (by decide +kernel) ⟨Nat.le_of_ble_eq_true rfl, Nat.le_of_ble_eq_true rfl⟩ hK hP hD hS rfl hl.1 rfl (Nat.le_of_ble_eq_true rfl) dX12_classOf_57 ⟨Nat.le_of_ble_eq_true rfl, Nat.le_of_ble_eq_true rfl⟩ (fun x_176 f_177 H locs hw hP hD hS => ?_)
            obtain ⟨rfl, bx_176, relx_176⟩ := hw
            refine lv_if_ne (tgt := 73) hx hb dX12_classOf_60 (by decide) (fun c_179 => ?_) (fun c_179 => ?_)
            · skip
              rw [← Int32.toInt_inj, ti_0] at c_179
              refine lv_aload_n hx hb dX12_classOf_73 rfl (lv_at hl 3 rfl) ?_
              refine tk_getP (D := (dC, dI)) (ci := 12) (v := .ref a_2) (C := RX12) (T := TX12) (N := 56) hx hb hU inlX12 hown hK hP mo0 hfo_174 rfl 1 (by decide) (hU _ wd_170) (fun _ h9 => h9) rfl dX12_classOf_74 ?_
              refine lv_iload_n hx hb dX12_classOf_77 rfl (lv_at hl 0 rfl) ?_
              refine tk_SiP (As := [.ref a_2, .int x_166]) (rest := []) (n := 2) hx hb hml hown hU hN hZ (s_X12_letterIn_a576 l (dC, dI) cI cL cZ cR cG cH Z kd L f_167 hG a_2 ma_2 ka_2 x_166) wd_606 wd_607 wd_5 wd_608 (by decide +kernel) ⟨Nat.le_of_ble_eq_true rfl, Nat.le_of_ble_eq_true rfl⟩ hK hP hD hS rfl hl.1 rfl (Nat.le_of_ble_eq_true rfl) dX12_classOf_78 ⟨Nat.le_of_ble_eq_true rfl, Nat.le_of_ble_eq_true rfl⟩ (fun x_180 f_181 H locs hw hP hD hS => ?_)
              obtain ⟨rfl, bx_180, hxp_182⟩ := hw
              obtain ⟨g_185, hfo_184, hbg_185⟩ := un_576 (hG _ ma_2) ka_2
              have hlix_180 := hxp_182 g_185 hfo_184
              refine lv_istore (lv' := [(4, .int x_180), (3, .int x_166), (2, .int y_85), (1, .int x_59), (0, .ref o0)]) hx hb dX12_classOf_81 hl (by decide) rfl (fun ls hl => ?_)
              refine lv_iload hx hb dX12_classOf_83 (lv_at hl 0 rfl) ?_
              refine lv_if_ne (tgt := 98) hx hb dX12_classOf_85 (by decide) (fun c_186 => ?_) (fun c_186 => ?_)
              · skip
                rw [← Int32.toInt_inj, ti_0] at c_186
                refine lv_iload_n hx hb dX12_classOf_98 rfl (lv_at hl 2 rfl) ?_
                refine lv_iconst (v := 1) hx hb dX12_classOf_99 (by decide) ?_
                refine lv_iload hx hb dX12_classOf_100 (lv_at hl 0 rfl) ?_
                refine lv_ishl hx hb dX12_classOf_102 ?_
                refine lv_topi (fun x_187 ex_187 => ?_)
                have bx_187 : (1 ≤ x_187.toInt ∧ x_187.toInt ≤ 256) := by rw [ex_187]; exact sh_8 (by constructor <;> omega)
                refine lv_ior hx hb dX12_classOf_103 ?_
                refine lv_topi (fun x_188 ex_188 => ?_)
                have bx_188 : ((-2147483648) ≤ x_188.toInt ∧ x_188.toInt ≤ 2147483647) := ⟨i32_lo _, i32_hi _⟩
                refine lv_istore_n (lv' := [(2, .int x_188), (4, .int x_180), (3, .int x_166), (1, .int x_59), (0, .ref o0)]) hx hb dX12_classOf_104 rfl hl (by decide) rfl (fun ls hl => ?_)
                have hclc_189 : (0 ≤ v_173.toInt ∧ v_173.toInt ≤ 599) := by constructor <;> omega
                refine lv_aload_n hx hb dX12_classOf_105 rfl (lv_at hl 4 rfl) ?_
                refine lv_dup hx hb dX12_classOf_106 rfl ?_
                refine tk_getP (D := (dC, dI)) (ci := 12) (v := .int v_173) (C := RX12) (T := TX12) (N := 56) hx hb hU inlX12 hown hK hP mo0 hfo_174 rfl 6 (by decide) (hU _ wd_566) (fun _ h9 => h9) rfl dX12_classOf_107 ?_
                refine lv_iconst (v := 1) hx hb dX12_classOf_110 (by decide) ?_
                refine lv_iadd hx hb dX12_classOf_111 ?_
                refine lv_topi (fun x_190 ex_190 => ?_)
                have hx_190 : x_190.toInt = v_173.toInt + 1 := by rw [ex_190, ad_I (by rw [ti_1]; omega) (by rw [ti_1]; omega), ti_1]
                have bx_190 : (1 ≤ x_190.toInt ∧ x_190.toInt ≤ 600) := by constructor <;> omega
                refine tk_putP (D := (dC, dI)) (ci := 12) (v := .int x_190) (ty := .int) (C := RX12) (T := TX12) (N := 56) hx hb hU inlX12 tyX12 tyX12_ok nmX12 hown hK hP hD hS mo0 hfo_174 rfl 6 (by decide) (hU _ wd_566) (fun _ h9 => h9) rfl (by decide +kernel) rfl rfl (Nat.le_of_ble_eq_true rfl) dX12_classOf_112 (fun H locs hP hD hS => ?_)
                have fa_191 := fu12_6 (y := x_190) fa_175 (by constructor <;> omega)
                obtain ⟨f_193, ef_193⟩ : ∃ y : Nat → va_E, y = va_up f_167 o0 (.inr (12, [.ref a_1, .ref a_2, .ref a_3, .int v_4, .ref a_5, .int v_6, .int x_190, .int v_89, .int v_90, .int v_10, .int v_11, .int v_12, .int v_13, .int v_14, .int v_15, .ref a_16, .ref a_17, .ref a_18, .ref a_19, .ref a_20, .ref a_21, .ref a_22, .ref a_23, .int v_24, .int v_25, .int v_26, .int v_27, .int v_28, .ref a_29, .int v_30, .ref a_31, .ref a_32, .int v_33, .int v_34, .ref a_35, .int v_36, .ref a_37, .ref a_38, .int v_39, .int v_40, .ref a_41, .ref a_42, .ref a_43, .int v_44, .ref a_45, .ref a_46, .ref a_47, .ref a_48, .ref a_49, .ref a_50, .ref a_51, .ref a_52, .ref a_53, .int v_54, .int v_55, .ref a_56])) := ⟨_, rfl⟩
                have hP : va_P (dC, dI) vwCl (va_pl L f_193) H := by rw [ef_193]; exact hP
                have hD : va_D (fun q => q ∈ L) (va_pl L f_193) := by rw [ef_193]; exact hD
                have hG : GI (okc cI cL cZ cR cG cH L kd) kd L f_193 := by rw [ef_193]; exact hG.set o0 (mk_12 ko0 (fo12 fa_191))
                have hfo_194 : f_193 a_2 = .inl (cI, 1560, .inl g_185) := by rw [ef_193, up_ne (kd_ne ko0 ka_2 (by decide))]; exact hfo_184
                have hfr0 : ∀ b, kd b ≠ 12 → kd b ≠ 576 → f_193 b = f b := fun b q12 q576 => (congrFun ef_193 b).trans ((up_ne (fun e9 => q12 (by rw [e9]; exact ko0))).trans (hfr0 b q12 q576))
                have hrA12 : ∀ b, kd b = 12 → ∀ j, fldR (f_193 b) j = fldR (f b) j := fun b kb j => ((congrArg (fun x => fldR x j) (congrFun ef_193 b)).trans (fra_up (fun j => by rw [hfo_174]; exact fr_set (k := 6) rfl rfl) j b)).trans (hrA12 b kb j)
                have hfA12 : ∀ b, kd b = 12 → ∀ j, j ≠ 6 → j ≠ 7 → j ≠ 8 → fldI (f_193 b) j = fldI (f b) j := fun b kb j n6 n7 n8 => ((congrArg (fun x => fldI x j) (congrFun ef_193 b)).trans (fia_up (fun h9 => by rw [hfo_174]; exact fi_set (k := 6) rfl h9) n6 b)).trans (hfA12 b kb j n6 n7 n8)
                have hT0 : frel kd 576 8 f_193 a_2 := by rw [ef_193]; exact hT0.keep (fun b q => up_ne (kd_ne ko0 q (by decide)))
                have hfo_195 : f_193 o0 = .inr (12, [.ref a_1, .ref a_2, .ref a_3, .int v_4, .ref a_5, .int v_6, .int x_190, .int v_89, .int v_90, .int v_10, .int v_11, .int v_12, .int v_13, .int v_14, .int v_15, .ref a_16, .ref a_17, .ref a_18, .ref a_19, .ref a_20, .ref a_21, .ref a_22, .ref a_23, .int v_24, .int v_25, .int v_26, .int v_27, .int v_28, .ref a_29, .int v_30, .ref a_31, .ref a_32, .int v_33, .int v_34, .ref a_35, .int v_36, .ref a_37, .ref a_38, .int v_39, .int v_40, .ref a_41, .ref a_42, .ref a_43, .int v_44, .ref a_45, .ref a_46, .ref a_47, .ref a_48, .ref a_49, .ref a_50, .ref a_51, .ref a_52, .ref a_53, .int v_54, .int v_55, .ref a_56]) := by rw [ef_193]; exact up_self
                refine lv_goto (tgt := 38) hx hb dX12_classOf_115 (by decide) ?_
                exact ih_hloop_84 x_188 (by constructor <;> omega) f_193 hG _ _ hP hS hD hfr0 hrA12 hfA12 hT0 x_190 (by rw [hfo_195]; rfl) (by omega) (by omega) (by omega) ls (lv_sub hl [0, 3, 4] rfl)
              · skip
                rw [← Int32.toInt_inj, ti_0] at c_186
                refine lv_aload_n hx hb dX12_classOf_88 rfl (lv_at hl 4 rfl) ?_
                refine lv_iconst (v := 2) hx hb dX12_classOf_89 (by decide) ?_
                refine lv_aload_n hx hb dX12_classOf_90 rfl (lv_at hl 4 rfl) ?_
                refine tk_getP (D := (dC, dI)) (ci := 12) (v := .int v_173) (C := RX12) (T := TX12) (N := 56) hx hb hU inlX12 hown hK hP mo0 hfo_174 rfl 6 (by decide) (hU _ wd_566) (fun _ h9 => h9) rfl dX12_classOf_91 ?_
                refine tk_ViP (As := [.int 2, .int v_173]) (rest := []) (n := 2) hx hb hml hown hU hN hZ (s_X12_bad_k12 l (dC, dI) cI cL cZ cR cG cH Z kd L f_167 hG o0 mo0 ko0 2 v_173) wd_602 wd_603 wd_604 wd_5 wd_605 (by decide +kernel) ⟨Nat.le_of_ble_eq_true rfl, Nat.le_of_ble_eq_true rfl⟩ hK hP hD hS mo0 hfo_174 12 rfl rfl rfl hl.1 rfl (Nat.le_of_ble_eq_true rfl) dX12_classOf_94 ⟨Nat.le_of_ble_eq_true rfl, Nat.le_of_ble_eq_true rfl⟩ (fun x_196 f_197 H locs hw hP hD hS => ?_)
                obtain ⟨hG, bx_196, hkc_198, hra_199, hfa_200⟩ := hw
                have hfo_202 : f_197 a_2 = .inl (cI, 1560, .inl g_185) := by rw [hkc_198 a_2 (by rw [ka_2]; decide)]; exact hfo_184
                have hfr0 : ∀ b, kd b ≠ 12 → kd b ≠ 576 → f_197 b = f b := fun b q12 q576 => (hkc_198 b q12).trans (hfr0 b q12 q576)
                have hrA12 : ∀ b, kd b = 12 → ∀ j, fldR (f_197 b) j = fldR (f b) j := fun b kb j => (hra_199 b kb j).trans (hrA12 b kb j)
                have hfA12 : ∀ b, kd b = 12 → ∀ j, j ≠ 6 → j ≠ 7 → j ≠ 8 → fldI (f_197 b) j = fldI (f b) j := fun b kb j n6 n7 n8 => (hfa_200 b kb j n7 n8).trans (hfA12 b kb j n6 n7 n8)
                have hT0 : frel kd 576 8 f_197 a_2 := hT0.keep (fun b q => hkc_198 b (by rw [q]; decide))
                obtain ⟨v_203, v_204, hfo_205, fa_206⟩ := op12_7_8 hfo_174 (hG _ mo0) ko0 (hra_199 o0 ko0) (hfa_200 o0 ko0)
                have bv_203 : ((-2147483648) ≤ v_203.toInt ∧ v_203.toInt ≤ 2147483647) := ⟨i32_lo _, i32_hi _⟩
                have bv_204 : ((-2147483648) ≤ v_204.toInt ∧ v_204.toInt ≤ 2147483647) := ⟨i32_lo _, i32_hi _⟩
                exact W.zret (v := x_196) (ty := .boolean) hx hb hr (zb_n (by constructor <;> omega)) (fun t ht hW => ⟨⟨x_196, f_197, rfl, ⟨hG, (by constructor <;> omega), hfr0, hrA12, hfA12, (by intro w6 z6 e6 d6; rw [hfo_57] at e6; rw [hfo_205] at d6; obtain rfl := Option.some.inj e6; obtain rfl := Option.some.inj d6; omega), (fun d9 h9 => by rw [hfo_205] at h9; obtain rfl := Option.some.inj h9; exact hT0)⟩, by rw [ht]; exact hP, va_K.moved hW.alike hK, pl_in hD⟩, hS.F ht⟩) hS.2.2 dX12_classOf_97
            · skip
              rw [← Int32.toInt_inj, ti_0] at c_179
              refine lv_aload_n hx hb dX12_classOf_63 rfl (lv_at hl 3 rfl) ?_
              refine lv_iconst (v := 1) hx hb dX12_classOf_64 (by decide) ?_
              refine lv_aload_n hx hb dX12_classOf_65 rfl (lv_at hl 3 rfl) ?_
              refine tk_getP (D := (dC, dI)) (ci := 12) (v := .int v_173) (C := RX12) (T := TX12) (N := 56) hx hb hU inlX12 hown hK hP mo0 hfo_174 rfl 6 (by decide) (hU _ wd_566) (fun _ h9 => h9) rfl dX12_classOf_66 ?_
              refine tk_ViP (As := [.int 1, .int v_173]) (rest := []) (n := 2) hx hb hml hown hU hN hZ (s_X12_bad_k12 l (dC, dI) cI cL cZ cR cG cH Z kd L f_167 hG o0 mo0 ko0 1 v_173) wd_602 wd_603 wd_604 wd_5 wd_605 (by decide +kernel) ⟨Nat.le_of_ble_eq_true rfl, Nat.le_of_ble_eq_true rfl⟩ hK hP hD hS mo0 hfo_174 12 rfl rfl rfl hl.1 rfl (Nat.le_of_ble_eq_true rfl) dX12_classOf_69 ⟨Nat.le_of_ble_eq_true rfl, Nat.le_of_ble_eq_true rfl⟩ (fun x_207 f_208 H locs hw hP hD hS => ?_)
              obtain ⟨hG, bx_207, hkc_209, hra_210, hfa_211⟩ := hw
              have hfr0 : ∀ b, kd b ≠ 12 → kd b ≠ 576 → f_208 b = f b := fun b q12 q576 => (hkc_209 b q12).trans (hfr0 b q12 q576)
              have hrA12 : ∀ b, kd b = 12 → ∀ j, fldR (f_208 b) j = fldR (f b) j := fun b kb j => (hra_210 b kb j).trans (hrA12 b kb j)
              have hfA12 : ∀ b, kd b = 12 → ∀ j, j ≠ 6 → j ≠ 7 → j ≠ 8 → fldI (f_208 b) j = fldI (f b) j := fun b kb j n6 n7 n8 => (hfa_211 b kb j n7 n8).trans (hfA12 b kb j n6 n7 n8)
              have hT0 : frel kd 576 8 f_208 a_2 := hT0.keep (fun b q => hkc_209 b (by rw [q]; decide))
              obtain ⟨v_213, v_214, hfo_215, fa_216⟩ := op12_7_8 hfo_174 (hG _ mo0) ko0 (hra_210 o0 ko0) (hfa_211 o0 ko0)
              have bv_213 : ((-2147483648) ≤ v_213.toInt ∧ v_213.toInt ≤ 2147483647) := ⟨i32_lo _, i32_hi _⟩
              have bv_214 : ((-2147483648) ≤ v_214.toInt ∧ v_214.toInt ≤ 2147483647) := ⟨i32_lo _, i32_hi _⟩
              exact W.zret (v := x_207) (ty := .boolean) hx hb hr (zb_n (by constructor <;> omega)) (fun t ht hW => ⟨⟨x_207, f_208, rfl, ⟨hG, (by constructor <;> omega), hfr0, hrA12, hfA12, (by intro w6 z6 e6 d6; rw [hfo_57] at e6; rw [hfo_215] at d6; obtain rfl := Option.some.inj e6; obtain rfl := Option.some.inj d6; omega), (fun d9 h9 => by rw [hfo_215] at h9; obtain rfl := Option.some.inj h9; exact hT0)⟩, by rw [ht]; exact hP, va_K.moved hW.alike hK, pl_in hD⟩, hS.F ht⟩) hS.2.2 dX12_classOf_72
    exact hloop_84 601 0 (by decide) f_77 hG _ _ hP hS hD hfr0 hrA12 hfA12 hT0 x_74 (by rw [hfo_78]; rfl) (by (try rw [ti_0]) <;> omega) (by (try rw [ti_0]) <;> omega) (by (try rw [ti_0]) <;> omega) ls hl
  · skip
    rw [← Int32.toInt_inj, ti_0] at c_72
    refine lv_aload_n hx hb dX12_classOf_16 rfl (lv_at hl 1 rfl) ?_
    refine lv_iconst (v := 1) hx hb dX12_classOf_17 (by decide) ?_
    refine lv_aload_n hx hb dX12_classOf_18 rfl (lv_at hl 1 rfl) ?_
    refine tk_getP (D := (dC, dI)) (ci := 12) (v := .int v_66) (C := RX12) (T := TX12) (N := 56) hx hb hU inlX12 hown hK hP mo0 hfo_67 rfl 6 (by decide) (hU _ wd_566) (fun _ h9 => h9) rfl dX12_classOf_19 ?_
    refine tk_ViP (As := [.int 1, .int v_66]) (rest := []) (n := 2) hx hb hml hown hU hN hZ (s_X12_bad_k12 l (dC, dI) cI cL cZ cR cG cH Z kd L f_60 hG o0 mo0 ko0 1 v_66) wd_602 wd_603 wd_604 wd_5 wd_605 (by decide +kernel) ⟨Nat.le_of_ble_eq_true rfl, Nat.le_of_ble_eq_true rfl⟩ hK hP hD hS mo0 hfo_67 12 rfl rfl rfl hl.1 rfl (Nat.le_of_ble_eq_true rfl) dX12_classOf_22 ⟨Nat.le_of_ble_eq_true rfl, Nat.le_of_ble_eq_true rfl⟩ (fun x_217 f_218 H locs hw hP hD hS => ?_)
    obtain ⟨hG, bx_217, hkc_219, hra_220, hfa_221⟩ := hw
    have hfr0 : ∀ b, kd b ≠ 12 → kd b ≠ 576 → f_218 b = f b := fun b q12 q576 => (hkc_219 b q12).trans (hfr0 b q12 q576)
    have hrA12 : ∀ b, kd b = 12 → ∀ j, fldR (f_218 b) j = fldR (f b) j := fun b kb j => (hra_220 b kb j).trans (hrA12 b kb j)
    have hfA12 : ∀ b, kd b = 12 → ∀ j, j ≠ 6 → j ≠ 7 → j ≠ 8 → fldI (f_218 b) j = fldI (f b) j := fun b kb j n6 n7 n8 => (hfa_221 b kb j n7 n8).trans (hfA12 b kb j n6 n7 n8)
    have hT0 : frel kd 576 8 f_218 a_2 := hT0.keep (fun b q => hkc_219 b (by rw [q]; decide))
    obtain ⟨v_223, v_224, hfo_225, fa_226⟩ := op12_7_8 hfo_67 (hG _ mo0) ko0 (hra_220 o0 ko0) (hfa_221 o0 ko0)
    have bv_223 : ((-2147483648) ≤ v_223.toInt ∧ v_223.toInt ≤ 2147483647) := ⟨i32_lo _, i32_hi _⟩
    have bv_224 : ((-2147483648) ≤ v_224.toInt ∧ v_224.toInt ≤ 2147483647) := ⟨i32_lo _, i32_hi _⟩
    exact W.zret (v := x_217) (ty := .boolean) hx hb hr (zb_n (by constructor <;> omega)) (fun t ht hW => ⟨⟨x_217, f_218, rfl, ⟨hG, (by constructor <;> omega), hfr0, hrA12, hfA12, (by intro w6 z6 e6 d6; rw [hfo_57] at e6; rw [hfo_225] at d6; obtain rfl := Option.some.inj e6; obtain rfl := Option.some.inj d6; omega), (fun d9 h9 => by rw [hfo_225] at h9; obtain rfl := Option.some.inj h9; exact hT0)⟩, by rw [ht]; exact hP, va_K.moved hW.alike hK, pl_in hD⟩, hS.F ht⟩) hS.2.2 dX12_classOf_25
set_option maxHeartbeats 8000000 in
set_option maxRecDepth 100000 in
theorem s_X12_word_k12 (l : Launch) (D : va_G) (cI cL cZ cR cG cH : ClassId) (Z : zT) (kd : Nat → Nat) (L : List Nat) (f : Nat → va_E) (hG : GI (okc cI cL cZ cR cG cH L kd) kd L f) (o0 : Nat) (mo0 : o0 ∈ L) (ko0 : kd o0 = 12) (p1 : Int32) (bp1 : (60 ≤ p1.toInt ∧ p1.toInt ≤ 212)) (p2 : Int32) (bp2 : (0 ≤ p2.toInt ∧ p2.toInt ≤ 1)) (hxrel : p1.toInt % 8 = 4) (hxtr0 : ∀ d9, fldR (f o0) 1 = some d9 → frel kd 576 8 f d9) : mPI l D cI cL cZ cR cG cH Z yX12_word cX12_word 5 (some .boolean) 3 61 [.ref o0, .int p1, .int p2] L f (fun (r : Int32) (f9 : Nat → va_E) => GI (okc cI cL cZ cR cG cH L kd) kd L f9 ∧ (0 ≤ r.toInt ∧ r.toInt ≤ 1) ∧ (∀ b, kd b ≠ 12 → kd b ≠ 576 → f9 b = f b) ∧ (∀ b, kd b = 12 → ∀ j, fldR (f9 b) j = fldR (f b) j) ∧ (∀ b, kd b = 12 → ∀ j, j ≠ 6 → j ≠ 7 → j ≠ 8 → fldI (f9 b) j = fldI (f b) j) ∧ (∀ (w6 z6 : Int32), fldI (f o0) 6 = some w6 → fldI (f9 o0) 6 = some z6 → w6.toInt ≤ z6.toInt) ∧ (∀ d9, fldR (f9 o0) 1 = some d9 → frel kd 576 8 f9 d9)) := by
  obtain ⟨dC, dI⟩ := D
  refine Met.ofW (cc := cX12_word) (maxL := 5) (ret := (some .boolean)) (by decide) rfl ?_
  intro p e s m args below meth c s₁ B hml hv
  obtain ⟨rfl, hP, hK, hD0, hN, hZ⟩ := hv
  have hx := B.exec
  have hb := B.bytes
  have hr := B.returns
  have hU : ∀ w ∈ wsU, w.before _ s = true := fun w h => atoms_spec (ws := wU yX12_word cX12_word 5 (some .boolean)) B.pre w (List.mem_cons_of_mem _ h)
  have hown : s.vm.findClass RX12 = some m.cls := findClass_of_methodNamed B.named
  have hlocks := B.notSynchronized
  have hD := pl_in hD0
  have hS : va_S (fun q => q ∈ L) s.heap s.heap [] := va_S.rf
  have hl := lv_entry ([.ref o0, .int p1, .int p2]) (n := 5) (Nat.le_of_ble_eq_true rfl)
  rw [lg_entry_eq]
  generalize (lg_sl ([.ref o0, .int p1, .int p2]) ++ List.replicate (5 - (lg_sl ([.ref o0, .int p1, .int p2])).length) Slot.unset).toArray = ls at hl ⊢
  have hl : lv_has ls 5 [(0, .ref o0), (1, .int p1), (2, .int p2)] := hl
  have hfr0 : ∀ b, kd b ≠ 12 → kd b ≠ 576 → f b = f b := fun _ _ _ => rfl
  have hrA12 : ∀ b, kd b = 12 → ∀ j, fldR (f b) j = fldR (f b) j := fun _ _ _ => rfl
  have hfA12 : ∀ b, kd b = 12 → ∀ j, j ≠ 6 → j ≠ 7 → j ≠ 8 → fldI (f b) j = fldI (f b) j := fun _ _ _ _ _ _ => rfl
  obtain ⟨a_1, a_2, a_3, v_4, a_5, v_6, v_7, v_8, v_9, v_10, v_11, v_12, v_13, v_14, v_15, a_16, a_17, a_18, a_19, a_20, a_21, a_22, a_23, v_24, v_25, v_26, v_27, v_28, a_29, v_30, a_31, a_32, v_33, v_34, a_35, v_36, a_37, a_38, v_39, v_40, a_41, a_42, a_43, v_44, a_45, a_46, a_47, a_48, a_49, a_50, a_51, a_52, a_53, v_54, v_55, a_56, hfo_57, fa_58⟩ := un12 (hG _ mo0) ko0
  obtain ⟨ma_2, ka_2⟩ := fa12_1 fa_58
  have bv_7 : (0 ≤ v_7.toInt ∧ v_7.toInt ≤ 600) := fa12_6 fa_58
  have hT0 := hxtr0 a_2 (by rw [hfo_57]; rfl)
  refine lv_aload_n hx hb dX12_word_0 rfl (lv_at hl 0 rfl) ?_
  refine tk_getP (D := (dC, dI)) (ci := 12) (v := .ref a_2) (C := RX12) (T := TX12) (N := 56) hx hb hU inlX12 hown hK hP mo0 hfo_57 rfl 1 (by decide) (hU _ wd_170) (fun _ h9 => h9) rfl dX12_word_1 ?_
  refine lv_iload_n hx hb dX12_word_4 rfl (lv_at hl 1 rfl) ?_
  refine lv_iconst (v := 0) hx hb dX12_word_5 (by decide) ?_
  obtain ⟨g_60, hfo_59, hbg_60⟩ := un_576 (hG _ ma_2) ka_2
  refine tk_istP hx hb hK hP hD hS 0 ma_2 hfo_59 rfl (vp_in_iff.mpr (by constructor <;> omega)) dX12_word_6 (fun H locs hP hD hS => ?_)
  have hc9 := cl_I (i := p1) (by omega)
  obtain ⟨g_61, eqg_61⟩ : ∃ y : Nat → Int32, y = upd g_60 (Int32.toNatClampNeg p1) 0 := ⟨_, rfl⟩
  rw [← eqg_61] at hP hD
  have hbg_61 : wOK g_61 := by rw [eqg_61]; exact ⟨hbg_60.1.up (fun h1 h2 h3 => by exfalso; omega), hbg_60.2.1.up (fun h1 h2 h3 => by exfalso; omega), hbg_60.2.2.1.up (fun h1 h2 h3 => by exfalso; omega), hbg_60.2.2.2.1.up (fun h1 h2 h3 => by exfalso; omega), hbg_60.2.2.2.2.1.up (fun h1 h2 h3 => by exfalso; omega), hbg_60.2.2.2.2.2.1.up (fun h1 h2 h3 => by exfalso; omega), hbg_60.2.2.2.2.2.2.1.up (fun h1 h2 h3 => by exfalso; omega), hbg_60.2.2.2.2.2.2.2.1.up (fun h1 h2 h3 => by exfalso; omega), hbg_60.2.2.2.2.2.2.2.2.1.up (fun h1 h2 h3 => by exfalso; omega), hbg_60.2.2.2.2.2.2.2.2.2.1.up (fun h1 h2 h3 => by exfalso; omega), hbg_60.2.2.2.2.2.2.2.2.2.2.1.up (fun h1 h2 h3 => by (try rw [ti_0]); constructor <;> omega), hbg_60.2.2.2.2.2.2.2.2.2.2.2.1.up (fun h1 h2 h3 => by (try rw [ti_0]); constructor <;> omega), hbg_60.2.2.2.2.2.2.2.2.2.2.2.2.1.up (fun h1 h2 h3 => by exfalso; omega), hbg_60.2.2.2.2.2.2.2.2.2.2.2.2.2.1.up (fun h1 h2 h3 => by exfalso; omega), hbg_60.2.2.2.2.2.2.2.2.2.2.2.2.2.2.1.up (fun h1 h2 h3 => by exfalso; omega), hbg_60.2.2.2.2.2.2.2.2.2.2.2.2.2.2.2.up (fun h1 h2 h3 => by exfalso; omega)⟩
  obtain ⟨f_63, ef_63⟩ : ∃ y : Nat → va_E, y = va_up f a_2 (.inl (cI, 1560, .inl g_61)) := ⟨_, rfl⟩
  have hP : va_P (dC, dI) vwCl (va_pl L f_63) H := by rw [ef_63]; exact hP
  have hD : va_D (fun q => q ∈ L) (va_pl L f_63) := by rw [ef_63]; exact hD
  have hG : GI (okc cI cL cZ cR cG cH L kd) kd L f_63 := by rw [ef_63]; exact hG.set a_2 (mk_576 ka_2 ⟨_, rfl, hbg_61⟩)
  have hfo_64 : f_63 o0 = .inr (12, [.ref a_1, .ref a_2, .ref a_3, .int v_4, .ref a_5, .int v_6, .int v_7, .int v_8, .int v_9, .int v_10, .int v_11, .int v_12, .int v_13, .int v_14, .int v_15, .ref a_16, .ref a_17, .ref a_18, .ref a_19, .ref a_20, .ref a_21, .ref a_22, .ref a_23, .int v_24, .int v_25, .int v_26, .int v_27, .int v_28, .ref a_29, .int v_30, .ref a_31, .ref a_32, .int v_33, .int v_34, .ref a_35, .int v_36, .ref a_37, .ref a_38, .int v_39, .int v_40, .ref a_41, .ref a_42, .ref a_43, .int v_44, .ref a_45, .ref a_46, .ref a_47, .ref a_48, .ref a_49, .ref a_50, .ref a_51, .ref a_52, .ref a_53, .int v_54, .int v_55, .ref a_56]) := by rw [ef_63, up_ne (kd_ne ka_2 ko0 (by decide))]; exact hfo_57
  have hfr0 : ∀ b, kd b ≠ 12 → kd b ≠ 576 → f_63 b = f b := fun b q12 q576 => (congrFun ef_63 b).trans ((up_ne (fun e9 => q576 (by rw [e9]; exact ka_2))).trans (hfr0 b q12 q576))
  have hrA12 : ∀ b, kd b = 12 → ∀ j, fldR (f_63 b) j = fldR (f b) j := fun b kb j => (congrArg (fun x => fldR x j) ((congrFun ef_63 b).trans (up_ne (kd_ne ka_2 kb (by decide))))).trans (hrA12 b kb j)
  have hfA12 : ∀ b, kd b = 12 → ∀ j, j ≠ 6 → j ≠ 7 → j ≠ 8 → fldI (f_63 b) j = fldI (f b) j := fun b kb j n6 n7 n8 => (congrArg (fun x => fldI x j) ((congrFun ef_63 b).trans (up_ne (kd_ne ka_2 kb (by decide))))).trans (hfA12 b kb j n6 n7 n8)
  have hT0 : frel kd 576 8 f_63 a_2 := by rw [ef_63]; exact frel.mk ka_2 up_self (by rw [eqg_61]; exact (hT0.get hfo_59).up (hbg_60.2.1 16 (by decide) (by decide) (by decide)).2 (by omega) (by omega) (by omega) (fun h9 => by exfalso; omega))
  have hfo_65 : f_63 a_2 = .inl (cI, 1560, .inl g_61) := by rw [ef_63]; exact up_self
  have ql_66 : 0 = g_61 (Int32.toNatClampNeg p1) := by rw [eqg_61, pk_us]
  have hloop_72 : ∀ (n : Nat), ∀ (f_74 : Nat → va_E), GI (okc cI cL cZ cR cG cH L kd) kd L f_74 → ∀ (H : Heap) (locs : List Loc), va_P (dC, dI) vwCl (va_pl L f_74) H → va_S (fun q => q ∈ L) s.heap H locs → va_D (fun q => q ∈ L) (va_pl L f_74) → (∀ b, kd b ≠ 12 → kd b ≠ 576 → f_74 b = f b) → (∀ b, kd b = 12 → ∀ j, fldR (f_74 b) j = fldR (f b) j) → (∀ b, kd b = 12 → ∀ j, j ≠ 6 → j ≠ 7 → j ≠ 8 → fldI (f_74 b) j = fldI (f b) j) → frel kd 576 8 f_74 a_2 → ∀ (whloop_72_0_6 : Int32), fldI (f_74 o0) 6 = some whloop_72_0_6 → (v_7.toInt ≤ whloop_72_0_6.toInt) → (0 ≤ whloop_72_0_6.toInt ∧ whloop_72_0_6.toInt ≤ 600) → 600 - whloop_72_0_6.toInt < (n : Int) → ∀ (ls : Array Slot), lv_has ls 5 [(0, .ref o0), (1, .int p1), (2, .int p2)] → W p l e (headSpec (wU yX12_word cX12_word 5 (some .boolean)) { frames := 3, cells := 0, slots := 0, locals := 61 }).room s m [.ref o0, .int p1, .int p2].toArray below meth c H locs 0 0 (MQ below (va_Qi (fun (r : Int32) (f9 : Nat → va_E) => GI (okc cI cL cZ cR cG cH L kd) kd L f9 ∧ (0 ≤ r.toInt ∧ r.toInt ≤ 1) ∧ (∀ b, kd b ≠ 12 → kd b ≠ 576 → f9 b = f b) ∧ (∀ b, kd b = 12 → ∀ j, fldR (f9 b) j = fldR (f b) j) ∧ (∀ b, kd b = 12 → ∀ j, j ≠ 6 → j ≠ 7 → j ≠ 8 → fldI (f9 b) j = fldI (f b) j) ∧ (∀ (w6 z6 : Int32), fldI (f o0) 6 = some w6 → fldI (f9 o0) 6 = some z6 → w6.toInt ≤ z6.toInt) ∧ (∀ d9, fldR (f9 o0) 1 = some d9 → frel kd 576 8 f9 d9)) (qP (dC, dI) cI cL cZ cR cG cH L) (fun q => q ∈ L)) [.ref o0, .int p1, .int p2].toArray s 0 0 (fun q => q ∈ L)) (F0 m 7 ls []) := by
    intro n
    induction n with
    | zero => intro f_74 hG H locs hP hS hD hfr0 hrA12 hfA12 hT0 whloop_72_0_6 hghloop_72_0_6 hrelhloop_72_0 hrelhloop_72_1 hmuhloop_72 ls hl; exfalso; omega
    | succ n ih_hloop_72 =>
      intro f_74 hG H locs hP hS hD hfr0 hrA12 hfA12 hT0 whloop_72_0_6 hghloop_72_0_6 hrelhloop_72_0 hrelhloop_72_1 hmuhloop_72 ls hl
      obtain ⟨v_75, v_76, v_77, hfo_78, fa_79⟩ := op12_6_7_8 hfo_57 (hG _ mo0) ko0 (hrA12 o0 ko0) (hfA12 o0 ko0)
      have bv_75 : (0 ≤ v_75.toInt ∧ v_75.toInt ≤ 600) := fa12_6 fa_79
      have bv_76 : ((-2147483648) ≤ v_76.toInt ∧ v_76.toInt ≤ 2147483647) := ⟨i32_lo _, i32_hi _⟩
      have bv_77 : ((-2147483648) ≤ v_77.toInt ∧ v_77.toInt ≤ 2147483647) := ⟨i32_lo _, i32_hi _⟩
      obtain rfl : v_75 = whloop_72_0_6 := by rw [hfo_78] at hghloop_72_0_6; exact Option.some.inj hghloop_72_0_6
      refine lv_iload_n hx hb dX12_word_7 rfl (lv_at hl 2 rfl) ?_
      refine lv_if_eq (tgt := 20) hx hb dX12_word_8 (by decide) (fun c_80 => ?_) (fun c_80 => ?_)
      · skip
        rw [← Int32.toInt_inj, ti_0] at c_80
        refine lv_aload_n hx hb dX12_word_20 rfl (lv_at hl 0 rfl) ?_
        refine tk_ViP (As := []) (rest := []) (n := 0) hx hb hml hown hU hN hZ (s_X12_sign_k12 l (dC, dI) cI cL cZ cR cG cH Z kd L f_74 hG o0 mo0 ko0) wd_573 wd_574 wd_575 wd_5 wd_576 (by decide +kernel) ⟨Nat.le_of_ble_eq_true rfl, Nat.le_of_ble_eq_true rfl⟩ hK hP hD hS mo0 hfo_78 12 rfl rfl rfl hl.1 rfl (Nat.le_of_ble_eq_true rfl) dX12_word_21 ⟨Nat.le_of_ble_eq_true rfl, Nat.le_of_ble_eq_true rfl⟩ (fun x_81 f_82 H locs hw hP hD hS => ?_)
        obtain ⟨hG, bx_81, hkc_83, hra_84, hfa_85, hpost_86⟩ := hw
        have hfr0 : ∀ b, kd b ≠ 12 → kd b ≠ 576 → f_82 b = f b := fun b q12 q576 => (hkc_83 b q12).trans (hfr0 b q12 q576)
        have hrA12 : ∀ b, kd b = 12 → ∀ j, fldR (f_82 b) j = fldR (f b) j := fun b kb j => (hra_84 b kb j).trans (hrA12 b kb j)
        have hfA12 : ∀ b, kd b = 12 → ∀ j, j ≠ 6 → j ≠ 7 → j ≠ 8 → fldI (f_82 b) j = fldI (f b) j := fun b kb j n6 n7 n8 => (hfa_85 b kb j n6).trans (hfA12 b kb j n6 n7 n8)
        have hT0 : frel kd 576 8 f_82 a_2 := hT0.keep (fun b q => hkc_83 b (by rw [q]; decide))
        obtain ⟨v_88, hfo_89, fa_90⟩ := op12_6 hfo_78 (hG _ mo0) ko0 (hra_84 o0 ko0) (hfa_85 o0 ko0)
        have bv_88 : (0 ≤ v_88.toInt ∧ v_88.toInt ≤ 600) := fa12_6 fa_90
        have hqhpost_86 := hpost_86 v_75 v_88 (by rw [hfo_78]; rfl) (by rw [hfo_89]; rfl)
        refine lv_bipush (v := 59) hx hb dX12_word_24 (by decide) ?_
        refine lv_icmp_eq (tgt := 135) hx hb dX12_word_26 (by decide) (fun c_91 => ?_) (fun c_91 => ?_)
        · skip
          rw [← Int32.toInt_inj, ti_59] at c_91
          refine lv_iconst (v := 1) hx hb dX12_word_135 (by decide) ?_
          exact W.zret (v := 1) (ty := .boolean) hx hb hr rfl (fun t ht hW => ⟨⟨1, f_82, rfl, ⟨hG, (by decide), hfr0, hrA12, hfA12, (by intro w6 z6 e6 d6; rw [hfo_57] at e6; rw [hfo_89] at d6; obtain rfl := Option.some.inj e6; obtain rfl := Option.some.inj d6; (try rw [ti_1]) <;> omega), (fun d9 h9 => by rw [hfo_89] at h9; obtain rfl := Option.some.inj h9; exact hT0)⟩, by rw [ht]; exact hP, va_K.moved hW.alike hK, pl_in hD⟩, hS.F ht⟩) hS.2.2 dX12_word_136
        · skip
          rw [← Int32.toInt_inj, ti_59] at c_91
          refine lv_aload_n hx hb dX12_word_29 rfl (lv_at hl 0 rfl) ?_
          refine tk_ViP (As := []) (rest := []) (n := 0) hx hb hml hown hU hN hZ (s_X12_sign_k12 l (dC, dI) cI cL cZ cR cG cH Z kd L f_82 hG o0 mo0 ko0) wd_573 wd_574 wd_575 wd_5 wd_576 (by decide +kernel) ⟨Nat.le_of_ble_eq_true rfl, Nat.le_of_ble_eq_true rfl⟩ hK hP hD hS mo0 hfo_89 12 rfl rfl rfl hl.1 rfl (Nat.le_of_ble_eq_true rfl) dX12_word_30 ⟨Nat.le_of_ble_eq_true rfl, Nat.le_of_ble_eq_true rfl⟩ (fun x_92 f_93 H locs hw hP hD hS => ?_)
          obtain ⟨hG, bx_92, hkc_94, hra_95, hfa_96, hpost_97⟩ := hw
          have hfr0 : ∀ b, kd b ≠ 12 → kd b ≠ 576 → f_93 b = f b := fun b q12 q576 => (hkc_94 b q12).trans (hfr0 b q12 q576)
          have hrA12 : ∀ b, kd b = 12 → ∀ j, fldR (f_93 b) j = fldR (f b) j := fun b kb j => (hra_95 b kb j).trans (hrA12 b kb j)
          have hfA12 : ∀ b, kd b = 12 → ∀ j, j ≠ 6 → j ≠ 7 → j ≠ 8 → fldI (f_93 b) j = fldI (f b) j := fun b kb j n6 n7 n8 => (hfa_96 b kb j n6).trans (hfA12 b kb j n6 n7 n8)
          have hT0 : frel kd 576 8 f_93 a_2 := hT0.keep (fun b q => hkc_94 b (by rw [q]; decide))
          obtain ⟨v_99, hfo_100, fa_101⟩ := op12_6 hfo_89 (hG _ mo0) ko0 (hra_95 o0 ko0) (hfa_96 o0 ko0)
          have bv_99 : (0 ≤ v_99.toInt ∧ v_99.toInt ≤ 600) := fa12_6 fa_101
          have hqhpost_97 := hpost_97 v_88 v_99 (by rw [hfo_89]; rfl) (by rw [hfo_100]; rfl)
          refine lv_istore_n (lv' := [(3, .int x_92), (0, .ref o0), (1, .int p1), (2, .int p2)]) hx hb dX12_word_33 rfl hl (by decide) rfl (fun ls hl => ?_)
          refine lv_iload_n hx hb dX12_word_34 rfl (lv_at hl 0 rfl) ?_
          refine tk_SiP (As := [.int x_92]) (rest := []) (n := 1) hx hb hml hown hU hN hZ (s_X12_isSmall l (dC, dI) cI cL cZ cR cG cH Z kd L f_93 hG x_92) wd_589 wd_590 wd_5 wd_591 (by decide +kernel) ⟨Nat.le_of_ble_eq_true rfl, Nat.le_of_ble_eq_true rfl⟩ hK hP hD hS rfl hl.1 rfl (Nat.le_of_ble_eq_true rfl) dX12_word_35 ⟨Nat.le_of_ble_eq_true rfl, Nat.le_of_ble_eq_true rfl⟩ (fun x_102 f_103 H locs hw hP hD hS => ?_)
          obtain ⟨rfl, bx_102, relx_102⟩ := hw
          refine lv_if_ne (tgt := 51) hx hb dX12_word_38 (by decide) (fun c_105 => ?_) (fun c_105 => ?_)
          · skip
            rw [← Int32.toInt_inj, ti_0] at c_105
            refine lv_aload_n hx hb dX12_word_51 rfl (lv_at hl 1 rfl) ?_
            refine tk_getP (D := (dC, dI)) (ci := 12) (v := .ref a_2) (C := RX12) (T := TX12) (N := 56) hx hb hU inlX12 hown hK hP mo0 hfo_100 rfl 1 (by decide) (hU _ wd_170) (fun _ h9 => h9) rfl dX12_word_52 ?_
            refine lv_iload_n hx hb dX12_word_55 rfl (lv_at hl 0 rfl) ?_
            refine tk_SiP (As := [.ref a_2, .int x_92]) (rest := []) (n := 2) hx hb hml hown hU hN hZ (s_X12_letterIn_a576 l (dC, dI) cI cL cZ cR cG cH Z kd L f_93 hG a_2 ma_2 ka_2 x_92) wd_606 wd_607 wd_5 wd_608 (by decide +kernel) ⟨Nat.le_of_ble_eq_true rfl, Nat.le_of_ble_eq_true rfl⟩ hK hP hD hS rfl hl.1 rfl (Nat.le_of_ble_eq_true rfl) dX12_word_56 ⟨Nat.le_of_ble_eq_true rfl, Nat.le_of_ble_eq_true rfl⟩ (fun x_106 f_107 H locs hw hP hD hS => ?_)
            obtain ⟨rfl, bx_106, hxp_108⟩ := hw
            obtain ⟨g_111, hfo_110, hbg_111⟩ := un_576 (hG _ ma_2) ka_2
            have hlix_106 := hxp_108 g_111 hfo_110
            refine lv_istore (lv' := [(4, .int x_106), (3, .int x_92), (0, .ref o0), (1, .int p1), (2, .int p2)]) hx hb dX12_word_59 hl (by decide) rfl (fun ls hl => ?_)
            refine lv_iload hx hb dX12_word_61 (lv_at hl 0 rfl) ?_
            refine lv_if_ne (tgt := 76) hx hb dX12_word_63 (by decide) (fun c_112 => ?_) (fun c_112 => ?_)
            · skip
              rw [← Int32.toInt_inj, ti_0] at c_112
              refine lv_aload_n hx hb dX12_word_76 rfl (lv_at hl 2 rfl) ?_
              refine tk_getP (D := (dC, dI)) (ci := 12) (v := .ref a_2) (C := RX12) (T := TX12) (N := 56) hx hb hU inlX12 hown hK hP mo0 hfo_100 rfl 1 (by decide) (hU _ wd_170) (fun _ h9 => h9) rfl dX12_word_77 ?_
              refine lv_iload_n hx hb dX12_word_80 rfl (lv_at hl 3 rfl) ?_
              refine tk_ildP hx hb hK hP 0 ma_2 hfo_110 rfl (vp_in_iff.mpr (by constructor <;> omega)) dX12_word_81 ?_
              refine lv_topi (fun x_113 ex_113 => ?_)
              have bx_113 : (0 ≤ x_113.toInt ∧ x_113.toInt ≤ 6) := by have hc9 := cl_I (i := p1) (by omega); rw [ex_113]; exact hbg_111.2.2.2.2.2.2.2.2.2.2.2.1 _ (by omega) (by omega) (by omega)
              refine lv_bipush (v := 6) hx hb dX12_word_82 (by decide) ?_
              refine lv_icmp_ne (tgt := 97) hx hb dX12_word_84 (by decide) (fun c_114 => ?_) (fun c_114 => ?_)
              · skip
                rw [← Int32.toInt_inj, ti_6] at c_114
                refine lv_aload_n hx hb dX12_word_97 rfl (lv_at hl 2 rfl) ?_
                refine tk_getP (D := (dC, dI)) (ci := 12) (v := .ref a_2) (C := RX12) (T := TX12) (N := 56) hx hb hU inlX12 hown hK hP mo0 hfo_100 rfl 1 (by decide) (hU _ wd_170) (fun _ h9 => h9) rfl dX12_word_98 ?_
                refine lv_iload_n hx hb dX12_word_101 rfl (lv_at hl 3 rfl) ?_
                refine lv_dup2_11 hx hb dX12_word_102 rfl rfl ?_
                refine tk_ildP hx hb hK hP 0 ma_2 hfo_110 rfl (vp_in_iff.mpr (by constructor <;> omega)) dX12_word_103 ?_
                refine tk_topi (y := x_113) ex_113.symm ?_
                refine lv_iconst (v := 1) hx hb dX12_word_104 (by decide) ?_
                refine lv_iadd hx hb dX12_word_105 ?_
                refine lv_topi (fun x_115 ex_115 => ?_)
                have hx_115 : x_115.toInt = x_113.toInt + 1 := by rw [ex_115, ad_I (by rw [ti_1]; omega) (by rw [ti_1]; omega), ti_1]
                have bx_115 : (1 ≤ x_115.toInt ∧ x_115.toInt ≤ 6) := by constructor <;> omega
                refine tk_istP hx hb hK hP hD hS 0 ma_2 hfo_110 rfl (vp_in_iff.mpr (by constructor <;> omega)) dX12_word_106 (fun H locs hP hD hS => ?_)
                have hc9 := cl_I (i := p1) (by omega)
                obtain ⟨g_116, eqg_116⟩ : ∃ y : Nat → Int32, y = upd g_111 (Int32.toNatClampNeg p1) x_115 := ⟨_, rfl⟩
                rw [← eqg_116] at hP hD
                have hbg_116 : wOK g_116 := by rw [eqg_116]; exact ⟨hbg_111.1.up (fun h1 h2 h3 => by exfalso; omega), hbg_111.2.1.up (fun h1 h2 h3 => by exfalso; omega), hbg_111.2.2.1.up (fun h1 h2 h3 => by exfalso; omega), hbg_111.2.2.2.1.up (fun h1 h2 h3 => by exfalso; omega), hbg_111.2.2.2.2.1.up (fun h1 h2 h3 => by exfalso; omega), hbg_111.2.2.2.2.2.1.up (fun h1 h2 h3 => by exfalso; omega), hbg_111.2.2.2.2.2.2.1.up (fun h1 h2 h3 => by exfalso; omega), hbg_111.2.2.2.2.2.2.2.1.up (fun h1 h2 h3 => by exfalso; omega), hbg_111.2.2.2.2.2.2.2.2.1.up (fun h1 h2 h3 => by exfalso; omega), hbg_111.2.2.2.2.2.2.2.2.2.1.up (fun h1 h2 h3 => by exfalso; omega), hbg_111.2.2.2.2.2.2.2.2.2.2.1.up (fun h1 h2 h3 => by constructor <;> omega), hbg_111.2.2.2.2.2.2.2.2.2.2.2.1.up (fun h1 h2 h3 => by constructor <;> omega), hbg_111.2.2.2.2.2.2.2.2.2.2.2.2.1.up (fun h1 h2 h3 => by exfalso; omega), hbg_111.2.2.2.2.2.2.2.2.2.2.2.2.2.1.up (fun h1 h2 h3 => by exfalso; omega), hbg_111.2.2.2.2.2.2.2.2.2.2.2.2.2.2.1.up (fun h1 h2 h3 => by exfalso; omega), hbg_111.2.2.2.2.2.2.2.2.2.2.2.2.2.2.2.up (fun h1 h2 h3 => by exfalso; omega)⟩
                obtain ⟨f_118, ef_118⟩ : ∃ y : Nat → va_E, y = va_up f_93 a_2 (.inl (cI, 1560, .inl g_116)) := ⟨_, rfl⟩
                have hP : va_P (dC, dI) vwCl (va_pl L f_118) H := by rw [ef_118]; exact hP
                have hD : va_D (fun q => q ∈ L) (va_pl L f_118) := by rw [ef_118]; exact hD
                have hG : GI (okc cI cL cZ cR cG cH L kd) kd L f_118 := by rw [ef_118]; exact hG.set a_2 (mk_576 ka_2 ⟨_, rfl, hbg_116⟩)
                have hfo_119 : f_118 o0 = .inr (12, [.ref a_1, .ref a_2, .ref a_3, .int v_4, .ref a_5, .int v_6, .int v_99, .int v_76, .int v_77, .int v_10, .int v_11, .int v_12, .int v_13, .int v_14, .int v_15, .ref a_16, .ref a_17, .ref a_18, .ref a_19, .ref a_20, .ref a_21, .ref a_22, .ref a_23, .int v_24, .int v_25, .int v_26, .int v_27, .int v_28, .ref a_29, .int v_30, .ref a_31, .ref a_32, .int v_33, .int v_34, .ref a_35, .int v_36, .ref a_37, .ref a_38, .int v_39, .int v_40, .ref a_41, .ref a_42, .ref a_43, .int v_44, .ref a_45, .ref a_46, .ref a_47, .ref a_48, .ref a_49, .ref a_50, .ref a_51, .ref a_52, .ref a_53, .int v_54, .int v_55, .ref a_56]) := by rw [ef_118, up_ne (kd_ne ka_2 ko0 (by decide))]; exact hfo_100
                have hfr0 : ∀ b, kd b ≠ 12 → kd b ≠ 576 → f_118 b = f b := fun b q12 q576 => (congrFun ef_118 b).trans ((up_ne (fun e9 => q576 (by rw [e9]; exact ka_2))).trans (hfr0 b q12 q576))
                have hrA12 : ∀ b, kd b = 12 → ∀ j, fldR (f_118 b) j = fldR (f b) j := fun b kb j => (congrArg (fun x => fldR x j) ((congrFun ef_118 b).trans (up_ne (kd_ne ka_2 kb (by decide))))).trans (hrA12 b kb j)
                have hfA12 : ∀ b, kd b = 12 → ∀ j, j ≠ 6 → j ≠ 7 → j ≠ 8 → fldI (f_118 b) j = fldI (f b) j := fun b kb j n6 n7 n8 => (congrArg (fun x => fldI x j) ((congrFun ef_118 b).trans (up_ne (kd_ne ka_2 kb (by decide))))).trans (hfA12 b kb j n6 n7 n8)
                have hT0 : frel kd 576 8 f_118 a_2 := by rw [ef_118]; exact frel.mk ka_2 up_self (by rw [eqg_116]; exact (hT0.get hfo_110).up (hbg_111.2.1 16 (by decide) (by decide) (by decide)).2 (by omega) (by omega) (by omega) (fun h9 => by exfalso; omega))
                have hfo_120 : f_118 a_2 = .inl (cI, 1560, .inl g_116) := by rw [ef_118]; exact up_self
                have ql_121 : x_115 = g_116 (Int32.toNatClampNeg p1) := by rw [eqg_116, pk_us]
                refine lv_aload_n hx hb dX12_word_107 rfl (lv_at hl 2 rfl) ?_
                refine tk_getP (D := (dC, dI)) (ci := 12) (v := .ref a_2) (C := RX12) (T := TX12) (N := 56) hx hb hU inlX12 hown hK hP mo0 hfo_119 rfl 1 (by decide) (hU _ wd_170) (fun _ h9 => h9) rfl dX12_word_108 ?_
                refine lv_iload_n hx hb dX12_word_111 rfl (lv_at hl 3 rfl) ?_
                refine lv_aload_n hx hb dX12_word_112 rfl (lv_at hl 2 rfl) ?_
                refine tk_getP (D := (dC, dI)) (ci := 12) (v := .ref a_2) (C := RX12) (T := TX12) (N := 56) hx hb hU inlX12 hown hK hP mo0 hfo_119 rfl 1 (by decide) (hU _ wd_170) (fun _ h9 => h9) rfl dX12_word_113 ?_
                refine lv_iload_n hx hb dX12_word_116 rfl (lv_at hl 3 rfl) ?_
                refine tk_ildP hx hb hK hP 0 ma_2 hfo_120 rfl (vp_in_iff.mpr (by constructor <;> omega)) dX12_word_117 ?_
                refine tk_topi (y := x_115) ql_121.symm ?_
                refine lv_iadd hx hb dX12_word_118 ?_
                refine lv_topi (fun x_122 ex_122 => ?_)
                have hx_122 : x_122.toInt = p1.toInt + x_115.toInt := by rw [ex_122, ad_I (by omega) (by omega)]
                have bx_122 : (61 ≤ x_122.toInt ∧ x_122.toInt ≤ 218) := by constructor <;> omega
                refine lv_iload hx hb dX12_word_119 (lv_at hl 0 rfl) ?_
                refine tk_istP hx hb hK hP hD hS 0 ma_2 hfo_120 rfl (vp_in_iff.mpr (by constructor <;> omega)) dX12_word_121 (fun H locs hP hD hS => ?_)
                have hc9 := cl_I (i := x_122) (by omega)
                obtain ⟨g_123, eqg_123⟩ : ∃ y : Nat → Int32, y = upd g_116 (Int32.toNatClampNeg x_122) x_106 := ⟨_, rfl⟩
                rw [← eqg_123] at hP hD
                have hbg_123 : wOK g_123 := by rw [eqg_123]; exact ⟨hbg_116.1.up (fun h1 h2 h3 => by exfalso; omega), hbg_116.2.1.up (fun h1 h2 h3 => by exfalso; omega), hbg_116.2.2.1.up (fun h1 h2 h3 => by exfalso; omega), hbg_116.2.2.2.1.up (fun h1 h2 h3 => by exfalso; omega), hbg_116.2.2.2.2.1.up (fun h1 h2 h3 => by exfalso; omega), hbg_116.2.2.2.2.2.1.up (fun h1 h2 h3 => by exfalso; omega), hbg_116.2.2.2.2.2.2.1.up (fun h1 h2 h3 => by exfalso; omega), hbg_116.2.2.2.2.2.2.2.1.up (fun h1 h2 h3 => by exfalso; omega), hbg_116.2.2.2.2.2.2.2.2.1.up (fun h1 h2 h3 => by exfalso; omega), hbg_116.2.2.2.2.2.2.2.2.2.1.up (fun h1 h2 h3 => by exfalso; omega), hbg_116.2.2.2.2.2.2.2.2.2.2.1.up (fun h1 h2 h3 => by constructor <;> omega), hbg_116.2.2.2.2.2.2.2.2.2.2.2.1.up (fun h1 h2 h3 => by first | (exfalso; omega) | (constructor <;> omega)), hbg_116.2.2.2.2.2.2.2.2.2.2.2.2.1.up (fun h1 h2 h3 => by exfalso; omega), hbg_116.2.2.2.2.2.2.2.2.2.2.2.2.2.1.up (fun h1 h2 h3 => by exfalso; omega), hbg_116.2.2.2.2.2.2.2.2.2.2.2.2.2.2.1.up (fun h1 h2 h3 => by exfalso; omega), hbg_116.2.2.2.2.2.2.2.2.2.2.2.2.2.2.2.up (fun h1 h2 h3 => by exfalso; omega)⟩
                obtain ⟨f_125, ef_125⟩ : ∃ y : Nat → va_E, y = va_up f_118 a_2 (.inl (cI, 1560, .inl g_123)) := ⟨_, rfl⟩
                have hP : va_P (dC, dI) vwCl (va_pl L f_125) H := by rw [ef_125]; exact hP
                have hD : va_D (fun q => q ∈ L) (va_pl L f_125) := by rw [ef_125]; exact hD
                have hG : GI (okc cI cL cZ cR cG cH L kd) kd L f_125 := by rw [ef_125]; exact hG.set a_2 (mk_576 ka_2 ⟨_, rfl, hbg_123⟩)
                have hfo_126 : f_125 o0 = .inr (12, [.ref a_1, .ref a_2, .ref a_3, .int v_4, .ref a_5, .int v_6, .int v_99, .int v_76, .int v_77, .int v_10, .int v_11, .int v_12, .int v_13, .int v_14, .int v_15, .ref a_16, .ref a_17, .ref a_18, .ref a_19, .ref a_20, .ref a_21, .ref a_22, .ref a_23, .int v_24, .int v_25, .int v_26, .int v_27, .int v_28, .ref a_29, .int v_30, .ref a_31, .ref a_32, .int v_33, .int v_34, .ref a_35, .int v_36, .ref a_37, .ref a_38, .int v_39, .int v_40, .ref a_41, .ref a_42, .ref a_43, .int v_44, .ref a_45, .ref a_46, .ref a_47, .ref a_48, .ref a_49, .ref a_50, .ref a_51, .ref a_52, .ref a_53, .int v_54, .int v_55, .ref a_56]) := by rw [ef_125, up_ne (kd_ne ka_2 ko0 (by decide))]; exact hfo_119
                have hfr0 : ∀ b, kd b ≠ 12 → kd b ≠ 576 → f_125 b = f b := fun b q12 q576 => (congrFun ef_125 b).trans ((up_ne (fun e9 => q576 (by rw [e9]; exact ka_2))).trans (hfr0 b q12 q576))
                have hrA12 : ∀ b, kd b = 12 → ∀ j, fldR (f_125 b) j = fldR (f b) j := fun b kb j => (congrArg (fun x => fldR x j) ((congrFun ef_125 b).trans (up_ne (kd_ne ka_2 kb (by decide))))).trans (hrA12 b kb j)
                have hfA12 : ∀ b, kd b = 12 → ∀ j, j ≠ 6 → j ≠ 7 → j ≠ 8 → fldI (f_125 b) j = fldI (f b) j := fun b kb j n6 n7 n8 => (congrArg (fun x => fldI x j) ((congrFun ef_125 b).trans (up_ne (kd_ne ka_2 kb (by decide))))).trans (hfA12 b kb j n6 n7 n8)
                have hT0 : frel kd 576 8 f_125 a_2 := by rw [ef_125]; exact frel.mk ka_2 up_self (by rw [eqg_123]; exact (hT0.get hfo_120).up (hbg_116.2.1 16 (by decide) (by decide) (by decide)).2 (by omega) (by omega) (by omega) (fun h9 => by exfalso; omega))
                have hfo_127 : f_125 a_2 = .inl (cI, 1560, .inl g_123) := by rw [ef_125]; exact up_self
                have ql_128 : x_106 = g_123 (Int32.toNatClampNeg x_122) := by rw [eqg_123, pk_us]
                have hclc_129 : (0 ≤ v_99.toInt ∧ v_99.toInt ≤ 599) := by constructor <;> omega
                refine lv_aload_n hx hb dX12_word_122 rfl (lv_at hl 2 rfl) ?_
                refine lv_dup hx hb dX12_word_123 rfl ?_
                refine tk_getP (D := (dC, dI)) (ci := 12) (v := .int v_99) (C := RX12) (T := TX12) (N := 56) hx hb hU inlX12 hown hK hP mo0 hfo_126 rfl 6 (by decide) (hU _ wd_566) (fun _ h9 => h9) rfl dX12_word_124 ?_
                refine lv_iconst (v := 1) hx hb dX12_word_127 (by decide) ?_
                refine lv_iadd hx hb dX12_word_128 ?_
                refine lv_topi (fun x_130 ex_130 => ?_)
                have hx_130 : x_130.toInt = v_99.toInt + 1 := by rw [ex_130, ad_I (by rw [ti_1]; omega) (by rw [ti_1]; omega), ti_1]
                have bx_130 : (1 ≤ x_130.toInt ∧ x_130.toInt ≤ 600) := by constructor <;> omega
                refine tk_putP (D := (dC, dI)) (ci := 12) (v := .int x_130) (ty := .int) (C := RX12) (T := TX12) (N := 56) hx hb hU inlX12 tyX12 tyX12_ok nmX12 hown hK hP hD hS mo0 hfo_126 rfl 6 (by decide) (hU _ wd_566) (fun _ h9 => h9) rfl (by decide +kernel) rfl rfl (Nat.le_of_ble_eq_true rfl) dX12_word_129 (fun H locs hP hD hS => ?_)
                have fa_131 := fu12_6 (y := x_130) fa_101 (by constructor <;> omega)
                obtain ⟨f_133, ef_133⟩ : ∃ y : Nat → va_E, y = va_up f_125 o0 (.inr (12, [.ref a_1, .ref a_2, .ref a_3, .int v_4, .ref a_5, .int v_6, .int x_130, .int v_76, .int v_77, .int v_10, .int v_11, .int v_12, .int v_13, .int v_14, .int v_15, .ref a_16, .ref a_17, .ref a_18, .ref a_19, .ref a_20, .ref a_21, .ref a_22, .ref a_23, .int v_24, .int v_25, .int v_26, .int v_27, .int v_28, .ref a_29, .int v_30, .ref a_31, .ref a_32, .int v_33, .int v_34, .ref a_35, .int v_36, .ref a_37, .ref a_38, .int v_39, .int v_40, .ref a_41, .ref a_42, .ref a_43, .int v_44, .ref a_45, .ref a_46, .ref a_47, .ref a_48, .ref a_49, .ref a_50, .ref a_51, .ref a_52, .ref a_53, .int v_54, .int v_55, .ref a_56])) := ⟨_, rfl⟩
                have hP : va_P (dC, dI) vwCl (va_pl L f_133) H := by rw [ef_133]; exact hP
                have hD : va_D (fun q => q ∈ L) (va_pl L f_133) := by rw [ef_133]; exact hD
                have hG : GI (okc cI cL cZ cR cG cH L kd) kd L f_133 := by rw [ef_133]; exact hG.set o0 (mk_12 ko0 (fo12 fa_131))
                have hfo_134 : f_133 a_2 = .inl (cI, 1560, .inl g_123) := by rw [ef_133, up_ne (kd_ne ko0 ka_2 (by decide))]; exact hfo_127
                have hfr0 : ∀ b, kd b ≠ 12 → kd b ≠ 576 → f_133 b = f b := fun b q12 q576 => (congrFun ef_133 b).trans ((up_ne (fun e9 => q12 (by rw [e9]; exact ko0))).trans (hfr0 b q12 q576))
                have hrA12 : ∀ b, kd b = 12 → ∀ j, fldR (f_133 b) j = fldR (f b) j := fun b kb j => ((congrArg (fun x => fldR x j) (congrFun ef_133 b)).trans (fra_up (fun j => by rw [hfo_126]; exact fr_set (k := 6) rfl rfl) j b)).trans (hrA12 b kb j)
                have hfA12 : ∀ b, kd b = 12 → ∀ j, j ≠ 6 → j ≠ 7 → j ≠ 8 → fldI (f_133 b) j = fldI (f b) j := fun b kb j n6 n7 n8 => ((congrArg (fun x => fldI x j) (congrFun ef_133 b)).trans (fia_up (fun h9 => by rw [hfo_126]; exact fi_set (k := 6) rfl h9) n6 b)).trans (hfA12 b kb j n6 n7 n8)
                have hT0 : frel kd 576 8 f_133 a_2 := by rw [ef_133]; exact hT0.keep (fun b q => up_ne (kd_ne ko0 q (by decide)))
                have hfo_135 : f_133 o0 = .inr (12, [.ref a_1, .ref a_2, .ref a_3, .int v_4, .ref a_5, .int v_6, .int x_130, .int v_76, .int v_77, .int v_10, .int v_11, .int v_12, .int v_13, .int v_14, .int v_15, .ref a_16, .ref a_17, .ref a_18, .ref a_19, .ref a_20, .ref a_21, .ref a_22, .ref a_23, .int v_24, .int v_25, .int v_26, .int v_27, .int v_28, .ref a_29, .int v_30, .ref a_31, .ref a_32, .int v_33, .int v_34, .ref a_35, .int v_36, .ref a_37, .ref a_38, .int v_39, .int v_40, .ref a_41, .ref a_42, .ref a_43, .int v_44, .ref a_45, .ref a_46, .ref a_47, .ref a_48, .ref a_49, .ref a_50, .ref a_51, .ref a_52, .ref a_53, .int v_54, .int v_55, .ref a_56]) := by rw [ef_133]; exact up_self
                refine lv_goto (tgt := 7) hx hb dX12_word_132 (by decide) ?_
                exact ih_hloop_72 f_133 hG _ _ hP hS hD hfr0 hrA12 hfA12 hT0 x_130 (by rw [hfo_135]; rfl) (by omega) (by omega) (by omega) ls (lv_sub hl [2, 3, 4] rfl)
              · skip
                rw [← Int32.toInt_inj, ti_6] at c_114
                refine lv_aload_n hx hb dX12_word_87 rfl (lv_at hl 2 rfl) ?_
                refine lv_iconst (v := 3) hx hb dX12_word_88 (by decide) ?_
                refine lv_aload_n hx hb dX12_word_89 rfl (lv_at hl 2 rfl) ?_
                refine tk_getP (D := (dC, dI)) (ci := 12) (v := .int v_99) (C := RX12) (T := TX12) (N := 56) hx hb hU inlX12 hown hK hP mo0 hfo_100 rfl 6 (by decide) (hU _ wd_566) (fun _ h9 => h9) rfl dX12_word_90 ?_
                refine tk_ViP (As := [.int 3, .int v_99]) (rest := []) (n := 2) hx hb hml hown hU hN hZ (s_X12_bad_k12 l (dC, dI) cI cL cZ cR cG cH Z kd L f_93 hG o0 mo0 ko0 3 v_99) wd_602 wd_603 wd_604 wd_5 wd_605 (by decide +kernel) ⟨Nat.le_of_ble_eq_true rfl, Nat.le_of_ble_eq_true rfl⟩ hK hP hD hS mo0 hfo_100 12 rfl rfl rfl hl.1 rfl (Nat.le_of_ble_eq_true rfl) dX12_word_93 ⟨Nat.le_of_ble_eq_true rfl, Nat.le_of_ble_eq_true rfl⟩ (fun x_136 f_137 H locs hw hP hD hS => ?_)
                obtain ⟨hG, bx_136, hkc_138, hra_139, hfa_140⟩ := hw
                have hfo_142 : f_137 a_2 = .inl (cI, 1560, .inl g_111) := by rw [hkc_138 a_2 (by rw [ka_2]; decide)]; exact hfo_110
                have hfr0 : ∀ b, kd b ≠ 12 → kd b ≠ 576 → f_137 b = f b := fun b q12 q576 => (hkc_138 b q12).trans (hfr0 b q12 q576)
                have hrA12 : ∀ b, kd b = 12 → ∀ j, fldR (f_137 b) j = fldR (f b) j := fun b kb j => (hra_139 b kb j).trans (hrA12 b kb j)
                have hfA12 : ∀ b, kd b = 12 → ∀ j, j ≠ 6 → j ≠ 7 → j ≠ 8 → fldI (f_137 b) j = fldI (f b) j := fun b kb j n6 n7 n8 => (hfa_140 b kb j n7 n8).trans (hfA12 b kb j n6 n7 n8)
                have hT0 : frel kd 576 8 f_137 a_2 := hT0.keep (fun b q => hkc_138 b (by rw [q]; decide))
                obtain ⟨v_143, v_144, hfo_145, fa_146⟩ := op12_7_8 hfo_100 (hG _ mo0) ko0 (hra_139 o0 ko0) (hfa_140 o0 ko0)
                have bv_143 : ((-2147483648) ≤ v_143.toInt ∧ v_143.toInt ≤ 2147483647) := ⟨i32_lo _, i32_hi _⟩
                have bv_144 : ((-2147483648) ≤ v_144.toInt ∧ v_144.toInt ≤ 2147483647) := ⟨i32_lo _, i32_hi _⟩
                exact W.zret (v := x_136) (ty := .boolean) hx hb hr (zb_n (by constructor <;> omega)) (fun t ht hW => ⟨⟨x_136, f_137, rfl, ⟨hG, (by constructor <;> omega), hfr0, hrA12, hfA12, (by intro w6 z6 e6 d6; rw [hfo_57] at e6; rw [hfo_145] at d6; obtain rfl := Option.some.inj e6; obtain rfl := Option.some.inj d6; omega), (fun d9 h9 => by rw [hfo_145] at h9; obtain rfl := Option.some.inj h9; exact hT0)⟩, by rw [ht]; exact hP, va_K.moved hW.alike hK, pl_in hD⟩, hS.F ht⟩) hS.2.2 dX12_word_96
            · skip
              rw [← Int32.toInt_inj, ti_0] at c_112
              refine lv_aload_n hx hb dX12_word_66 rfl (lv_at hl 2 rfl) ?_
              refine lv_iconst (v := 2) hx hb dX12_word_67 (by decide) ?_
              refine lv_aload_n hx hb dX12_word_68 rfl (lv_at hl 2 rfl) ?_
              refine tk_getP (D := (dC, dI)) (ci := 12) (v := .int v_99) (C := RX12) (T := TX12) (N := 56) hx hb hU inlX12 hown hK hP mo0 hfo_100 rfl 6 (by decide) (hU _ wd_566) (fun _ h9 => h9) rfl dX12_word_69 ?_
              refine tk_ViP (As := [.int 2, .int v_99]) (rest := []) (n := 2) hx hb hml hown hU hN hZ (s_X12_bad_k12 l (dC, dI) cI cL cZ cR cG cH Z kd L f_93 hG o0 mo0 ko0 2 v_99) wd_602 wd_603 wd_604 wd_5 wd_605 (by decide +kernel) ⟨Nat.le_of_ble_eq_true rfl, Nat.le_of_ble_eq_true rfl⟩ hK hP hD hS mo0 hfo_100 12 rfl rfl rfl hl.1 rfl (Nat.le_of_ble_eq_true rfl) dX12_word_72 ⟨Nat.le_of_ble_eq_true rfl, Nat.le_of_ble_eq_true rfl⟩ (fun x_147 f_148 H locs hw hP hD hS => ?_)
              obtain ⟨hG, bx_147, hkc_149, hra_150, hfa_151⟩ := hw
              have hfo_153 : f_148 a_2 = .inl (cI, 1560, .inl g_111) := by rw [hkc_149 a_2 (by rw [ka_2]; decide)]; exact hfo_110
              have hfr0 : ∀ b, kd b ≠ 12 → kd b ≠ 576 → f_148 b = f b := fun b q12 q576 => (hkc_149 b q12).trans (hfr0 b q12 q576)
              have hrA12 : ∀ b, kd b = 12 → ∀ j, fldR (f_148 b) j = fldR (f b) j := fun b kb j => (hra_150 b kb j).trans (hrA12 b kb j)
              have hfA12 : ∀ b, kd b = 12 → ∀ j, j ≠ 6 → j ≠ 7 → j ≠ 8 → fldI (f_148 b) j = fldI (f b) j := fun b kb j n6 n7 n8 => (hfa_151 b kb j n7 n8).trans (hfA12 b kb j n6 n7 n8)
              have hT0 : frel kd 576 8 f_148 a_2 := hT0.keep (fun b q => hkc_149 b (by rw [q]; decide))
              obtain ⟨v_154, v_155, hfo_156, fa_157⟩ := op12_7_8 hfo_100 (hG _ mo0) ko0 (hra_150 o0 ko0) (hfa_151 o0 ko0)
              have bv_154 : ((-2147483648) ≤ v_154.toInt ∧ v_154.toInt ≤ 2147483647) := ⟨i32_lo _, i32_hi _⟩
              have bv_155 : ((-2147483648) ≤ v_155.toInt ∧ v_155.toInt ≤ 2147483647) := ⟨i32_lo _, i32_hi _⟩
              exact W.zret (v := x_147) (ty := .boolean) hx hb hr (zb_n (by constructor <;> omega)) (fun t ht hW => ⟨⟨x_147, f_148, rfl, ⟨hG, (by constructor <;> omega), hfr0, hrA12, hfA12, (by intro w6 z6 e6 d6; rw [hfo_57] at e6; rw [hfo_156] at d6; obtain rfl := Option.some.inj e6; obtain rfl := Option.some.inj d6; omega), (fun d9 h9 => by rw [hfo_156] at h9; obtain rfl := Option.some.inj h9; exact hT0)⟩, by rw [ht]; exact hP, va_K.moved hW.alike hK, pl_in hD⟩, hS.F ht⟩) hS.2.2 dX12_word_75
          · skip
            rw [← Int32.toInt_inj, ti_0] at c_105
            refine lv_aload_n hx hb dX12_word_41 rfl (lv_at hl 1 rfl) ?_
            refine lv_iconst (v := 1) hx hb dX12_word_42 (by decide) ?_
            refine lv_aload_n hx hb dX12_word_43 rfl (lv_at hl 1 rfl) ?_
            refine tk_getP (D := (dC, dI)) (ci := 12) (v := .int v_99) (C := RX12) (T := TX12) (N := 56) hx hb hU inlX12 hown hK hP mo0 hfo_100 rfl 6 (by decide) (hU _ wd_566) (fun _ h9 => h9) rfl dX12_word_44 ?_
            refine tk_ViP (As := [.int 1, .int v_99]) (rest := []) (n := 2) hx hb hml hown hU hN hZ (s_X12_bad_k12 l (dC, dI) cI cL cZ cR cG cH Z kd L f_93 hG o0 mo0 ko0 1 v_99) wd_602 wd_603 wd_604 wd_5 wd_605 (by decide +kernel) ⟨Nat.le_of_ble_eq_true rfl, Nat.le_of_ble_eq_true rfl⟩ hK hP hD hS mo0 hfo_100 12 rfl rfl rfl hl.1 rfl (Nat.le_of_ble_eq_true rfl) dX12_word_47 ⟨Nat.le_of_ble_eq_true rfl, Nat.le_of_ble_eq_true rfl⟩ (fun x_158 f_159 H locs hw hP hD hS => ?_)
            obtain ⟨hG, bx_158, hkc_160, hra_161, hfa_162⟩ := hw
            have hfr0 : ∀ b, kd b ≠ 12 → kd b ≠ 576 → f_159 b = f b := fun b q12 q576 => (hkc_160 b q12).trans (hfr0 b q12 q576)
            have hrA12 : ∀ b, kd b = 12 → ∀ j, fldR (f_159 b) j = fldR (f b) j := fun b kb j => (hra_161 b kb j).trans (hrA12 b kb j)
            have hfA12 : ∀ b, kd b = 12 → ∀ j, j ≠ 6 → j ≠ 7 → j ≠ 8 → fldI (f_159 b) j = fldI (f b) j := fun b kb j n6 n7 n8 => (hfa_162 b kb j n7 n8).trans (hfA12 b kb j n6 n7 n8)
            have hT0 : frel kd 576 8 f_159 a_2 := hT0.keep (fun b q => hkc_160 b (by rw [q]; decide))
            obtain ⟨v_164, v_165, hfo_166, fa_167⟩ := op12_7_8 hfo_100 (hG _ mo0) ko0 (hra_161 o0 ko0) (hfa_162 o0 ko0)
            have bv_164 : ((-2147483648) ≤ v_164.toInt ∧ v_164.toInt ≤ 2147483647) := ⟨i32_lo _, i32_hi _⟩
            have bv_165 : ((-2147483648) ≤ v_165.toInt ∧ v_165.toInt ≤ 2147483647) := ⟨i32_lo _, i32_hi _⟩
            exact W.zret (v := x_158) (ty := .boolean) hx hb hr (zb_n (by constructor <;> omega)) (fun t ht hW => ⟨⟨x_158, f_159, rfl, ⟨hG, (by constructor <;> omega), hfr0, hrA12, hfA12, (by intro w6 z6 e6 d6; rw [hfo_57] at e6; rw [hfo_166] at d6; obtain rfl := Option.some.inj e6; obtain rfl := Option.some.inj d6; omega), (fun d9 h9 => by rw [hfo_166] at h9; obtain rfl := Option.some.inj h9; exact hT0)⟩, by rw [ht]; exact hP, va_K.moved hW.alike hK, pl_in hD⟩, hS.F ht⟩) hS.2.2 dX12_word_50
      · skip
        rw [← Int32.toInt_inj, ti_0] at c_80
        refine lv_aload_n hx hb dX12_word_11 rfl (lv_at hl 0 rfl) ?_
        refine tk_getP (D := (dC, dI)) (ci := 12) (v := .ref a_2) (C := RX12) (T := TX12) (N := 56) hx hb hU inlX12 hown hK hP mo0 hfo_78 rfl 1 (by decide) (hU _ wd_170) (fun _ h9 => h9) rfl dX12_word_12 ?_
        refine lv_iload_n hx hb dX12_word_15 rfl (lv_at hl 1 rfl) ?_
        obtain ⟨g_169, hfo_168, hbg_169⟩ := un_576 (hG _ ma_2) ka_2
        refine tk_ildP hx hb hK hP 0 ma_2 hfo_168 rfl (vp_in_iff.mpr (by constructor <;> omega)) dX12_word_16 ?_
        refine lv_topi (fun x_170 ex_170 => ?_)
        have bx_170 : (0 ≤ x_170.toInt ∧ x_170.toInt ≤ 6) := by have hc9 := cl_I (i := p1) (by omega); rw [ex_170]; exact hbg_169.2.2.2.2.2.2.2.2.2.2.2.1 _ (by omega) (by omega) (by omega)
        refine lv_if_eq (tgt := 29) hx hb dX12_word_17 (by decide) (fun c_171 => ?_) (fun c_171 => ?_)
        · skip
          rw [← Int32.toInt_inj, ti_0] at c_171
          refine lv_aload_n hx hb dX12_word_29 rfl (lv_at hl 0 rfl) ?_
          refine tk_ViP (As := []) (rest := []) (n := 0) hx hb hml hown hU hN hZ (s_X12_sign_k12 l (dC, dI) cI cL cZ cR cG cH Z kd L f_74 hG o0 mo0 ko0) wd_573 wd_574 wd_575 wd_5 wd_576 (by decide +kernel) ⟨Nat.le_of_ble_eq_true rfl, Nat.le_of_ble_eq_true rfl⟩ hK hP hD hS mo0 hfo_78 12 rfl rfl rfl hl.1 rfl (Nat.le_of_ble_eq_true rfl) dX12_word_30 ⟨Nat.le_of_ble_eq_true rfl, Nat.le_of_ble_eq_true rfl⟩ (fun x_172 f_173 H locs hw hP hD hS => ?_)
          obtain ⟨hG, bx_172, hkc_174, hra_175, hfa_176, hpost_177⟩ := hw
          have hfo_179 : f_173 a_2 = .inl (cI, 1560, .inl g_169) := by rw [hkc_174 a_2 (by rw [ka_2]; decide)]; exact hfo_168
          have hfr0 : ∀ b, kd b ≠ 12 → kd b ≠ 576 → f_173 b = f b := fun b q12 q576 => (hkc_174 b q12).trans (hfr0 b q12 q576)
          have hrA12 : ∀ b, kd b = 12 → ∀ j, fldR (f_173 b) j = fldR (f b) j := fun b kb j => (hra_175 b kb j).trans (hrA12 b kb j)
          have hfA12 : ∀ b, kd b = 12 → ∀ j, j ≠ 6 → j ≠ 7 → j ≠ 8 → fldI (f_173 b) j = fldI (f b) j := fun b kb j n6 n7 n8 => (hfa_176 b kb j n6).trans (hfA12 b kb j n6 n7 n8)
          have hT0 : frel kd 576 8 f_173 a_2 := hT0.keep (fun b q => hkc_174 b (by rw [q]; decide))
          obtain ⟨v_180, hfo_181, fa_182⟩ := op12_6 hfo_78 (hG _ mo0) ko0 (hra_175 o0 ko0) (hfa_176 o0 ko0)
          have bv_180 : (0 ≤ v_180.toInt ∧ v_180.toInt ≤ 600) := fa12_6 fa_182
          have hqhpost_177 := hpost_177 v_75 v_180 (by rw [hfo_78]; rfl) (by rw [hfo_181]; rfl)
          refine lv_istore_n (lv' := [(3, .int x_172), (0, .ref o0), (1, .int p1), (2, .int p2)]) hx hb dX12_word_33 rfl hl (by decide) rfl (fun ls hl => ?_)
          refine lv_iload_n hx hb dX12_word_34 rfl (lv_at hl 0 rfl) ?_
          refine tk_SiP (As := [.int x_172]) (rest := []) (n := 1) hx hb hml hown hU hN hZ (s_X12_isSmall l (dC, dI) cI cL cZ cR cG cH Z kd L f_173 hG x_172) wd_589 wd_590 wd_5 wd_591 (by decide +kernel) ⟨Nat.le_of_ble_eq_true rfl, Nat.le_of_ble_eq_true rfl⟩ hK hP hD hS rfl hl.1 rfl (Nat.le_of_ble_eq_true rfl) dX12_word_35 ⟨Nat.le_of_ble_eq_true rfl, Nat.le_of_ble_eq_true rfl⟩ (fun x_183 f_184 H locs hw hP hD hS => ?_)
          obtain ⟨rfl, bx_183, relx_183⟩ := hw
          refine lv_if_ne (tgt := 51) hx hb dX12_word_38 (by decide) (fun c_186 => ?_) (fun c_186 => ?_)
          · skip
            rw [← Int32.toInt_inj, ti_0] at c_186
            refine lv_aload_n hx hb dX12_word_51 rfl (lv_at hl 1 rfl) ?_
            refine tk_getP (D := (dC, dI)) (ci := 12) (v := .ref a_2) (C := RX12) (T := TX12) (N := 56) hx hb hU inlX12 hown hK hP mo0 hfo_181 rfl 1 (by decide) (hU _ wd_170) (fun _ h9 => h9) rfl dX12_word_52 ?_
            refine lv_iload_n hx hb dX12_word_55 rfl (lv_at hl 0 rfl) ?_
            refine tk_SiP (As := [.ref a_2, .int x_172]) (rest := []) (n := 2) hx hb hml hown hU hN hZ (s_X12_letterIn_a576 l (dC, dI) cI cL cZ cR cG cH Z kd L f_173 hG a_2 ma_2 ka_2 x_172) wd_606 wd_607 wd_5 wd_608 (by decide +kernel) ⟨Nat.le_of_ble_eq_true rfl, Nat.le_of_ble_eq_true rfl⟩ hK hP hD hS rfl hl.1 rfl (Nat.le_of_ble_eq_true rfl) dX12_word_56 ⟨Nat.le_of_ble_eq_true rfl, Nat.le_of_ble_eq_true rfl⟩ (fun x_187 f_188 H locs hw hP hD hS => ?_)
            obtain ⟨rfl, bx_187, hxp_189⟩ := hw
            have hlix_187 := hxp_189 g_169 hfo_179
            refine lv_istore (lv' := [(4, .int x_187), (3, .int x_172), (0, .ref o0), (1, .int p1), (2, .int p2)]) hx hb dX12_word_59 hl (by decide) rfl (fun ls hl => ?_)
            refine lv_iload hx hb dX12_word_61 (lv_at hl 0 rfl) ?_
            refine lv_if_ne (tgt := 76) hx hb dX12_word_63 (by decide) (fun c_191 => ?_) (fun c_191 => ?_)
            · skip
              rw [← Int32.toInt_inj, ti_0] at c_191
              refine lv_aload_n hx hb dX12_word_76 rfl (lv_at hl 2 rfl) ?_
              refine tk_getP (D := (dC, dI)) (ci := 12) (v := .ref a_2) (C := RX12) (T := TX12) (N := 56) hx hb hU inlX12 hown hK hP mo0 hfo_181 rfl 1 (by decide) (hU _ wd_170) (fun _ h9 => h9) rfl dX12_word_77 ?_
              refine lv_iload_n hx hb dX12_word_80 rfl (lv_at hl 3 rfl) ?_
              refine tk_ildP hx hb hK hP 0 ma_2 hfo_179 rfl (vp_in_iff.mpr (by constructor <;> omega)) dX12_word_81 ?_
              refine tk_topi (y := x_170) ex_170.symm ?_
              refine lv_bipush (v := 6) hx hb dX12_word_82 (by decide) ?_
              refine lv_icmp_ne (tgt := 97) hx hb dX12_word_84 (by decide) (fun c_192 => ?_) (fun c_192 => ?_)
              · skip
                rw [← Int32.toInt_inj, ti_6] at c_192
                refine lv_aload_n hx hb dX12_word_97 rfl (lv_at hl 2 rfl) ?_
                refine tk_getP (D := (dC, dI)) (ci := 12) (v := .ref a_2) (C := RX12) (T := TX12) (N := 56) hx hb hU inlX12 hown hK hP mo0 hfo_181 rfl 1 (by decide) (hU _ wd_170) (fun _ h9 => h9) rfl dX12_word_98 ?_
                refine lv_iload_n hx hb dX12_word_101 rfl (lv_at hl 3 rfl) ?_
                refine lv_dup2_11 hx hb dX12_word_102 rfl rfl ?_
                refine tk_ildP hx hb hK hP 0 ma_2 hfo_179 rfl (vp_in_iff.mpr (by constructor <;> omega)) dX12_word_103 ?_
                refine tk_topi (y := x_170) ex_170.symm ?_
                refine lv_iconst (v := 1) hx hb dX12_word_104 (by decide) ?_
                refine lv_iadd hx hb dX12_word_105 ?_
                refine lv_topi (fun x_193 ex_193 => ?_)
                have hx_193 : x_193.toInt = x_170.toInt + 1 := by rw [ex_193, ad_I (by rw [ti_1]; omega) (by rw [ti_1]; omega), ti_1]
                have bx_193 : (1 ≤ x_193.toInt ∧ x_193.toInt ≤ 1) := by constructor <;> omega
                refine tk_istP hx hb hK hP hD hS 0 ma_2 hfo_179 rfl (vp_in_iff.mpr (by constructor <;> omega)) dX12_word_106 (fun H locs hP hD hS => ?_)
                have hc9 := cl_I (i := p1) (by omega)
                obtain ⟨g_194, eqg_194⟩ : ∃ y : Nat → Int32, y = upd g_169 (Int32.toNatClampNeg p1) x_193 := ⟨_, rfl⟩
                rw [← eqg_194] at hP hD
                have hbg_194 : wOK g_194 := by rw [eqg_194]; exact ⟨hbg_169.1.up (fun h1 h2 h3 => by exfalso; omega), hbg_169.2.1.up (fun h1 h2 h3 => by exfalso; omega), hbg_169.2.2.1.up (fun h1 h2 h3 => by exfalso; omega), hbg_169.2.2.2.1.up (fun h1 h2 h3 => by exfalso; omega), hbg_169.2.2.2.2.1.up (fun h1 h2 h3 => by exfalso; omega), hbg_169.2.2.2.2.2.1.up (fun h1 h2 h3 => by exfalso; omega), hbg_169.2.2.2.2.2.2.1.up (fun h1 h2 h3 => by exfalso; omega), hbg_169.2.2.2.2.2.2.2.1.up (fun h1 h2 h3 => by exfalso; omega), hbg_169.2.2.2.2.2.2.2.2.1.up (fun h1 h2 h3 => by exfalso; omega), hbg_169.2.2.2.2.2.2.2.2.2.1.up (fun h1 h2 h3 => by exfalso; omega), hbg_169.2.2.2.2.2.2.2.2.2.2.1.up (fun h1 h2 h3 => by constructor <;> omega), hbg_169.2.2.2.2.2.2.2.2.2.2.2.1.up (fun h1 h2 h3 => by constructor <;> omega), hbg_169.2.2.2.2.2.2.2.2.2.2.2.2.1.up (fun h1 h2 h3 => by exfalso; omega), hbg_169.2.2.2.2.2.2.2.2.2.2.2.2.2.1.up (fun h1 h2 h3 => by exfalso; omega), hbg_169.2.2.2.2.2.2.2.2.2.2.2.2.2.2.1.up (fun h1 h2 h3 => by exfalso; omega), hbg_169.2.2.2.2.2.2.2.2.2.2.2.2.2.2.2.up (fun h1 h2 h3 => by exfalso; omega)⟩
                obtain ⟨f_196, ef_196⟩ : ∃ y : Nat → va_E, y = va_up f_173 a_2 (.inl (cI, 1560, .inl g_194)) := ⟨_, rfl⟩
                have hP : va_P (dC, dI) vwCl (va_pl L f_196) H := by rw [ef_196]; exact hP
                have hD : va_D (fun q => q ∈ L) (va_pl L f_196) := by rw [ef_196]; exact hD
                have hG : GI (okc cI cL cZ cR cG cH L kd) kd L f_196 := by rw [ef_196]; exact hG.set a_2 (mk_576 ka_2 ⟨_, rfl, hbg_194⟩)
                have hfo_197 : f_196 o0 = .inr (12, [.ref a_1, .ref a_2, .ref a_3, .int v_4, .ref a_5, .int v_6, .int v_180, .int v_76, .int v_77, .int v_10, .int v_11, .int v_12, .int v_13, .int v_14, .int v_15, .ref a_16, .ref a_17, .ref a_18, .ref a_19, .ref a_20, .ref a_21, .ref a_22, .ref a_23, .int v_24, .int v_25, .int v_26, .int v_27, .int v_28, .ref a_29, .int v_30, .ref a_31, .ref a_32, .int v_33, .int v_34, .ref a_35, .int v_36, .ref a_37, .ref a_38, .int v_39, .int v_40, .ref a_41, .ref a_42, .ref a_43, .int v_44, .ref a_45, .ref a_46, .ref a_47, .ref a_48, .ref a_49, .ref a_50, .ref a_51, .ref a_52, .ref a_53, .int v_54, .int v_55, .ref a_56]) := by rw [ef_196, up_ne (kd_ne ka_2 ko0 (by decide))]; exact hfo_181
                have hfr0 : ∀ b, kd b ≠ 12 → kd b ≠ 576 → f_196 b = f b := fun b q12 q576 => (congrFun ef_196 b).trans ((up_ne (fun e9 => q576 (by rw [e9]; exact ka_2))).trans (hfr0 b q12 q576))
                have hrA12 : ∀ b, kd b = 12 → ∀ j, fldR (f_196 b) j = fldR (f b) j := fun b kb j => (congrArg (fun x => fldR x j) ((congrFun ef_196 b).trans (up_ne (kd_ne ka_2 kb (by decide))))).trans (hrA12 b kb j)
                have hfA12 : ∀ b, kd b = 12 → ∀ j, j ≠ 6 → j ≠ 7 → j ≠ 8 → fldI (f_196 b) j = fldI (f b) j := fun b kb j n6 n7 n8 => (congrArg (fun x => fldI x j) ((congrFun ef_196 b).trans (up_ne (kd_ne ka_2 kb (by decide))))).trans (hfA12 b kb j n6 n7 n8)
                have hT0 : frel kd 576 8 f_196 a_2 := by rw [ef_196]; exact frel.mk ka_2 up_self (by rw [eqg_194]; exact (hT0.get hfo_179).up (hbg_169.2.1 16 (by decide) (by decide) (by decide)).2 (by omega) (by omega) (by omega) (fun h9 => by exfalso; omega))
                have hfo_198 : f_196 a_2 = .inl (cI, 1560, .inl g_194) := by rw [ef_196]; exact up_self
                have ql_199 : x_193 = g_194 (Int32.toNatClampNeg p1) := by rw [eqg_194, pk_us]
                refine lv_aload_n hx hb dX12_word_107 rfl (lv_at hl 2 rfl) ?_
                refine tk_getP (D := (dC, dI)) (ci := 12) (v := .ref a_2) (C := RX12) (T := TX12) (N := 56) hx hb hU inlX12 hown hK hP mo0 hfo_197 rfl 1 (by decide) (hU _ wd_170) (fun _ h9 => h9) rfl dX12_word_108 ?_
                refine lv_iload_n hx hb dX12_word_111 rfl (lv_at hl 3 rfl) ?_
                refine lv_aload_n hx hb dX12_word_112 rfl (lv_at hl 2 rfl) ?_
                refine tk_getP (D := (dC, dI)) (ci := 12) (v := .ref a_2) (C := RX12) (T := TX12) (N := 56) hx hb hU inlX12 hown hK hP mo0 hfo_197 rfl 1 (by decide) (hU _ wd_170) (fun _ h9 => h9) rfl dX12_word_113 ?_
                refine lv_iload_n hx hb dX12_word_116 rfl (lv_at hl 3 rfl) ?_
                refine tk_ildP hx hb hK hP 0 ma_2 hfo_198 rfl (vp_in_iff.mpr (by constructor <;> omega)) dX12_word_117 ?_
                refine tk_topi (y := x_193) ql_199.symm ?_
                refine lv_iadd hx hb dX12_word_118 ?_
                refine lv_topi (fun x_200 ex_200 => ?_)
                have hx_200 : x_200.toInt = p1.toInt + x_193.toInt := by rw [ex_200, ad_I (by omega) (by omega)]
                have bx_200 : (61 ≤ x_200.toInt ∧ x_200.toInt ≤ 213) := by constructor <;> omega
                refine lv_iload hx hb dX12_word_119 (lv_at hl 0 rfl) ?_
                refine tk_istP hx hb hK hP hD hS 0 ma_2 hfo_198 rfl (vp_in_iff.mpr (by constructor <;> omega)) dX12_word_121 (fun H locs hP hD hS => ?_)
                have hc9 := cl_I (i := x_200) (by omega)
                obtain ⟨g_201, eqg_201⟩ : ∃ y : Nat → Int32, y = upd g_194 (Int32.toNatClampNeg x_200) x_187 := ⟨_, rfl⟩
                rw [← eqg_201] at hP hD
                have hbg_201 : wOK g_201 := by rw [eqg_201]; exact ⟨hbg_194.1.up (fun h1 h2 h3 => by exfalso; omega), hbg_194.2.1.up (fun h1 h2 h3 => by exfalso; omega), hbg_194.2.2.1.up (fun h1 h2 h3 => by exfalso; omega), hbg_194.2.2.2.1.up (fun h1 h2 h3 => by exfalso; omega), hbg_194.2.2.2.2.1.up (fun h1 h2 h3 => by exfalso; omega), hbg_194.2.2.2.2.2.1.up (fun h1 h2 h3 => by exfalso; omega), hbg_194.2.2.2.2.2.2.1.up (fun h1 h2 h3 => by exfalso; omega), hbg_194.2.2.2.2.2.2.2.1.up (fun h1 h2 h3 => by exfalso; omega), hbg_194.2.2.2.2.2.2.2.2.1.up (fun h1 h2 h3 => by exfalso; omega), hbg_194.2.2.2.2.2.2.2.2.2.1.up (fun h1 h2 h3 => by exfalso; omega), hbg_194.2.2.2.2.2.2.2.2.2.2.1.up (fun h1 h2 h3 => by constructor <;> omega), hbg_194.2.2.2.2.2.2.2.2.2.2.2.1.up (fun h1 h2 h3 => by first | (exfalso; omega) | (constructor <;> omega)), hbg_194.2.2.2.2.2.2.2.2.2.2.2.2.1.up (fun h1 h2 h3 => by exfalso; omega), hbg_194.2.2.2.2.2.2.2.2.2.2.2.2.2.1.up (fun h1 h2 h3 => by exfalso; omega), hbg_194.2.2.2.2.2.2.2.2.2.2.2.2.2.2.1.up (fun h1 h2 h3 => by exfalso; omega), hbg_194.2.2.2.2.2.2.2.2.2.2.2.2.2.2.2.up (fun h1 h2 h3 => by exfalso; omega)⟩
                obtain ⟨f_203, ef_203⟩ : ∃ y : Nat → va_E, y = va_up f_196 a_2 (.inl (cI, 1560, .inl g_201)) := ⟨_, rfl⟩
                have hP : va_P (dC, dI) vwCl (va_pl L f_203) H := by rw [ef_203]; exact hP
                have hD : va_D (fun q => q ∈ L) (va_pl L f_203) := by rw [ef_203]; exact hD
                have hG : GI (okc cI cL cZ cR cG cH L kd) kd L f_203 := by rw [ef_203]; exact hG.set a_2 (mk_576 ka_2 ⟨_, rfl, hbg_201⟩)
                have hfo_204 : f_203 o0 = .inr (12, [.ref a_1, .ref a_2, .ref a_3, .int v_4, .ref a_5, .int v_6, .int v_180, .int v_76, .int v_77, .int v_10, .int v_11, .int v_12, .int v_13, .int v_14, .int v_15, .ref a_16, .ref a_17, .ref a_18, .ref a_19, .ref a_20, .ref a_21, .ref a_22, .ref a_23, .int v_24, .int v_25, .int v_26, .int v_27, .int v_28, .ref a_29, .int v_30, .ref a_31, .ref a_32, .int v_33, .int v_34, .ref a_35, .int v_36, .ref a_37, .ref a_38, .int v_39, .int v_40, .ref a_41, .ref a_42, .ref a_43, .int v_44, .ref a_45, .ref a_46, .ref a_47, .ref a_48, .ref a_49, .ref a_50, .ref a_51, .ref a_52, .ref a_53, .int v_54, .int v_55, .ref a_56]) := by rw [ef_203, up_ne (kd_ne ka_2 ko0 (by decide))]; exact hfo_197
                have hfr0 : ∀ b, kd b ≠ 12 → kd b ≠ 576 → f_203 b = f b := fun b q12 q576 => (congrFun ef_203 b).trans ((up_ne (fun e9 => q576 (by rw [e9]; exact ka_2))).trans (hfr0 b q12 q576))
                have hrA12 : ∀ b, kd b = 12 → ∀ j, fldR (f_203 b) j = fldR (f b) j := fun b kb j => (congrArg (fun x => fldR x j) ((congrFun ef_203 b).trans (up_ne (kd_ne ka_2 kb (by decide))))).trans (hrA12 b kb j)
                have hfA12 : ∀ b, kd b = 12 → ∀ j, j ≠ 6 → j ≠ 7 → j ≠ 8 → fldI (f_203 b) j = fldI (f b) j := fun b kb j n6 n7 n8 => (congrArg (fun x => fldI x j) ((congrFun ef_203 b).trans (up_ne (kd_ne ka_2 kb (by decide))))).trans (hfA12 b kb j n6 n7 n8)
                have hT0 : frel kd 576 8 f_203 a_2 := by rw [ef_203]; exact frel.mk ka_2 up_self (by rw [eqg_201]; exact (hT0.get hfo_198).up (hbg_194.2.1 16 (by decide) (by decide) (by decide)).2 (by omega) (by omega) (by omega) (fun h9 => by exfalso; omega))
                have hfo_205 : f_203 a_2 = .inl (cI, 1560, .inl g_201) := by rw [ef_203]; exact up_self
                have ql_206 : x_187 = g_201 (Int32.toNatClampNeg x_200) := by rw [eqg_201, pk_us]
                have hclc_207 : (0 ≤ v_180.toInt ∧ v_180.toInt ≤ 599) := by constructor <;> omega
                refine lv_aload_n hx hb dX12_word_122 rfl (lv_at hl 2 rfl) ?_
                refine lv_dup hx hb dX12_word_123 rfl ?_
                refine tk_getP (D := (dC, dI)) (ci := 12) (v := .int v_180) (C := RX12) (T := TX12) (N := 56) hx hb hU inlX12 hown hK hP mo0 hfo_204 rfl 6 (by decide) (hU _ wd_566) (fun _ h9 => h9) rfl dX12_word_124 ?_
                refine lv_iconst (v := 1) hx hb dX12_word_127 (by decide) ?_
                refine lv_iadd hx hb dX12_word_128 ?_
                refine lv_topi (fun x_208 ex_208 => ?_)
                have hx_208 : x_208.toInt = v_180.toInt + 1 := by rw [ex_208, ad_I (by rw [ti_1]; omega) (by rw [ti_1]; omega), ti_1]
                have bx_208 : (1 ≤ x_208.toInt ∧ x_208.toInt ≤ 600) := by constructor <;> omega
                refine tk_putP (D := (dC, dI)) (ci := 12) (v := .int x_208) (ty := .int) (C := RX12) (T := TX12) (N := 56) hx hb hU inlX12 tyX12 tyX12_ok nmX12 hown hK hP hD hS mo0 hfo_204 rfl 6 (by decide) (hU _ wd_566) (fun _ h9 => h9) rfl (by decide +kernel) rfl rfl (Nat.le_of_ble_eq_true rfl) dX12_word_129 (fun H locs hP hD hS => ?_)
                have fa_209 := fu12_6 (y := x_208) fa_182 (by constructor <;> omega)
                obtain ⟨f_211, ef_211⟩ : ∃ y : Nat → va_E, y = va_up f_203 o0 (.inr (12, [.ref a_1, .ref a_2, .ref a_3, .int v_4, .ref a_5, .int v_6, .int x_208, .int v_76, .int v_77, .int v_10, .int v_11, .int v_12, .int v_13, .int v_14, .int v_15, .ref a_16, .ref a_17, .ref a_18, .ref a_19, .ref a_20, .ref a_21, .ref a_22, .ref a_23, .int v_24, .int v_25, .int v_26, .int v_27, .int v_28, .ref a_29, .int v_30, .ref a_31, .ref a_32, .int v_33, .int v_34, .ref a_35, .int v_36, .ref a_37, .ref a_38, .int v_39, .int v_40, .ref a_41, .ref a_42, .ref a_43, .int v_44, .ref a_45, .ref a_46, .ref a_47, .ref a_48, .ref a_49, .ref a_50, .ref a_51, .ref a_52, .ref a_53, .int v_54, .int v_55, .ref a_56])) := ⟨_, rfl⟩
                have hP : va_P (dC, dI) vwCl (va_pl L f_211) H := by rw [ef_211]; exact hP
                have hD : va_D (fun q => q ∈ L) (va_pl L f_211) := by rw [ef_211]; exact hD
                have hG : GI (okc cI cL cZ cR cG cH L kd) kd L f_211 := by rw [ef_211]; exact hG.set o0 (mk_12 ko0 (fo12 fa_209))
                have hfo_212 : f_211 a_2 = .inl (cI, 1560, .inl g_201) := by rw [ef_211, up_ne (kd_ne ko0 ka_2 (by decide))]; exact hfo_205
                have hfr0 : ∀ b, kd b ≠ 12 → kd b ≠ 576 → f_211 b = f b := fun b q12 q576 => (congrFun ef_211 b).trans ((up_ne (fun e9 => q12 (by rw [e9]; exact ko0))).trans (hfr0 b q12 q576))
                have hrA12 : ∀ b, kd b = 12 → ∀ j, fldR (f_211 b) j = fldR (f b) j := fun b kb j => ((congrArg (fun x => fldR x j) (congrFun ef_211 b)).trans (fra_up (fun j => by rw [hfo_204]; exact fr_set (k := 6) rfl rfl) j b)).trans (hrA12 b kb j)
                have hfA12 : ∀ b, kd b = 12 → ∀ j, j ≠ 6 → j ≠ 7 → j ≠ 8 → fldI (f_211 b) j = fldI (f b) j := fun b kb j n6 n7 n8 => ((congrArg (fun x => fldI x j) (congrFun ef_211 b)).trans (fia_up (fun h9 => by rw [hfo_204]; exact fi_set (k := 6) rfl h9) n6 b)).trans (hfA12 b kb j n6 n7 n8)
                have hT0 : frel kd 576 8 f_211 a_2 := by rw [ef_211]; exact hT0.keep (fun b q => up_ne (kd_ne ko0 q (by decide)))
                have hfo_213 : f_211 o0 = .inr (12, [.ref a_1, .ref a_2, .ref a_3, .int v_4, .ref a_5, .int v_6, .int x_208, .int v_76, .int v_77, .int v_10, .int v_11, .int v_12, .int v_13, .int v_14, .int v_15, .ref a_16, .ref a_17, .ref a_18, .ref a_19, .ref a_20, .ref a_21, .ref a_22, .ref a_23, .int v_24, .int v_25, .int v_26, .int v_27, .int v_28, .ref a_29, .int v_30, .ref a_31, .ref a_32, .int v_33, .int v_34, .ref a_35, .int v_36, .ref a_37, .ref a_38, .int v_39, .int v_40, .ref a_41, .ref a_42, .ref a_43, .int v_44, .ref a_45, .ref a_46, .ref a_47, .ref a_48, .ref a_49, .ref a_50, .ref a_51, .ref a_52, .ref a_53, .int v_54, .int v_55, .ref a_56]) := by rw [ef_211]; exact up_self
                refine lv_goto (tgt := 7) hx hb dX12_word_132 (by decide) ?_
                exact ih_hloop_72 f_211 hG _ _ hP hS hD hfr0 hrA12 hfA12 hT0 x_208 (by rw [hfo_213]; rfl) (by omega) (by omega) (by omega) ls (lv_sub hl [2, 3, 4] rfl)
              · skip
                rw [← Int32.toInt_inj, ti_6] at c_192
                exfalso
                omega
            · skip
              rw [← Int32.toInt_inj, ti_0] at c_191
              refine lv_aload_n hx hb dX12_word_66 rfl (lv_at hl 2 rfl) ?_
              refine lv_iconst (v := 2) hx hb dX12_word_67 (by decide) ?_
              refine lv_aload_n hx hb dX12_word_68 rfl (lv_at hl 2 rfl) ?_
              refine tk_getP (D := (dC, dI)) (ci := 12) (v := .int v_180) (C := RX12) (T := TX12) (N := 56) hx hb hU inlX12 hown hK hP mo0 hfo_181 rfl 6 (by decide) (hU _ wd_566) (fun _ h9 => h9) rfl dX12_word_69 ?_
              refine tk_ViP (As := [.int 2, .int v_180]) (rest := []) (n := 2) hx hb hml hown hU hN hZ (s_X12_bad_k12 l (dC, dI) cI cL cZ cR cG cH Z kd L f_173 hG o0 mo0 ko0 2 v_180) wd_602 wd_603 wd_604 wd_5 wd_605 (by decide +kernel) ⟨Nat.le_of_ble_eq_true rfl, Nat.le_of_ble_eq_true rfl⟩ hK hP hD hS mo0 hfo_181 12 rfl rfl rfl hl.1 rfl (Nat.le_of_ble_eq_true rfl) dX12_word_72 ⟨Nat.le_of_ble_eq_true rfl, Nat.le_of_ble_eq_true rfl⟩ (fun x_214 f_215 H locs hw hP hD hS => ?_)
              obtain ⟨hG, bx_214, hkc_216, hra_217, hfa_218⟩ := hw
              have hfo_220 : f_215 a_2 = .inl (cI, 1560, .inl g_169) := by rw [hkc_216 a_2 (by rw [ka_2]; decide)]; exact hfo_179
              have hfr0 : ∀ b, kd b ≠ 12 → kd b ≠ 576 → f_215 b = f b := fun b q12 q576 => (hkc_216 b q12).trans (hfr0 b q12 q576)
              have hrA12 : ∀ b, kd b = 12 → ∀ j, fldR (f_215 b) j = fldR (f b) j := fun b kb j => (hra_217 b kb j).trans (hrA12 b kb j)
              have hfA12 : ∀ b, kd b = 12 → ∀ j, j ≠ 6 → j ≠ 7 → j ≠ 8 → fldI (f_215 b) j = fldI (f b) j := fun b kb j n6 n7 n8 => (hfa_218 b kb j n7 n8).trans (hfA12 b kb j n6 n7 n8)
              have hT0 : frel kd 576 8 f_215 a_2 := hT0.keep (fun b q => hkc_216 b (by rw [q]; decide))
              obtain ⟨v_221, v_222, hfo_223, fa_224⟩ := op12_7_8 hfo_181 (hG _ mo0) ko0 (hra_217 o0 ko0) (hfa_218 o0 ko0)
              have bv_221 : ((-2147483648) ≤ v_221.toInt ∧ v_221.toInt ≤ 2147483647) := ⟨i32_lo _, i32_hi _⟩
              have bv_222 : ((-2147483648) ≤ v_222.toInt ∧ v_222.toInt ≤ 2147483647) := ⟨i32_lo _, i32_hi _⟩
              exact W.zret (v := x_214) (ty := .boolean) hx hb hr (zb_n (by constructor <;> omega)) (fun t ht hW => ⟨⟨x_214, f_215, rfl, ⟨hG, (by constructor <;> omega), hfr0, hrA12, hfA12, (by intro w6 z6 e6 d6; rw [hfo_57] at e6; rw [hfo_223] at d6; obtain rfl := Option.some.inj e6; obtain rfl := Option.some.inj d6; omega), (fun d9 h9 => by rw [hfo_223] at h9; obtain rfl := Option.some.inj h9; exact hT0)⟩, by rw [ht]; exact hP, va_K.moved hW.alike hK, pl_in hD⟩, hS.F ht⟩) hS.2.2 dX12_word_75
          · skip
            rw [← Int32.toInt_inj, ti_0] at c_186
            refine lv_aload_n hx hb dX12_word_41 rfl (lv_at hl 1 rfl) ?_
            refine lv_iconst (v := 1) hx hb dX12_word_42 (by decide) ?_
            refine lv_aload_n hx hb dX12_word_43 rfl (lv_at hl 1 rfl) ?_
            refine tk_getP (D := (dC, dI)) (ci := 12) (v := .int v_180) (C := RX12) (T := TX12) (N := 56) hx hb hU inlX12 hown hK hP mo0 hfo_181 rfl 6 (by decide) (hU _ wd_566) (fun _ h9 => h9) rfl dX12_word_44 ?_
            refine tk_ViP (As := [.int 1, .int v_180]) (rest := []) (n := 2) hx hb hml hown hU hN hZ (s_X12_bad_k12 l (dC, dI) cI cL cZ cR cG cH Z kd L f_173 hG o0 mo0 ko0 1 v_180) wd_602 wd_603 wd_604 wd_5 wd_605 (by decide +kernel) ⟨Nat.le_of_ble_eq_true rfl, Nat.le_of_ble_eq_true rfl⟩ hK hP hD hS mo0 hfo_181 12 rfl rfl rfl hl.1 rfl (Nat.le_of_ble_eq_true rfl) dX12_word_47 ⟨Nat.le_of_ble_eq_true rfl, Nat.le_of_ble_eq_true rfl⟩ (fun x_225 f_226 H locs hw hP hD hS => ?_)
            obtain ⟨hG, bx_225, hkc_227, hra_228, hfa_229⟩ := hw
            have hfo_231 : f_226 a_2 = .inl (cI, 1560, .inl g_169) := by rw [hkc_227 a_2 (by rw [ka_2]; decide)]; exact hfo_179
            have hfr0 : ∀ b, kd b ≠ 12 → kd b ≠ 576 → f_226 b = f b := fun b q12 q576 => (hkc_227 b q12).trans (hfr0 b q12 q576)
            have hrA12 : ∀ b, kd b = 12 → ∀ j, fldR (f_226 b) j = fldR (f b) j := fun b kb j => (hra_228 b kb j).trans (hrA12 b kb j)
            have hfA12 : ∀ b, kd b = 12 → ∀ j, j ≠ 6 → j ≠ 7 → j ≠ 8 → fldI (f_226 b) j = fldI (f b) j := fun b kb j n6 n7 n8 => (hfa_229 b kb j n7 n8).trans (hfA12 b kb j n6 n7 n8)
            have hT0 : frel kd 576 8 f_226 a_2 := hT0.keep (fun b q => hkc_227 b (by rw [q]; decide))
            obtain ⟨v_232, v_233, hfo_234, fa_235⟩ := op12_7_8 hfo_181 (hG _ mo0) ko0 (hra_228 o0 ko0) (hfa_229 o0 ko0)
            have bv_232 : ((-2147483648) ≤ v_232.toInt ∧ v_232.toInt ≤ 2147483647) := ⟨i32_lo _, i32_hi _⟩
            have bv_233 : ((-2147483648) ≤ v_233.toInt ∧ v_233.toInt ≤ 2147483647) := ⟨i32_lo _, i32_hi _⟩
            exact W.zret (v := x_225) (ty := .boolean) hx hb hr (zb_n (by constructor <;> omega)) (fun t ht hW => ⟨⟨x_225, f_226, rfl, ⟨hG, (by constructor <;> omega), hfr0, hrA12, hfA12, (by intro w6 z6 e6 d6; rw [hfo_57] at e6; rw [hfo_234] at d6; obtain rfl := Option.some.inj e6; obtain rfl := Option.some.inj d6; omega), (fun d9 h9 => by rw [hfo_234] at h9; obtain rfl := Option.some.inj h9; exact hT0)⟩, by rw [ht]; exact hP, va_K.moved hW.alike hK, pl_in hD⟩, hS.F ht⟩) hS.2.2 dX12_word_50
        · skip
          rw [← Int32.toInt_inj, ti_0] at c_171
          refine lv_aload_n hx hb dX12_word_20 rfl (lv_at hl 0 rfl) ?_
          refine tk_ViP (As := []) (rest := []) (n := 0) hx hb hml hown hU hN hZ (s_X12_sign_k12 l (dC, dI) cI cL cZ cR cG cH Z kd L f_74 hG o0 mo0 ko0) wd_573 wd_574 wd_575 wd_5 wd_576 (by decide +kernel) ⟨Nat.le_of_ble_eq_true rfl, Nat.le_of_ble_eq_true rfl⟩ hK hP hD hS mo0 hfo_78 12 rfl rfl rfl hl.1 rfl (Nat.le_of_ble_eq_true rfl) dX12_word_21 ⟨Nat.le_of_ble_eq_true rfl, Nat.le_of_ble_eq_true rfl⟩ (fun x_236 f_237 H locs hw hP hD hS => ?_)
          obtain ⟨hG, bx_236, hkc_238, hra_239, hfa_240, hpost_241⟩ := hw
          have hfo_243 : f_237 a_2 = .inl (cI, 1560, .inl g_169) := by rw [hkc_238 a_2 (by rw [ka_2]; decide)]; exact hfo_168
          have hfr0 : ∀ b, kd b ≠ 12 → kd b ≠ 576 → f_237 b = f b := fun b q12 q576 => (hkc_238 b q12).trans (hfr0 b q12 q576)
          have hrA12 : ∀ b, kd b = 12 → ∀ j, fldR (f_237 b) j = fldR (f b) j := fun b kb j => (hra_239 b kb j).trans (hrA12 b kb j)
          have hfA12 : ∀ b, kd b = 12 → ∀ j, j ≠ 6 → j ≠ 7 → j ≠ 8 → fldI (f_237 b) j = fldI (f b) j := fun b kb j n6 n7 n8 => (hfa_240 b kb j n6).trans (hfA12 b kb j n6 n7 n8)
          have hT0 : frel kd 576 8 f_237 a_2 := hT0.keep (fun b q => hkc_238 b (by rw [q]; decide))
          obtain ⟨v_244, hfo_245, fa_246⟩ := op12_6 hfo_78 (hG _ mo0) ko0 (hra_239 o0 ko0) (hfa_240 o0 ko0)
          have bv_244 : (0 ≤ v_244.toInt ∧ v_244.toInt ≤ 600) := fa12_6 fa_246
          have hqhpost_241 := hpost_241 v_75 v_244 (by rw [hfo_78]; rfl) (by rw [hfo_245]; rfl)
          refine lv_bipush (v := 59) hx hb dX12_word_24 (by decide) ?_
          refine lv_icmp_eq (tgt := 135) hx hb dX12_word_26 (by decide) (fun c_247 => ?_) (fun c_247 => ?_)
          · skip
            rw [← Int32.toInt_inj, ti_59] at c_247
            refine lv_iconst (v := 1) hx hb dX12_word_135 (by decide) ?_
            exact W.zret (v := 1) (ty := .boolean) hx hb hr rfl (fun t ht hW => ⟨⟨1, f_237, rfl, ⟨hG, (by decide), hfr0, hrA12, hfA12, (by intro w6 z6 e6 d6; rw [hfo_57] at e6; rw [hfo_245] at d6; obtain rfl := Option.some.inj e6; obtain rfl := Option.some.inj d6; (try rw [ti_1]) <;> omega), (fun d9 h9 => by rw [hfo_245] at h9; obtain rfl := Option.some.inj h9; exact hT0)⟩, by rw [ht]; exact hP, va_K.moved hW.alike hK, pl_in hD⟩, hS.F ht⟩) hS.2.2 dX12_word_136
          · skip
            rw [← Int32.toInt_inj, ti_59] at c_247
            refine lv_aload_n hx hb dX12_word_29 rfl (lv_at hl 0 rfl) ?_
            refine tk_ViP (As := []) (rest := []) (n := 0) hx hb hml hown hU hN hZ (s_X12_sign_k12 l (dC, dI) cI cL cZ cR cG cH Z kd L f_237 hG o0 mo0 ko0) wd_573 wd_574 wd_575 wd_5 wd_576 (by decide +kernel) ⟨Nat.le_of_ble_eq_true rfl, Nat.le_of_ble_eq_true rfl⟩ hK hP hD hS mo0 hfo_245 12 rfl rfl rfl hl.1 rfl (Nat.le_of_ble_eq_true rfl) dX12_word_30 ⟨Nat.le_of_ble_eq_true rfl, Nat.le_of_ble_eq_true rfl⟩ (fun x_248 f_249 H locs hw hP hD hS => ?_)
            obtain ⟨hG, bx_248, hkc_250, hra_251, hfa_252, hpost_253⟩ := hw
            have hfo_255 : f_249 a_2 = .inl (cI, 1560, .inl g_169) := by rw [hkc_250 a_2 (by rw [ka_2]; decide)]; exact hfo_243
            have hfr0 : ∀ b, kd b ≠ 12 → kd b ≠ 576 → f_249 b = f b := fun b q12 q576 => (hkc_250 b q12).trans (hfr0 b q12 q576)
            have hrA12 : ∀ b, kd b = 12 → ∀ j, fldR (f_249 b) j = fldR (f b) j := fun b kb j => (hra_251 b kb j).trans (hrA12 b kb j)
            have hfA12 : ∀ b, kd b = 12 → ∀ j, j ≠ 6 → j ≠ 7 → j ≠ 8 → fldI (f_249 b) j = fldI (f b) j := fun b kb j n6 n7 n8 => (hfa_252 b kb j n6).trans (hfA12 b kb j n6 n7 n8)
            have hT0 : frel kd 576 8 f_249 a_2 := hT0.keep (fun b q => hkc_250 b (by rw [q]; decide))
            obtain ⟨v_256, hfo_257, fa_258⟩ := op12_6 hfo_245 (hG _ mo0) ko0 (hra_251 o0 ko0) (hfa_252 o0 ko0)
            have bv_256 : (0 ≤ v_256.toInt ∧ v_256.toInt ≤ 600) := fa12_6 fa_258
            have hqhpost_253 := hpost_253 v_244 v_256 (by rw [hfo_245]; rfl) (by rw [hfo_257]; rfl)
            refine lv_istore_n (lv' := [(3, .int x_248), (0, .ref o0), (1, .int p1), (2, .int p2)]) hx hb dX12_word_33 rfl hl (by decide) rfl (fun ls hl => ?_)
            refine lv_iload_n hx hb dX12_word_34 rfl (lv_at hl 0 rfl) ?_
            refine tk_SiP (As := [.int x_248]) (rest := []) (n := 1) hx hb hml hown hU hN hZ (s_X12_isSmall l (dC, dI) cI cL cZ cR cG cH Z kd L f_249 hG x_248) wd_589 wd_590 wd_5 wd_591 (by decide +kernel) ⟨Nat.le_of_ble_eq_true rfl, Nat.le_of_ble_eq_true rfl⟩ hK hP hD hS rfl hl.1 rfl (Nat.le_of_ble_eq_true rfl) dX12_word_35 ⟨Nat.le_of_ble_eq_true rfl, Nat.le_of_ble_eq_true rfl⟩ (fun x_259 f_260 H locs hw hP hD hS => ?_)
            obtain ⟨rfl, bx_259, relx_259⟩ := hw
            refine lv_if_ne (tgt := 51) hx hb dX12_word_38 (by decide) (fun c_262 => ?_) (fun c_262 => ?_)
            · skip
              rw [← Int32.toInt_inj, ti_0] at c_262
              refine lv_aload_n hx hb dX12_word_51 rfl (lv_at hl 1 rfl) ?_
              refine tk_getP (D := (dC, dI)) (ci := 12) (v := .ref a_2) (C := RX12) (T := TX12) (N := 56) hx hb hU inlX12 hown hK hP mo0 hfo_257 rfl 1 (by decide) (hU _ wd_170) (fun _ h9 => h9) rfl dX12_word_52 ?_
              refine lv_iload_n hx hb dX12_word_55 rfl (lv_at hl 0 rfl) ?_
              refine tk_SiP (As := [.ref a_2, .int x_248]) (rest := []) (n := 2) hx hb hml hown hU hN hZ (s_X12_letterIn_a576 l (dC, dI) cI cL cZ cR cG cH Z kd L f_249 hG a_2 ma_2 ka_2 x_248) wd_606 wd_607 wd_5 wd_608 (by decide +kernel) ⟨Nat.le_of_ble_eq_true rfl, Nat.le_of_ble_eq_true rfl⟩ hK hP hD hS rfl hl.1 rfl (Nat.le_of_ble_eq_true rfl) dX12_word_56 ⟨Nat.le_of_ble_eq_true rfl, Nat.le_of_ble_eq_true rfl⟩ (fun x_263 f_264 H locs hw hP hD hS => ?_)
              obtain ⟨rfl, bx_263, hxp_265⟩ := hw
              have hlix_263 := hxp_265 g_169 hfo_255
              refine lv_istore (lv' := [(4, .int x_263), (3, .int x_248), (0, .ref o0), (1, .int p1), (2, .int p2)]) hx hb dX12_word_59 hl (by decide) rfl (fun ls hl => ?_)
              refine lv_iload hx hb dX12_word_61 (lv_at hl 0 rfl) ?_
              refine lv_if_ne (tgt := 76) hx hb dX12_word_63 (by decide) (fun c_267 => ?_) (fun c_267 => ?_)
              · skip
                rw [← Int32.toInt_inj, ti_0] at c_267
                refine lv_aload_n hx hb dX12_word_76 rfl (lv_at hl 2 rfl) ?_
                refine tk_getP (D := (dC, dI)) (ci := 12) (v := .ref a_2) (C := RX12) (T := TX12) (N := 56) hx hb hU inlX12 hown hK hP mo0 hfo_257 rfl 1 (by decide) (hU _ wd_170) (fun _ h9 => h9) rfl dX12_word_77 ?_
                refine lv_iload_n hx hb dX12_word_80 rfl (lv_at hl 3 rfl) ?_
                refine tk_ildP hx hb hK hP 0 ma_2 hfo_255 rfl (vp_in_iff.mpr (by constructor <;> omega)) dX12_word_81 ?_
                refine tk_topi (y := x_170) ex_170.symm ?_
                refine lv_bipush (v := 6) hx hb dX12_word_82 (by decide) ?_
                refine lv_icmp_ne (tgt := 97) hx hb dX12_word_84 (by decide) (fun c_268 => ?_) (fun c_268 => ?_)
                · skip
                  rw [← Int32.toInt_inj, ti_6] at c_268
                  refine lv_aload_n hx hb dX12_word_97 rfl (lv_at hl 2 rfl) ?_
                  refine tk_getP (D := (dC, dI)) (ci := 12) (v := .ref a_2) (C := RX12) (T := TX12) (N := 56) hx hb hU inlX12 hown hK hP mo0 hfo_257 rfl 1 (by decide) (hU _ wd_170) (fun _ h9 => h9) rfl dX12_word_98 ?_
                  refine lv_iload_n hx hb dX12_word_101 rfl (lv_at hl 3 rfl) ?_
                  refine lv_dup2_11 hx hb dX12_word_102 rfl rfl ?_
                  refine tk_ildP hx hb hK hP 0 ma_2 hfo_255 rfl (vp_in_iff.mpr (by constructor <;> omega)) dX12_word_103 ?_
                  refine tk_topi (y := x_170) ex_170.symm ?_
                  refine lv_iconst (v := 1) hx hb dX12_word_104 (by decide) ?_
                  refine lv_iadd hx hb dX12_word_105 ?_
                  refine lv_topi (fun x_269 ex_269 => ?_)
                  have hx_269 : x_269.toInt = x_170.toInt + 1 := by rw [ex_269, ad_I (by rw [ti_1]; omega) (by rw [ti_1]; omega), ti_1]
                  have bx_269 : (2 ≤ x_269.toInt ∧ x_269.toInt ≤ 6) := by constructor <;> omega
                  refine tk_istP hx hb hK hP hD hS 0 ma_2 hfo_255 rfl (vp_in_iff.mpr (by constructor <;> omega)) dX12_word_106 (fun H locs hP hD hS => ?_)
                  have hc9 := cl_I (i := p1) (by omega)
                  obtain ⟨g_270, eqg_270⟩ : ∃ y : Nat → Int32, y = upd g_169 (Int32.toNatClampNeg p1) x_269 := ⟨_, rfl⟩
                  rw [← eqg_270] at hP hD
                  have hbg_270 : wOK g_270 := by rw [eqg_270]; exact ⟨hbg_169.1.up (fun h1 h2 h3 => by exfalso; omega), hbg_169.2.1.up (fun h1 h2 h3 => by exfalso; omega), hbg_169.2.2.1.up (fun h1 h2 h3 => by exfalso; omega), hbg_169.2.2.2.1.up (fun h1 h2 h3 => by exfalso; omega), hbg_169.2.2.2.2.1.up (fun h1 h2 h3 => by exfalso; omega), hbg_169.2.2.2.2.2.1.up (fun h1 h2 h3 => by exfalso; omega), hbg_169.2.2.2.2.2.2.1.up (fun h1 h2 h3 => by exfalso; omega), hbg_169.2.2.2.2.2.2.2.1.up (fun h1 h2 h3 => by exfalso; omega), hbg_169.2.2.2.2.2.2.2.2.1.up (fun h1 h2 h3 => by exfalso; omega), hbg_169.2.2.2.2.2.2.2.2.2.1.up (fun h1 h2 h3 => by exfalso; omega), hbg_169.2.2.2.2.2.2.2.2.2.2.1.up (fun h1 h2 h3 => by constructor <;> omega), hbg_169.2.2.2.2.2.2.2.2.2.2.2.1.up (fun h1 h2 h3 => by constructor <;> omega), hbg_169.2.2.2.2.2.2.2.2.2.2.2.2.1.up (fun h1 h2 h3 => by exfalso; omega), hbg_169.2.2.2.2.2.2.2.2.2.2.2.2.2.1.up (fun h1 h2 h3 => by exfalso; omega), hbg_169.2.2.2.2.2.2.2.2.2.2.2.2.2.2.1.up (fun h1 h2 h3 => by exfalso; omega), hbg_169.2.2.2.2.2.2.2.2.2.2.2.2.2.2.2.up (fun h1 h2 h3 => by exfalso; omega)⟩
                  obtain ⟨f_272, ef_272⟩ : ∃ y : Nat → va_E, y = va_up f_249 a_2 (.inl (cI, 1560, .inl g_270)) := ⟨_, rfl⟩
                  have hP : va_P (dC, dI) vwCl (va_pl L f_272) H := by rw [ef_272]; exact hP
                  have hD : va_D (fun q => q ∈ L) (va_pl L f_272) := by rw [ef_272]; exact hD
                  have hG : GI (okc cI cL cZ cR cG cH L kd) kd L f_272 := by rw [ef_272]; exact hG.set a_2 (mk_576 ka_2 ⟨_, rfl, hbg_270⟩)
                  have hfo_273 : f_272 o0 = .inr (12, [.ref a_1, .ref a_2, .ref a_3, .int v_4, .ref a_5, .int v_6, .int v_256, .int v_76, .int v_77, .int v_10, .int v_11, .int v_12, .int v_13, .int v_14, .int v_15, .ref a_16, .ref a_17, .ref a_18, .ref a_19, .ref a_20, .ref a_21, .ref a_22, .ref a_23, .int v_24, .int v_25, .int v_26, .int v_27, .int v_28, .ref a_29, .int v_30, .ref a_31, .ref a_32, .int v_33, .int v_34, .ref a_35, .int v_36, .ref a_37, .ref a_38, .int v_39, .int v_40, .ref a_41, .ref a_42, .ref a_43, .int v_44, .ref a_45, .ref a_46, .ref a_47, .ref a_48, .ref a_49, .ref a_50, .ref a_51, .ref a_52, .ref a_53, .int v_54, .int v_55, .ref a_56]) := by rw [ef_272, up_ne (kd_ne ka_2 ko0 (by decide))]; exact hfo_257
                  have hfr0 : ∀ b, kd b ≠ 12 → kd b ≠ 576 → f_272 b = f b := fun b q12 q576 => (congrFun ef_272 b).trans ((up_ne (fun e9 => q576 (by rw [e9]; exact ka_2))).trans (hfr0 b q12 q576))
                  have hrA12 : ∀ b, kd b = 12 → ∀ j, fldR (f_272 b) j = fldR (f b) j := fun b kb j => (congrArg (fun x => fldR x j) ((congrFun ef_272 b).trans (up_ne (kd_ne ka_2 kb (by decide))))).trans (hrA12 b kb j)
                  have hfA12 : ∀ b, kd b = 12 → ∀ j, j ≠ 6 → j ≠ 7 → j ≠ 8 → fldI (f_272 b) j = fldI (f b) j := fun b kb j n6 n7 n8 => (congrArg (fun x => fldI x j) ((congrFun ef_272 b).trans (up_ne (kd_ne ka_2 kb (by decide))))).trans (hfA12 b kb j n6 n7 n8)
                  have hT0 : frel kd 576 8 f_272 a_2 := by rw [ef_272]; exact frel.mk ka_2 up_self (by rw [eqg_270]; exact (hT0.get hfo_255).up (hbg_169.2.1 16 (by decide) (by decide) (by decide)).2 (by omega) (by omega) (by omega) (fun h9 => by exfalso; omega))
                  have hfo_274 : f_272 a_2 = .inl (cI, 1560, .inl g_270) := by rw [ef_272]; exact up_self
                  have ql_275 : x_269 = g_270 (Int32.toNatClampNeg p1) := by rw [eqg_270, pk_us]
                  refine lv_aload_n hx hb dX12_word_107 rfl (lv_at hl 2 rfl) ?_
                  refine tk_getP (D := (dC, dI)) (ci := 12) (v := .ref a_2) (C := RX12) (T := TX12) (N := 56) hx hb hU inlX12 hown hK hP mo0 hfo_273 rfl 1 (by decide) (hU _ wd_170) (fun _ h9 => h9) rfl dX12_word_108 ?_
                  refine lv_iload_n hx hb dX12_word_111 rfl (lv_at hl 3 rfl) ?_
                  refine lv_aload_n hx hb dX12_word_112 rfl (lv_at hl 2 rfl) ?_
                  refine tk_getP (D := (dC, dI)) (ci := 12) (v := .ref a_2) (C := RX12) (T := TX12) (N := 56) hx hb hU inlX12 hown hK hP mo0 hfo_273 rfl 1 (by decide) (hU _ wd_170) (fun _ h9 => h9) rfl dX12_word_113 ?_
                  refine lv_iload_n hx hb dX12_word_116 rfl (lv_at hl 3 rfl) ?_
                  refine tk_ildP hx hb hK hP 0 ma_2 hfo_274 rfl (vp_in_iff.mpr (by constructor <;> omega)) dX12_word_117 ?_
                  refine tk_topi (y := x_269) ql_275.symm ?_
                  refine lv_iadd hx hb dX12_word_118 ?_
                  refine lv_topi (fun x_276 ex_276 => ?_)
                  have hx_276 : x_276.toInt = p1.toInt + x_269.toInt := by rw [ex_276, ad_I (by omega) (by omega)]
                  have bx_276 : (62 ≤ x_276.toInt ∧ x_276.toInt ≤ 218) := by constructor <;> omega
                  refine lv_iload hx hb dX12_word_119 (lv_at hl 0 rfl) ?_
                  refine tk_istP hx hb hK hP hD hS 0 ma_2 hfo_274 rfl (vp_in_iff.mpr (by constructor <;> omega)) dX12_word_121 (fun H locs hP hD hS => ?_)
                  have hc9 := cl_I (i := x_276) (by omega)
                  obtain ⟨g_277, eqg_277⟩ : ∃ y : Nat → Int32, y = upd g_270 (Int32.toNatClampNeg x_276) x_263 := ⟨_, rfl⟩
                  rw [← eqg_277] at hP hD
                  have hbg_277 : wOK g_277 := by rw [eqg_277]; exact ⟨hbg_270.1.up (fun h1 h2 h3 => by exfalso; omega), hbg_270.2.1.up (fun h1 h2 h3 => by exfalso; omega), hbg_270.2.2.1.up (fun h1 h2 h3 => by exfalso; omega), hbg_270.2.2.2.1.up (fun h1 h2 h3 => by exfalso; omega), hbg_270.2.2.2.2.1.up (fun h1 h2 h3 => by exfalso; omega), hbg_270.2.2.2.2.2.1.up (fun h1 h2 h3 => by exfalso; omega), hbg_270.2.2.2.2.2.2.1.up (fun h1 h2 h3 => by exfalso; omega), hbg_270.2.2.2.2.2.2.2.1.up (fun h1 h2 h3 => by exfalso; omega), hbg_270.2.2.2.2.2.2.2.2.1.up (fun h1 h2 h3 => by exfalso; omega), hbg_270.2.2.2.2.2.2.2.2.2.1.up (fun h1 h2 h3 => by exfalso; omega), hbg_270.2.2.2.2.2.2.2.2.2.2.1.up (fun h1 h2 h3 => by constructor <;> omega), hbg_270.2.2.2.2.2.2.2.2.2.2.2.1.up (fun h1 h2 h3 => by first | (exfalso; omega) | (constructor <;> omega)), hbg_270.2.2.2.2.2.2.2.2.2.2.2.2.1.up (fun h1 h2 h3 => by exfalso; omega), hbg_270.2.2.2.2.2.2.2.2.2.2.2.2.2.1.up (fun h1 h2 h3 => by exfalso; omega), hbg_270.2.2.2.2.2.2.2.2.2.2.2.2.2.2.1.up (fun h1 h2 h3 => by exfalso; omega), hbg_270.2.2.2.2.2.2.2.2.2.2.2.2.2.2.2.up (fun h1 h2 h3 => by exfalso; omega)⟩
                  obtain ⟨f_279, ef_279⟩ : ∃ y : Nat → va_E, y = va_up f_272 a_2 (.inl (cI, 1560, .inl g_277)) := ⟨_, rfl⟩
                  have hP : va_P (dC, dI) vwCl (va_pl L f_279) H := by rw [ef_279]; exact hP
                  have hD : va_D (fun q => q ∈ L) (va_pl L f_279) := by rw [ef_279]; exact hD
                  have hG : GI (okc cI cL cZ cR cG cH L kd) kd L f_279 := by rw [ef_279]; exact hG.set a_2 (mk_576 ka_2 ⟨_, rfl, hbg_277⟩)
                  have hfo_280 : f_279 o0 = .inr (12, [.ref a_1, .ref a_2, .ref a_3, .int v_4, .ref a_5, .int v_6, .int v_256, .int v_76, .int v_77, .int v_10, .int v_11, .int v_12, .int v_13, .int v_14, .int v_15, .ref a_16, .ref a_17, .ref a_18, .ref a_19, .ref a_20, .ref a_21, .ref a_22, .ref a_23, .int v_24, .int v_25, .int v_26, .int v_27, .int v_28, .ref a_29, .int v_30, .ref a_31, .ref a_32, .int v_33, .int v_34, .ref a_35, .int v_36, .ref a_37, .ref a_38, .int v_39, .int v_40, .ref a_41, .ref a_42, .ref a_43, .int v_44, .ref a_45, .ref a_46, .ref a_47, .ref a_48, .ref a_49, .ref a_50, .ref a_51, .ref a_52, .ref a_53, .int v_54, .int v_55, .ref a_56]) := by rw [ef_279, up_ne (kd_ne ka_2 ko0 (by decide))]; exact hfo_273
                  have hfr0 : ∀ b, kd b ≠ 12 → kd b ≠ 576 → f_279 b = f b := fun b q12 q576 => (congrFun ef_279 b).trans ((up_ne (fun e9 => q576 (by rw [e9]; exact ka_2))).trans (hfr0 b q12 q576))
                  have hrA12 : ∀ b, kd b = 12 → ∀ j, fldR (f_279 b) j = fldR (f b) j := fun b kb j => (congrArg (fun x => fldR x j) ((congrFun ef_279 b).trans (up_ne (kd_ne ka_2 kb (by decide))))).trans (hrA12 b kb j)
                  have hfA12 : ∀ b, kd b = 12 → ∀ j, j ≠ 6 → j ≠ 7 → j ≠ 8 → fldI (f_279 b) j = fldI (f b) j := fun b kb j n6 n7 n8 => (congrArg (fun x => fldI x j) ((congrFun ef_279 b).trans (up_ne (kd_ne ka_2 kb (by decide))))).trans (hfA12 b kb j n6 n7 n8)
                  have hT0 : frel kd 576 8 f_279 a_2 := by rw [ef_279]; exact frel.mk ka_2 up_self (by rw [eqg_277]; exact (hT0.get hfo_274).up (hbg_270.2.1 16 (by decide) (by decide) (by decide)).2 (by omega) (by omega) (by omega) (fun h9 => by exfalso; omega))
                  have hfo_281 : f_279 a_2 = .inl (cI, 1560, .inl g_277) := by rw [ef_279]; exact up_self
                  have ql_282 : x_263 = g_277 (Int32.toNatClampNeg x_276) := by rw [eqg_277, pk_us]
                  have hclc_283 : (0 ≤ v_256.toInt ∧ v_256.toInt ≤ 599) := by constructor <;> omega
                  refine lv_aload_n hx hb dX12_word_122 rfl (lv_at hl 2 rfl) ?_
                  refine lv_dup hx hb dX12_word_123 rfl ?_
                  refine tk_getP (D := (dC, dI)) (ci := 12) (v := .int v_256) (C := RX12) (T := TX12) (N := 56) hx hb hU inlX12 hown hK hP mo0 hfo_280 rfl 6 (by decide) (hU _ wd_566) (fun _ h9 => h9) rfl dX12_word_124 ?_
                  refine lv_iconst (v := 1) hx hb dX12_word_127 (by decide) ?_
                  refine lv_iadd hx hb dX12_word_128 ?_
                  refine lv_topi (fun x_284 ex_284 => ?_)
                  have hx_284 : x_284.toInt = v_256.toInt + 1 := by rw [ex_284, ad_I (by rw [ti_1]; omega) (by rw [ti_1]; omega), ti_1]
                  have bx_284 : (1 ≤ x_284.toInt ∧ x_284.toInt ≤ 600) := by constructor <;> omega
                  refine tk_putP (D := (dC, dI)) (ci := 12) (v := .int x_284) (ty := .int) (C := RX12) (T := TX12) (N := 56) hx hb hU inlX12 tyX12 tyX12_ok nmX12 hown hK hP hD hS mo0 hfo_280 rfl 6 (by decide) (hU _ wd_566) (fun _ h9 => h9) rfl (by decide +kernel) rfl rfl (Nat.le_of_ble_eq_true rfl) dX12_word_129 (fun H locs hP hD hS => ?_)
                  have fa_285 := fu12_6 (y := x_284) fa_258 (by constructor <;> omega)
                  obtain ⟨f_287, ef_287⟩ : ∃ y : Nat → va_E, y = va_up f_279 o0 (.inr (12, [.ref a_1, .ref a_2, .ref a_3, .int v_4, .ref a_5, .int v_6, .int x_284, .int v_76, .int v_77, .int v_10, .int v_11, .int v_12, .int v_13, .int v_14, .int v_15, .ref a_16, .ref a_17, .ref a_18, .ref a_19, .ref a_20, .ref a_21, .ref a_22, .ref a_23, .int v_24, .int v_25, .int v_26, .int v_27, .int v_28, .ref a_29, .int v_30, .ref a_31, .ref a_32, .int v_33, .int v_34, .ref a_35, .int v_36, .ref a_37, .ref a_38, .int v_39, .int v_40, .ref a_41, .ref a_42, .ref a_43, .int v_44, .ref a_45, .ref a_46, .ref a_47, .ref a_48, .ref a_49, .ref a_50, .ref a_51, .ref a_52, .ref a_53, .int v_54, .int v_55, .ref a_56])) := ⟨_, rfl⟩
                  have hP : va_P (dC, dI) vwCl (va_pl L f_287) H := by rw [ef_287]; exact hP
                  have hD : va_D (fun q => q ∈ L) (va_pl L f_287) := by rw [ef_287]; exact hD
                  have hG : GI (okc cI cL cZ cR cG cH L kd) kd L f_287 := by rw [ef_287]; exact hG.set o0 (mk_12 ko0 (fo12 fa_285))
                  have hfo_288 : f_287 a_2 = .inl (cI, 1560, .inl g_277) := by rw [ef_287, up_ne (kd_ne ko0 ka_2 (by decide))]; exact hfo_281
                  have hfr0 : ∀ b, kd b ≠ 12 → kd b ≠ 576 → f_287 b = f b := fun b q12 q576 => (congrFun ef_287 b).trans ((up_ne (fun e9 => q12 (by rw [e9]; exact ko0))).trans (hfr0 b q12 q576))
                  have hrA12 : ∀ b, kd b = 12 → ∀ j, fldR (f_287 b) j = fldR (f b) j := fun b kb j => ((congrArg (fun x => fldR x j) (congrFun ef_287 b)).trans (fra_up (fun j => by rw [hfo_280]; exact fr_set (k := 6) rfl rfl) j b)).trans (hrA12 b kb j)
                  have hfA12 : ∀ b, kd b = 12 → ∀ j, j ≠ 6 → j ≠ 7 → j ≠ 8 → fldI (f_287 b) j = fldI (f b) j := fun b kb j n6 n7 n8 => ((congrArg (fun x => fldI x j) (congrFun ef_287 b)).trans (fia_up (fun h9 => by rw [hfo_280]; exact fi_set (k := 6) rfl h9) n6 b)).trans (hfA12 b kb j n6 n7 n8)
                  have hT0 : frel kd 576 8 f_287 a_2 := by rw [ef_287]; exact hT0.keep (fun b q => up_ne (kd_ne ko0 q (by decide)))
                  have hfo_289 : f_287 o0 = .inr (12, [.ref a_1, .ref a_2, .ref a_3, .int v_4, .ref a_5, .int v_6, .int x_284, .int v_76, .int v_77, .int v_10, .int v_11, .int v_12, .int v_13, .int v_14, .int v_15, .ref a_16, .ref a_17, .ref a_18, .ref a_19, .ref a_20, .ref a_21, .ref a_22, .ref a_23, .int v_24, .int v_25, .int v_26, .int v_27, .int v_28, .ref a_29, .int v_30, .ref a_31, .ref a_32, .int v_33, .int v_34, .ref a_35, .int v_36, .ref a_37, .ref a_38, .int v_39, .int v_40, .ref a_41, .ref a_42, .ref a_43, .int v_44, .ref a_45, .ref a_46, .ref a_47, .ref a_48, .ref a_49, .ref a_50, .ref a_51, .ref a_52, .ref a_53, .int v_54, .int v_55, .ref a_56]) := by rw [ef_287]; exact up_self
                  refine lv_goto (tgt := 7) hx hb dX12_word_132 (by decide) ?_
                  exact ih_hloop_72 f_287 hG _ _ hP hS hD hfr0 hrA12 hfA12 hT0 x_284 (by rw [hfo_289]; rfl) (by omega) (by omega) (by omega) ls (lv_sub hl [2, 3, 4] rfl)
                · skip
                  rw [← Int32.toInt_inj, ti_6] at c_268
                  refine lv_aload_n hx hb dX12_word_87 rfl (lv_at hl 2 rfl) ?_
                  refine lv_iconst (v := 3) hx hb dX12_word_88 (by decide) ?_
                  refine lv_aload_n hx hb dX12_word_89 rfl (lv_at hl 2 rfl) ?_
                  refine tk_getP (D := (dC, dI)) (ci := 12) (v := .int v_256) (C := RX12) (T := TX12) (N := 56) hx hb hU inlX12 hown hK hP mo0 hfo_257 rfl 6 (by decide) (hU _ wd_566) (fun _ h9 => h9) rfl dX12_word_90 ?_
                  refine tk_ViP (As := [.int 3, .int v_256]) (rest := []) (n := 2) hx hb hml hown hU hN hZ (s_X12_bad_k12 l (dC, dI) cI cL cZ cR cG cH Z kd L f_249 hG o0 mo0 ko0 3 v_256) wd_602 wd_603 wd_604 wd_5 wd_605 (by decide +kernel) ⟨Nat.le_of_ble_eq_true rfl, Nat.le_of_ble_eq_true rfl⟩ hK hP hD hS mo0 hfo_257 12 rfl rfl rfl hl.1 rfl (Nat.le_of_ble_eq_true rfl) dX12_word_93 ⟨Nat.le_of_ble_eq_true rfl, Nat.le_of_ble_eq_true rfl⟩ (fun x_290 f_291 H locs hw hP hD hS => ?_)
                  obtain ⟨hG, bx_290, hkc_292, hra_293, hfa_294⟩ := hw
                  have hfo_296 : f_291 a_2 = .inl (cI, 1560, .inl g_169) := by rw [hkc_292 a_2 (by rw [ka_2]; decide)]; exact hfo_255
                  have hfr0 : ∀ b, kd b ≠ 12 → kd b ≠ 576 → f_291 b = f b := fun b q12 q576 => (hkc_292 b q12).trans (hfr0 b q12 q576)
                  have hrA12 : ∀ b, kd b = 12 → ∀ j, fldR (f_291 b) j = fldR (f b) j := fun b kb j => (hra_293 b kb j).trans (hrA12 b kb j)
                  have hfA12 : ∀ b, kd b = 12 → ∀ j, j ≠ 6 → j ≠ 7 → j ≠ 8 → fldI (f_291 b) j = fldI (f b) j := fun b kb j n6 n7 n8 => (hfa_294 b kb j n7 n8).trans (hfA12 b kb j n6 n7 n8)
                  have hT0 : frel kd 576 8 f_291 a_2 := hT0.keep (fun b q => hkc_292 b (by rw [q]; decide))
                  obtain ⟨v_297, v_298, hfo_299, fa_300⟩ := op12_7_8 hfo_257 (hG _ mo0) ko0 (hra_293 o0 ko0) (hfa_294 o0 ko0)
                  have bv_297 : ((-2147483648) ≤ v_297.toInt ∧ v_297.toInt ≤ 2147483647) := ⟨i32_lo _, i32_hi _⟩
                  have bv_298 : ((-2147483648) ≤ v_298.toInt ∧ v_298.toInt ≤ 2147483647) := ⟨i32_lo _, i32_hi _⟩
                  exact W.zret (v := x_290) (ty := .boolean) hx hb hr (zb_n (by constructor <;> omega)) (fun t ht hW => ⟨⟨x_290, f_291, rfl, ⟨hG, (by constructor <;> omega), hfr0, hrA12, hfA12, (by intro w6 z6 e6 d6; rw [hfo_57] at e6; rw [hfo_299] at d6; obtain rfl := Option.some.inj e6; obtain rfl := Option.some.inj d6; omega), (fun d9 h9 => by rw [hfo_299] at h9; obtain rfl := Option.some.inj h9; exact hT0)⟩, by rw [ht]; exact hP, va_K.moved hW.alike hK, pl_in hD⟩, hS.F ht⟩) hS.2.2 dX12_word_96
              · skip
                rw [← Int32.toInt_inj, ti_0] at c_267
                refine lv_aload_n hx hb dX12_word_66 rfl (lv_at hl 2 rfl) ?_
                refine lv_iconst (v := 2) hx hb dX12_word_67 (by decide) ?_
                refine lv_aload_n hx hb dX12_word_68 rfl (lv_at hl 2 rfl) ?_
                refine tk_getP (D := (dC, dI)) (ci := 12) (v := .int v_256) (C := RX12) (T := TX12) (N := 56) hx hb hU inlX12 hown hK hP mo0 hfo_257 rfl 6 (by decide) (hU _ wd_566) (fun _ h9 => h9) rfl dX12_word_69 ?_
                refine tk_ViP (As := [.int 2, .int v_256]) (rest := []) (n := 2) hx hb hml hown hU hN hZ (s_X12_bad_k12 l (dC, dI) cI cL cZ cR cG cH Z kd L f_249 hG o0 mo0 ko0 2 v_256) wd_602 wd_603 wd_604 wd_5 wd_605 (by decide +kernel) ⟨Nat.le_of_ble_eq_true rfl, Nat.le_of_ble_eq_true rfl⟩ hK hP hD hS mo0 hfo_257 12 rfl rfl rfl hl.1 rfl (Nat.le_of_ble_eq_true rfl) dX12_word_72 ⟨Nat.le_of_ble_eq_true rfl, Nat.le_of_ble_eq_true rfl⟩ (fun x_301 f_302 H locs hw hP hD hS => ?_)
                obtain ⟨hG, bx_301, hkc_303, hra_304, hfa_305⟩ := hw
                have hfo_307 : f_302 a_2 = .inl (cI, 1560, .inl g_169) := by rw [hkc_303 a_2 (by rw [ka_2]; decide)]; exact hfo_255
                have hfr0 : ∀ b, kd b ≠ 12 → kd b ≠ 576 → f_302 b = f b := fun b q12 q576 => (hkc_303 b q12).trans (hfr0 b q12 q576)
                have hrA12 : ∀ b, kd b = 12 → ∀ j, fldR (f_302 b) j = fldR (f b) j := fun b kb j => (hra_304 b kb j).trans (hrA12 b kb j)
                have hfA12 : ∀ b, kd b = 12 → ∀ j, j ≠ 6 → j ≠ 7 → j ≠ 8 → fldI (f_302 b) j = fldI (f b) j := fun b kb j n6 n7 n8 => (hfa_305 b kb j n7 n8).trans (hfA12 b kb j n6 n7 n8)
                have hT0 : frel kd 576 8 f_302 a_2 := hT0.keep (fun b q => hkc_303 b (by rw [q]; decide))
                obtain ⟨v_308, v_309, hfo_310, fa_311⟩ := op12_7_8 hfo_257 (hG _ mo0) ko0 (hra_304 o0 ko0) (hfa_305 o0 ko0)
                have bv_308 : ((-2147483648) ≤ v_308.toInt ∧ v_308.toInt ≤ 2147483647) := ⟨i32_lo _, i32_hi _⟩
                have bv_309 : ((-2147483648) ≤ v_309.toInt ∧ v_309.toInt ≤ 2147483647) := ⟨i32_lo _, i32_hi _⟩
                exact W.zret (v := x_301) (ty := .boolean) hx hb hr (zb_n (by constructor <;> omega)) (fun t ht hW => ⟨⟨x_301, f_302, rfl, ⟨hG, (by constructor <;> omega), hfr0, hrA12, hfA12, (by intro w6 z6 e6 d6; rw [hfo_57] at e6; rw [hfo_310] at d6; obtain rfl := Option.some.inj e6; obtain rfl := Option.some.inj d6; omega), (fun d9 h9 => by rw [hfo_310] at h9; obtain rfl := Option.some.inj h9; exact hT0)⟩, by rw [ht]; exact hP, va_K.moved hW.alike hK, pl_in hD⟩, hS.F ht⟩) hS.2.2 dX12_word_75
            · skip
              rw [← Int32.toInt_inj, ti_0] at c_262
              refine lv_aload_n hx hb dX12_word_41 rfl (lv_at hl 1 rfl) ?_
              refine lv_iconst (v := 1) hx hb dX12_word_42 (by decide) ?_
              refine lv_aload_n hx hb dX12_word_43 rfl (lv_at hl 1 rfl) ?_
              refine tk_getP (D := (dC, dI)) (ci := 12) (v := .int v_256) (C := RX12) (T := TX12) (N := 56) hx hb hU inlX12 hown hK hP mo0 hfo_257 rfl 6 (by decide) (hU _ wd_566) (fun _ h9 => h9) rfl dX12_word_44 ?_
              refine tk_ViP (As := [.int 1, .int v_256]) (rest := []) (n := 2) hx hb hml hown hU hN hZ (s_X12_bad_k12 l (dC, dI) cI cL cZ cR cG cH Z kd L f_249 hG o0 mo0 ko0 1 v_256) wd_602 wd_603 wd_604 wd_5 wd_605 (by decide +kernel) ⟨Nat.le_of_ble_eq_true rfl, Nat.le_of_ble_eq_true rfl⟩ hK hP hD hS mo0 hfo_257 12 rfl rfl rfl hl.1 rfl (Nat.le_of_ble_eq_true rfl) dX12_word_47 ⟨Nat.le_of_ble_eq_true rfl, Nat.le_of_ble_eq_true rfl⟩ (fun x_312 f_313 H locs hw hP hD hS => ?_)
              obtain ⟨hG, bx_312, hkc_314, hra_315, hfa_316⟩ := hw
              have hfo_318 : f_313 a_2 = .inl (cI, 1560, .inl g_169) := by rw [hkc_314 a_2 (by rw [ka_2]; decide)]; exact hfo_255
              have hfr0 : ∀ b, kd b ≠ 12 → kd b ≠ 576 → f_313 b = f b := fun b q12 q576 => (hkc_314 b q12).trans (hfr0 b q12 q576)
              have hrA12 : ∀ b, kd b = 12 → ∀ j, fldR (f_313 b) j = fldR (f b) j := fun b kb j => (hra_315 b kb j).trans (hrA12 b kb j)
              have hfA12 : ∀ b, kd b = 12 → ∀ j, j ≠ 6 → j ≠ 7 → j ≠ 8 → fldI (f_313 b) j = fldI (f b) j := fun b kb j n6 n7 n8 => (hfa_316 b kb j n7 n8).trans (hfA12 b kb j n6 n7 n8)
              have hT0 : frel kd 576 8 f_313 a_2 := hT0.keep (fun b q => hkc_314 b (by rw [q]; decide))
              obtain ⟨v_319, v_320, hfo_321, fa_322⟩ := op12_7_8 hfo_257 (hG _ mo0) ko0 (hra_315 o0 ko0) (hfa_316 o0 ko0)
              have bv_319 : ((-2147483648) ≤ v_319.toInt ∧ v_319.toInt ≤ 2147483647) := ⟨i32_lo _, i32_hi _⟩
              have bv_320 : ((-2147483648) ≤ v_320.toInt ∧ v_320.toInt ≤ 2147483647) := ⟨i32_lo _, i32_hi _⟩
              exact W.zret (v := x_312) (ty := .boolean) hx hb hr (zb_n (by constructor <;> omega)) (fun t ht hW => ⟨⟨x_312, f_313, rfl, ⟨hG, (by constructor <;> omega), hfr0, hrA12, hfA12, (by intro w6 z6 e6 d6; rw [hfo_57] at e6; rw [hfo_321] at d6; obtain rfl := Option.some.inj e6; obtain rfl := Option.some.inj d6; omega), (fun d9 h9 => by rw [hfo_321] at h9; obtain rfl := Option.some.inj h9; exact hT0)⟩, by rw [ht]; exact hP, va_K.moved hW.alike hK, pl_in hD⟩, hS.F ht⟩) hS.2.2 dX12_word_50
  exact hloop_72 601 f_63 hG _ _ hP hS hD hfr0 hrA12 hfA12 hT0 v_7 (by rw [hfo_64]; rfl) (by omega) (by omega) (by omega) ls hl
