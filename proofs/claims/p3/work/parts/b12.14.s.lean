set_option maxHeartbeats 8000000 in
set_option maxRecDepth 100000 in
theorem s_X12_ages_k12 (l : Launch) (D : va_G) (cI cL cZ cR cG cH : ClassId) (Z : zT) (kd : Nat → Nat) (L : List Nat) (f : Nat → va_E) (hG : GI (okc cI cL cZ cR cG cH L kd) kd L f) (o0 : Nat) (mo0 : o0 ∈ L) (ko0 : kd o0 = 12) : mPI l D cI cL cZ cR cG cH Z yX12_ages cX12_ages 2 (some .int) 6 152 [.ref o0] L f (fun (r : Int32) (f9 : Nat → va_E) => GI (okc cI cL cZ cR cG cH L kd) kd L f9 ∧ ((-2147483648) ≤ r.toInt ∧ r.toInt ≤ 2147483647) ∧ (∀ b, kd b ≠ 12 → kd b ≠ 589 → kd b ≠ 597 → kd b ≠ 598 → kd b ≠ 599 → f9 b = f b) ∧ (∀ b, kd b = 12 → ∀ j, fldR (f9 b) j = fldR (f b) j) ∧ (∀ b, kd b = 12 → ∀ j, j ≠ 5 → j ≠ 23 → j ≠ 43 → fldI (f9 b) j = fldI (f b) j) ∧ (∀ (w5 z5 : Int32), fldI (f o0) 5 = some w5 → fldI (f9 o0) 5 = some z5 → z5.toInt = 0)) := by
  obtain ⟨dC, dI⟩ := D
  refine Met.ofW (cc := cX12_ages) (maxL := 2) (ret := (some .int)) (by decide) rfl ?_
  intro p e s m args below meth c s₁ B hml hv
  obtain ⟨rfl, hP, hK, hD0, hN, hZ⟩ := hv
  have hx := B.exec
  have hb := B.bytes
  have hr := B.returns
  have hU : ∀ w ∈ wsU, w.before _ s = true := fun w h => atoms_spec (ws := wU yX12_ages cX12_ages 2 (some .int)) B.pre w (List.mem_cons_of_mem _ h)
  have hown : s.vm.findClass RX12 = some m.cls := findClass_of_methodNamed B.named
  have hlocks := B.notSynchronized
  have hD := pl_in hD0
  have hS : va_S (fun q => q ∈ L) s.heap s.heap [] := va_S.rf
  have hl := lv_entry ([.ref o0]) (n := 2) (Nat.le_of_ble_eq_true rfl)
  rw [lg_entry_eq]
  generalize (lg_sl ([.ref o0]) ++ List.replicate (2 - (lg_sl ([.ref o0])).length) Slot.unset).toArray = ls at hl ⊢
  have hl : lv_has ls 2 [(0, .ref o0)] := hl
  have hfr0 : ∀ b, kd b ≠ 12 → kd b ≠ 589 → kd b ≠ 597 → kd b ≠ 598 → kd b ≠ 599 → f b = f b := fun _ _ _ _ _ _ => rfl
  have hrA12 : ∀ b, kd b = 12 → ∀ j, fldR (f b) j = fldR (f b) j := fun _ _ _ => rfl
  have hfA12 : ∀ b, kd b = 12 → ∀ j, j ≠ 5 → j ≠ 23 → j ≠ 43 → fldI (f b) j = fldI (f b) j := fun _ _ _ _ _ _ => rfl
  obtain ⟨a_1, a_2, a_3, v_4, a_5, v_6, v_7, v_8, v_9, v_10, v_11, v_12, v_13, v_14, v_15, a_16, a_17, a_18, a_19, a_20, a_21, a_22, a_23, v_24, v_25, v_26, v_27, v_28, a_29, v_30, a_31, a_32, v_33, v_34, a_35, v_36, a_37, a_38, v_39, v_40, a_41, a_42, a_43, v_44, a_45, a_46, a_47, a_48, a_49, a_50, a_51, a_52, a_53, v_54, v_55, a_56, hfo_57, fa_58⟩ := un12 (hG _ mo0) ko0
  obtain ⟨ma_1, ka_1⟩ := fa12_0 fa_58
  have bv_6 : (0 ≤ v_6.toInt ∧ v_6.toInt ≤ 600) := fa12_5 fa_58
  obtain ⟨ma_22, ka_22⟩ := fa12_21 fa_58
  have bv_24 : (0 ≤ v_24.toInt ∧ v_24.toInt ≤ 12) := fa12_23 fa_58
  obtain ⟨ma_41, ka_41⟩ := fa12_40 fa_58
  refine lv_aload_n hx hb dX12_ages_0 rfl (lv_at hl 0 rfl) ?_
  refine lv_iconst (v := 0) hx hb dX12_ages_1 (by decide) ?_
  refine tk_putP (D := (dC, dI)) (ci := 12) (v := .int 0) (ty := .int) (C := RX12) (T := TX12) (N := 56) hx hb hU inlX12 tyX12 tyX12_ok nmX12 hown hK hP hD hS mo0 hfo_57 rfl 43 (by decide) (hU _ wd_572) (fun _ h9 => h9) rfl (by decide +kernel) rfl rfl (Nat.le_of_ble_eq_true rfl) dX12_ages_2 (fun H locs hP hD hS => ?_)
  have fa_59 := fu12_43 (y := 0) fa_58 (by decide)
  obtain ⟨f_61, ef_61⟩ : ∃ y : Nat → va_E, y = va_up f o0 (.inr (12, [.ref a_1, .ref a_2, .ref a_3, .int v_4, .ref a_5, .int v_6, .int v_7, .int v_8, .int v_9, .int v_10, .int v_11, .int v_12, .int v_13, .int v_14, .int v_15, .ref a_16, .ref a_17, .ref a_18, .ref a_19, .ref a_20, .ref a_21, .ref a_22, .ref a_23, .int v_24, .int v_25, .int v_26, .int v_27, .int v_28, .ref a_29, .int v_30, .ref a_31, .ref a_32, .int v_33, .int v_34, .ref a_35, .int v_36, .ref a_37, .ref a_38, .int v_39, .int v_40, .ref a_41, .ref a_42, .ref a_43, .int 0, .ref a_45, .ref a_46, .ref a_47, .ref a_48, .ref a_49, .ref a_50, .ref a_51, .ref a_52, .ref a_53, .int v_54, .int v_55, .ref a_56])) := ⟨_, rfl⟩
  have hP : va_P (dC, dI) vwCl (va_pl L f_61) H := by rw [ef_61]; exact hP
  have hD : va_D (fun q => q ∈ L) (va_pl L f_61) := by rw [ef_61]; exact hD
  have hG : GI (okc cI cL cZ cR cG cH L kd) kd L f_61 := by rw [ef_61]; exact hG.set o0 (mk_12 ko0 (fo12 fa_59))
  have hfr0 : ∀ b, kd b ≠ 12 → kd b ≠ 589 → kd b ≠ 597 → kd b ≠ 598 → kd b ≠ 599 → f_61 b = f b := fun b q12 q589 q597 q598 q599 => (congrFun ef_61 b).trans ((up_ne (fun e9 => q12 (by rw [e9]; exact ko0))).trans (hfr0 b q12 q589 q597 q598 q599))
  have hrA12 : ∀ b, kd b = 12 → ∀ j, fldR (f_61 b) j = fldR (f b) j := fun b kb j => ((congrArg (fun x => fldR x j) (congrFun ef_61 b)).trans (fra_up (fun j => by rw [hfo_57]; exact fr_set (k := 43) rfl rfl) j b)).trans (hrA12 b kb j)
  have hfA12 : ∀ b, kd b = 12 → ∀ j, j ≠ 5 → j ≠ 23 → j ≠ 43 → fldI (f_61 b) j = fldI (f b) j := fun b kb j n5 n23 n43 => ((congrArg (fun x => fldI x j) (congrFun ef_61 b)).trans (fia_up (fun h9 => by rw [hfo_57]; exact fi_set (k := 43) rfl h9) n43 b)).trans (hfA12 b kb j n5 n23 n43)
  have hfo_62 : f_61 o0 = .inr (12, [.ref a_1, .ref a_2, .ref a_3, .int v_4, .ref a_5, .int v_6, .int v_7, .int v_8, .int v_9, .int v_10, .int v_11, .int v_12, .int v_13, .int v_14, .int v_15, .ref a_16, .ref a_17, .ref a_18, .ref a_19, .ref a_20, .ref a_21, .ref a_22, .ref a_23, .int v_24, .int v_25, .int v_26, .int v_27, .int v_28, .ref a_29, .int v_30, .ref a_31, .ref a_32, .int v_33, .int v_34, .ref a_35, .int v_36, .ref a_37, .ref a_38, .int v_39, .int v_40, .ref a_41, .ref a_42, .ref a_43, .int 0, .ref a_45, .ref a_46, .ref a_47, .ref a_48, .ref a_49, .ref a_50, .ref a_51, .ref a_52, .ref a_53, .int v_54, .int v_55, .ref a_56]) := by rw [ef_61]; exact up_self
  refine lv_aload_n hx hb dX12_ages_5 rfl (lv_at hl 0 rfl) ?_
  refine lv_iconst (v := 1) hx hb dX12_ages_6 (by decide) ?_
  refine lv_bipush (v := 8) hx hb dX12_ages_7 (by decide) ?_
  refine tk_ViP (As := [.int 1, .int 8]) (rest := []) (n := 2) hx hb hml hown hU hN hZ (s_X12_takesWord_k12_c1_c8 l (dC, dI) cI cL cZ cR cG cH Z kd L f_61 hG o0 mo0 ko0) wd_863 wd_864 wd_865 wd_5 wd_866 (by decide +kernel) ⟨Nat.le_of_ble_eq_true rfl, Nat.le_of_ble_eq_true rfl⟩ hK hP hD hS mo0 hfo_62 12 rfl rfl rfl hl.1 rfl (Nat.le_of_ble_eq_true rfl) dX12_ages_9 ⟨Nat.le_of_ble_eq_true rfl, Nat.le_of_ble_eq_true rfl⟩ (fun x_63 f_64 H locs hw hP hD hS => ?_)
  obtain ⟨hG, bx_63, hkc_65, hra_66, hfa_67, hpost_68⟩ := hw
  have hfr0 : ∀ b, kd b ≠ 12 → kd b ≠ 589 → kd b ≠ 597 → kd b ≠ 598 → kd b ≠ 599 → f_64 b = f b := fun b q12 q589 q597 q598 q599 => (hkc_65 b q12 q589).trans (hfr0 b q12 q589 q597 q598 q599)
  have hrA12 : ∀ b, kd b = 12 → ∀ j, fldR (f_64 b) j = fldR (f b) j := fun b kb j => (hra_66 b kb j).trans (hrA12 b kb j)
  have hfA12 : ∀ b, kd b = 12 → ∀ j, j ≠ 5 → j ≠ 23 → j ≠ 43 → fldI (f_64 b) j = fldI (f b) j := fun b kb j n5 n23 n43 => (hfa_67 b kb j n5 n23).trans (hfA12 b kb j n5 n23 n43)
  obtain ⟨v_70, v_71, hfo_72, fa_73⟩ := op12_5_23 hfo_62 (hG _ mo0) ko0 (hra_66 o0 ko0) (hfa_67 o0 ko0)
  have bv_70 : (0 ≤ v_70.toInt ∧ v_70.toInt ≤ 600) := fa12_5 fa_73
  have bv_71 : (0 ≤ v_71.toInt ∧ v_71.toInt ≤ 12) := fa12_23 fa_73
  have hqhpost_68 := hpost_68 v_6 v_70 v_24 v_71 (by rw [hfo_62]; rfl) (by rw [hfo_62]; rfl) (by rw [hfo_72]; rfl) (by rw [hfo_72]; rfl)
  try rw [ti_1] at hqhpost_68
  try rw [ti_8] at hqhpost_68
  refine lv_if_ne (tgt := 17) hx hb dX12_ages_12 (by decide) (fun c_74 => ?_) (fun c_74 => ?_)
  · skip
    rw [← Int32.toInt_inj, ti_0] at c_74
    have hclc_75 : (0 ≤ v_71.toInt ∧ v_71.toInt ≤ 8) := by constructor <;> omega
    refine lv_aload_n hx hb dX12_ages_17 rfl (lv_at hl 0 rfl) ?_
    refine lv_aload_n hx hb dX12_ages_18 rfl (lv_at hl 0 rfl) ?_
    refine tk_getP (D := (dC, dI)) (ci := 12) (v := .int v_71) (C := RX12) (T := TX12) (N := 56) hx hb hU inlX12 hown hK hP mo0 hfo_72 rfl 23 (by decide) (hU _ wd_867) (fun _ h9 => h9) rfl dX12_ages_19 ?_
    refine tk_putP (D := (dC, dI)) (ci := 12) (v := .int v_71) (ty := .int) (C := RX12) (T := TX12) (N := 56) hx hb hU inlX12 tyX12 tyX12_ok nmX12 hown hK hP hD hS mo0 hfo_72 rfl 43 (by decide) (hU _ wd_572) (fun _ h9 => h9) rfl (by decide +kernel) rfl rfl (Nat.le_of_ble_eq_true rfl) dX12_ages_22 (fun H locs hP hD hS => ?_)
    have fa_76 := fu12_43 (y := v_71) fa_73 (by constructor <;> omega)
    obtain ⟨f_78, ef_78⟩ : ∃ y : Nat → va_E, y = va_up f_64 o0 (.inr (12, [.ref a_1, .ref a_2, .ref a_3, .int v_4, .ref a_5, .int v_70, .int v_7, .int v_8, .int v_9, .int v_10, .int v_11, .int v_12, .int v_13, .int v_14, .int v_15, .ref a_16, .ref a_17, .ref a_18, .ref a_19, .ref a_20, .ref a_21, .ref a_22, .ref a_23, .int v_71, .int v_25, .int v_26, .int v_27, .int v_28, .ref a_29, .int v_30, .ref a_31, .ref a_32, .int v_33, .int v_34, .ref a_35, .int v_36, .ref a_37, .ref a_38, .int v_39, .int v_40, .ref a_41, .ref a_42, .ref a_43, .int v_71, .ref a_45, .ref a_46, .ref a_47, .ref a_48, .ref a_49, .ref a_50, .ref a_51, .ref a_52, .ref a_53, .int v_54, .int v_55, .ref a_56])) := ⟨_, rfl⟩
    have hP : va_P (dC, dI) vwCl (va_pl L f_78) H := by rw [ef_78]; exact hP
    have hD : va_D (fun q => q ∈ L) (va_pl L f_78) := by rw [ef_78]; exact hD
    have hG : GI (okc cI cL cZ cR cG cH L kd) kd L f_78 := by rw [ef_78]; exact hG.set o0 (mk_12 ko0 (fo12 fa_76))
    have hfr0 : ∀ b, kd b ≠ 12 → kd b ≠ 589 → kd b ≠ 597 → kd b ≠ 598 → kd b ≠ 599 → f_78 b = f b := fun b q12 q589 q597 q598 q599 => (congrFun ef_78 b).trans ((up_ne (fun e9 => q12 (by rw [e9]; exact ko0))).trans (hfr0 b q12 q589 q597 q598 q599))
    have hrA12 : ∀ b, kd b = 12 → ∀ j, fldR (f_78 b) j = fldR (f b) j := fun b kb j => ((congrArg (fun x => fldR x j) (congrFun ef_78 b)).trans (fra_up (fun j => by rw [hfo_72]; exact fr_set (k := 43) rfl rfl) j b)).trans (hrA12 b kb j)
    have hfA12 : ∀ b, kd b = 12 → ∀ j, j ≠ 5 → j ≠ 23 → j ≠ 43 → fldI (f_78 b) j = fldI (f b) j := fun b kb j n5 n23 n43 => ((congrArg (fun x => fldI x j) (congrFun ef_78 b)).trans (fia_up (fun h9 => by rw [hfo_72]; exact fi_set (k := 43) rfl h9) n43 b)).trans (hfA12 b kb j n5 n23 n43)
    have hfo_79 : f_78 o0 = .inr (12, [.ref a_1, .ref a_2, .ref a_3, .int v_4, .ref a_5, .int v_70, .int v_7, .int v_8, .int v_9, .int v_10, .int v_11, .int v_12, .int v_13, .int v_14, .int v_15, .ref a_16, .ref a_17, .ref a_18, .ref a_19, .ref a_20, .ref a_21, .ref a_22, .ref a_23, .int v_71, .int v_25, .int v_26, .int v_27, .int v_28, .ref a_29, .int v_30, .ref a_31, .ref a_32, .int v_33, .int v_34, .ref a_35, .int v_36, .ref a_37, .ref a_38, .int v_39, .int v_40, .ref a_41, .ref a_42, .ref a_43, .int v_71, .ref a_45, .ref a_46, .ref a_47, .ref a_48, .ref a_49, .ref a_50, .ref a_51, .ref a_52, .ref a_53, .int v_54, .int v_55, .ref a_56]) := by rw [ef_78]; exact up_self
    refine lv_iconst (v := 0) hx hb dX12_ages_25 (by decide) ?_
    refine lv_istore_n (lv' := [(1, .int 0), (0, .ref o0)]) hx hb dX12_ages_26 rfl hl (by decide) rfl (fun ls hl => ?_)
    have hloop_95 : ∀ (n : Nat), ∀ (y_96 : Int32), (0 ≤ y_96.toInt ∧ y_96.toInt ≤ 8) → ∀ (f_98 : Nat → va_E), GI (okc cI cL cZ cR cG cH L kd) kd L f_98 → ∀ (H : Heap) (locs : List Loc), va_P (dC, dI) vwCl (va_pl L f_98) H → va_S (fun q => q ∈ L) s.heap H locs → va_D (fun q => q ∈ L) (va_pl L f_98) → (∀ b, kd b ≠ 12 → kd b ≠ 589 → kd b ≠ 597 → kd b ≠ 598 → kd b ≠ 599 → f_98 b = f b) → (∀ b, kd b = 12 → ∀ j, fldR (f_98 b) j = fldR (f b) j) → (∀ b, kd b = 12 → ∀ j, j ≠ 5 → j ≠ 23 → j ≠ 43 → fldI (f_98 b) j = fldI (f b) j) → (f_98 o0 = .inr (12, [.ref a_1, .ref a_2, .ref a_3, .int v_4, .ref a_5, .int v_70, .int v_7, .int v_8, .int v_9, .int v_10, .int v_11, .int v_12, .int v_13, .int v_14, .int v_15, .ref a_16, .ref a_17, .ref a_18, .ref a_19, .ref a_20, .ref a_21, .ref a_22, .ref a_23, .int v_71, .int v_25, .int v_26, .int v_27, .int v_28, .ref a_29, .int v_30, .ref a_31, .ref a_32, .int v_33, .int v_34, .ref a_35, .int v_36, .ref a_37, .ref a_38, .int v_39, .int v_40, .ref a_41, .ref a_42, .ref a_43, .int v_71, .ref a_45, .ref a_46, .ref a_47, .ref a_48, .ref a_49, .ref a_50, .ref a_51, .ref a_52, .ref a_53, .int v_54, .int v_55, .ref a_56])) → 8 - y_96.toInt < (n : Int) → ∀ (ls : Array Slot), lv_has ls 2 [(1, .int y_96), (0, .ref o0)] → W p l e (headSpec (wU yX12_ages cX12_ages 2 (some .int)) { frames := 6, cells := 0, slots := 0, locals := 152 }).room s m [.ref o0].toArray below meth c H locs 0 0 (MQ below (va_Qi (fun (r : Int32) (f9 : Nat → va_E) => GI (okc cI cL cZ cR cG cH L kd) kd L f9 ∧ ((-2147483648) ≤ r.toInt ∧ r.toInt ≤ 2147483647) ∧ (∀ b, kd b ≠ 12 → kd b ≠ 589 → kd b ≠ 597 → kd b ≠ 598 → kd b ≠ 599 → f9 b = f b) ∧ (∀ b, kd b = 12 → ∀ j, fldR (f9 b) j = fldR (f b) j) ∧ (∀ b, kd b = 12 → ∀ j, j ≠ 5 → j ≠ 23 → j ≠ 43 → fldI (f9 b) j = fldI (f b) j) ∧ (∀ (w5 z5 : Int32), fldI (f o0) 5 = some w5 → fldI (f9 o0) 5 = some z5 → z5.toInt = 0)) (qP (dC, dI) cI cL cZ cR cG cH L) (fun q => q ∈ L)) [.ref o0].toArray s 0 0 (fun q => q ∈ L)) (F0 m 27 ls []) := by
      intro n
      induction n with
      | zero => intro y_96 by_96 f_98 hG H locs hP hS hD hfr0 hrA12 hfA12 hfo_99 hmuhloop_95 ls hl; exfalso; omega
      | succ n ih_hloop_95 =>
        intro y_96 by_96 f_98 hG H locs hP hS hD hfr0 hrA12 hfA12 hfo_99 hmuhloop_95 ls hl
        refine lv_iload_n hx hb dX12_ages_27 rfl (lv_at hl 0 rfl) ?_
        refine lv_aload_n hx hb dX12_ages_28 rfl (lv_at hl 1 rfl) ?_
        refine tk_getP (D := (dC, dI)) (ci := 12) (v := .int v_71) (C := RX12) (T := TX12) (N := 56) hx hb hU inlX12 hown hK hP mo0 hfo_99 rfl 23 (by decide) (hU _ wd_867) (fun _ h9 => h9) rfl dX12_ages_29 ?_
        refine lv_icmp_ge (tgt := 53) hx hb dX12_ages_32 (by decide) (fun c_100 => ?_) (fun c_100 => ?_)
        · skip
          rw [Int32.le_iff_toInt_le] at c_100
          refine lv_iconst (v := 0) hx hb dX12_ages_53 (by decide) ?_
          refine lv_istore_n (lv' := [(1, .int 0), (0, .ref o0)]) hx hb dX12_ages_54 rfl hl (by decide) rfl (fun ls hl => ?_)
          have hloop_128 : ∀ (n : Nat), ∀ (y_129 : Int32), (0 ≤ y_129.toInt ∧ y_129.toInt ≤ 8) → ∀ (f_131 : Nat → va_E), GI (okc cI cL cZ cR cG cH L kd) kd L f_131 → ∀ (H : Heap) (locs : List Loc), va_P (dC, dI) vwCl (va_pl L f_131) H → va_S (fun q => q ∈ L) s.heap H locs → va_D (fun q => q ∈ L) (va_pl L f_131) → (∀ b, kd b ≠ 12 → kd b ≠ 589 → kd b ≠ 597 → kd b ≠ 598 → kd b ≠ 599 → f_131 b = f b) → (∀ b, kd b = 12 → ∀ j, fldR (f_131 b) j = fldR (f b) j) → (∀ b, kd b = 12 → ∀ j, j ≠ 5 → j ≠ 23 → j ≠ 43 → fldI (f_131 b) j = fldI (f b) j) → ∀ (whloop_128_0_5 : Int32), fldI (f_131 o0) 5 = some whloop_128_0_5 → (0 ≤ whloop_128_0_5.toInt ∧ whloop_128_0_5.toInt ≤ 0) → 8 - y_129.toInt < (n : Int) → ∀ (ls : Array Slot), lv_has ls 2 [(1, .int y_129), (0, .ref o0)] → W p l e (headSpec (wU yX12_ages cX12_ages 2 (some .int)) { frames := 6, cells := 0, slots := 0, locals := 152 }).room s m [.ref o0].toArray below meth c H locs 0 0 (MQ below (va_Qi (fun (r : Int32) (f9 : Nat → va_E) => GI (okc cI cL cZ cR cG cH L kd) kd L f9 ∧ ((-2147483648) ≤ r.toInt ∧ r.toInt ≤ 2147483647) ∧ (∀ b, kd b ≠ 12 → kd b ≠ 589 → kd b ≠ 597 → kd b ≠ 598 → kd b ≠ 599 → f9 b = f b) ∧ (∀ b, kd b = 12 → ∀ j, fldR (f9 b) j = fldR (f b) j) ∧ (∀ b, kd b = 12 → ∀ j, j ≠ 5 → j ≠ 23 → j ≠ 43 → fldI (f9 b) j = fldI (f b) j) ∧ (∀ (w5 z5 : Int32), fldI (f o0) 5 = some w5 → fldI (f9 o0) 5 = some z5 → z5.toInt = 0)) (qP (dC, dI) cI cL cZ cR cG cH L) (fun q => q ∈ L)) [.ref o0].toArray s 0 0 (fun q => q ∈ L)) (F0 m 55 ls []) := by
            intro n
            induction n with
            | zero => intro y_129 by_129 f_131 hG H locs hP hS hD hfr0 hrA12 hfA12 whloop_128_0_5 hghloop_128_0_5 hrelhloop_128_0 hmuhloop_128 ls hl; exfalso; omega
            | succ n ih_hloop_128 =>
              intro y_129 by_129 f_131 hG H locs hP hS hD hfr0 hrA12 hfA12 whloop_128_0_5 hghloop_128_0_5 hrelhloop_128_0 hmuhloop_128 ls hl
              obtain ⟨v_132, v_133, v_134, hfo_135, fa_136⟩ := op12_5_23_43 hfo_57 (hG _ mo0) ko0 (hrA12 o0 ko0) (hfA12 o0 ko0)
              have bv_132 : (0 ≤ v_132.toInt ∧ v_132.toInt ≤ 600) := fa12_5 fa_136
              have bv_133 : (0 ≤ v_133.toInt ∧ v_133.toInt ≤ 12) := fa12_23 fa_136
              have bv_134 : (0 ≤ v_134.toInt ∧ v_134.toInt ≤ 8) := fa12_43 fa_136
              obtain rfl : v_132 = whloop_128_0_5 := by rw [hfo_135] at hghloop_128_0_5; exact Option.some.inj hghloop_128_0_5
              refine lv_iload_n hx hb dX12_ages_55 rfl (lv_at hl 0 rfl) ?_
              refine lv_aload_n hx hb dX12_ages_56 rfl (lv_at hl 1 rfl) ?_
              refine tk_getP (D := (dC, dI)) (ci := 12) (v := .ref a_1) (C := RX12) (T := TX12) (N := 56) hx hb hU inlX12 hown hK hP mo0 hfo_135 rfl 0 (by decide) (hU _ wd_169) (fun _ h9 => h9) rfl dX12_ages_57 ?_
              refine lv_bipush (v := 17) hx hb dX12_ages_60 (by decide) ?_
              obtain ⟨g_138, hfo_137, hbg_138⟩ := un_575 (hG _ ma_1) ka_1
              refine tk_ildP hx hb hK hP 0 ma_1 hfo_137 rfl (vp_in_nI (n := 17) (by decide) (by decide)) dX12_ages_62 ?_
              refine lv_topi (fun x_139 ex_139 => ?_)
              have bx_139 : (0 ≤ x_139.toInt ∧ x_139.toInt ≤ 8) := by rw [ex_139]; exact hbg_138.2.2.1 _ (by decide) (by decide) (by decide)
              refine lv_icmp_ge (tgt := 108) hx hb dX12_ages_63 (by decide) (fun c_140 => ?_) (fun c_140 => ?_)
              · skip
                rw [Int32.le_iff_toInt_le] at c_140
                refine lv_aload_n hx hb dX12_ages_108 rfl (lv_at hl 1 rfl) ?_
                refine tk_getP (D := (dC, dI)) (ci := 12) (v := .int v_134) (C := RX12) (T := TX12) (N := 56) hx hb hU inlX12 hown hK hP mo0 hfo_135 rfl 43 (by decide) (hU _ wd_572) (fun _ h9 => h9) rfl dX12_ages_109 ?_
                exact W.iret (v := v_134) hx hb hr (fun t ht hW => ⟨⟨v_134, f_131, rfl, ⟨hG, (by constructor <;> omega), hfr0, hrA12, hfA12, (by intro w5 z5 e5 d5; rw [hfo_57] at e5; rw [hfo_135] at d5; obtain rfl := Option.some.inj e5; obtain rfl := Option.some.inj d5; omega)⟩, by rw [ht]; exact hP, va_K.moved hW.alike hK, pl_in hD⟩, hS.F ht⟩) hS.2.2 dX12_ages_112
              · skip
                rw [Int32.le_iff_toInt_le] at c_140
                refine lv_aload_n hx hb dX12_ages_66 rfl (lv_at hl 1 rfl) ?_
                refine tk_getP (D := (dC, dI)) (ci := 12) (v := .ref a_1) (C := RX12) (T := TX12) (N := 56) hx hb hU inlX12 hown hK hP mo0 hfo_135 rfl 0 (by decide) (hU _ wd_169) (fun _ h9 => h9) rfl dX12_ages_67 ?_
                refine lv_bipush (v := 40) hx hb dX12_ages_70 (by decide) ?_
                refine tk_ildP hx hb hK hP 0 ma_1 hfo_137 rfl (vp_in_nI (n := 40) (by decide) (by decide)) dX12_ages_72 ?_
                refine lv_topi (fun x_141 ex_141 => ?_)
                have bx_141 : (0 ≤ x_141.toInt ∧ x_141.toInt ≤ 255) := by rw [ex_141]; exact hbg_138.2.2.2.2.2.2.1 _ (by decide) (by decide) (by decide)
                refine lv_aload_n hx hb dX12_ages_73 rfl (lv_at hl 1 rfl) ?_
                refine tk_getP (D := (dC, dI)) (ci := 12) (v := .ref a_1) (C := RX12) (T := TX12) (N := 56) hx hb hU inlX12 hown hK hP mo0 hfo_135 rfl 0 (by decide) (hU _ wd_169) (fun _ h9 => h9) rfl dX12_ages_74 ?_
                refine lv_bipush (v := 43) hx hb dX12_ages_77 (by decide) ?_
                refine lv_iload_n hx hb dX12_ages_79 rfl (lv_at hl 0 rfl) ?_
                refine lv_iadd hx hb dX12_ages_80 ?_
                refine lv_topi (fun x_142 ex_142 => ?_)
                have hx_142 : x_142.toInt = 43 + y_129.toInt := by rw [ex_142, ad_I (by rw [ti_43]; omega) (by rw [ti_43]; omega), ti_43]
                have bx_142 : (43 ≤ x_142.toInt ∧ x_142.toInt ≤ 50) := by constructor <;> omega
                refine tk_ildP hx hb hK hP 0 ma_1 hfo_137 rfl (vp_in_iff.mpr (by constructor <;> omega)) dX12_ages_81 ?_
                refine lv_topi (fun x_143 ex_143 => ?_)
                have bx_143 : (0 ≤ x_143.toInt ∧ x_143.toInt ≤ 7) := by have hc9 := cl_I (i := x_142) (by omega); rw [ex_143]; exact hbg_138.2.2.2.2.2.2.2.2.2.1 _ (by omega) (by omega) (by omega)
                refine lv_ishr hx hb dX12_ages_82 ?_
                refine lv_topi (fun x_144 ex_144 => ?_)
                have bx_144 : ((-2147483648) ≤ x_144.toInt ∧ x_144.toInt ≤ 2147483647) := ⟨i32_lo _, i32_hi _⟩
                refine lv_iconst (v := 1) hx hb dX12_ages_83 (by decide) ?_
                refine lv_iand hx hb dX12_ages_84 ?_
                refine lv_topi (fun x_145 ex_145 => ?_)
                have bx_145 : (0 ≤ x_145.toInt ∧ x_145.toInt ≤ 1) := by rw [ex_145]; have h8 := an_C x_144 (m := 1) (by decide); rw [ti_1] at h8; exact h8
                refine lv_iconst (v := 1) hx hb dX12_ages_85 (by decide) ?_
                refine lv_icmp_ne (tgt := 102) hx hb dX12_ages_86 (by decide) (fun c_146 => ?_) (fun c_146 => ?_)
                · skip
                  rw [← Int32.toInt_inj, ti_1] at c_146
                  obtain ⟨x_147, ex_147⟩ : ∃ y : Int32, y_129 + 1 = y := ⟨_, rfl⟩
                  have hx_147 : x_147.toInt = y_129.toInt + 1 := by rw [← ex_147, ad_I (by rw [ti_1]; omega) (by rw [ti_1]; omega), ti_1]
                  have bx_147 : (1 ≤ x_147.toInt ∧ x_147.toInt ≤ 8) := by constructor <;> omega
                  refine lv_iinc (v := x_147) (lv' := [(1, .int x_147), (0, .ref o0)]) hx hb dX12_ages_102 hl (k := 0) rfl ex_147 (by decide) rfl (fun ls hl => ?_)
                  refine lv_goto (tgt := 55) hx hb dX12_ages_105 (by decide) ?_
                  exact ih_hloop_128 x_147 (by constructor <;> omega) f_131 hG _ _ hP hS hD hfr0 hrA12 hfA12 v_132 (by rw [hfo_135]; rfl) (by omega) (by omega) ls (lv_sub hl [0, 1] rfl)
                · skip
                  rw [← Int32.toInt_inj, ti_1] at c_146
                  refine lv_aload_n hx hb dX12_ages_89 rfl (lv_at hl 1 rfl) ?_
                  refine lv_aload_n hx hb dX12_ages_90 rfl (lv_at hl 1 rfl) ?_
                  refine tk_getP (D := (dC, dI)) (ci := 12) (v := .ref a_1) (C := RX12) (T := TX12) (N := 56) hx hb hU inlX12 hown hK hP mo0 hfo_135 rfl 0 (by decide) (hU _ wd_169) (fun _ h9 => h9) rfl dX12_ages_91 ?_
                  refine lv_bipush (v := 43) hx hb dX12_ages_94 (by decide) ?_
                  refine lv_iload_n hx hb dX12_ages_96 rfl (lv_at hl 0 rfl) ?_
                  refine lv_iadd hx hb dX12_ages_97 ?_
                  refine lv_topi (fun x_148 ex_148 => ?_)
                  have hx_148 : x_148.toInt = 43 + y_129.toInt := by rw [ex_148, ad_I (by rw [ti_43]; omega) (by rw [ti_43]; omega), ti_43]
                  have bx_148 : (43 ≤ x_148.toInt ∧ x_148.toInt ≤ 50) := by constructor <;> omega
                  refine tk_ildP hx hb hK hP 0 ma_1 hfo_137 rfl (vp_in_iff.mpr (by constructor <;> omega)) dX12_ages_98 ?_
                  refine lv_topi (fun x_149 ex_149 => ?_)
                  have bx_149 : (0 ≤ x_149.toInt ∧ x_149.toInt ≤ 7) := by have hc9 := cl_I (i := x_148) (by omega); rw [ex_149]; exact hbg_138.2.2.2.2.2.2.2.2.2.1 _ (by omega) (by omega) (by omega)
                  refine tk_VvP (As := [.int x_149]) (rest := []) (n := 1) hx hb hml hown hU hN hZ (s_X12_age_k12 l (dC, dI) cI cL cZ cR cG cH Z kd L f_131 hG o0 mo0 ko0 x_149 (by constructor <;> omega)) wd_1119 wd_1120 wd_1121 wd_5 wd_1122 (by decide +kernel) ⟨Nat.le_of_ble_eq_true rfl, Nat.le_of_ble_eq_true rfl⟩ hK hP hD hS mo0 hfo_135 12 rfl rfl rfl hl.1 rfl (Nat.le_of_ble_eq_true rfl) dX12_ages_99 ⟨Nat.le_of_ble_eq_true rfl, Nat.le_of_ble_eq_true rfl⟩ (fun f_151 H locs hw hP hD hS => ?_)
                  obtain ⟨hG, hkc_152, hra_153, hfa_154, hpost_155⟩ := hw
                  have hfo_157 : f_151 a_1 = .inl (cI, 1560, .inl g_138) := by rw [hkc_152 a_1 (by rw [ka_1]; decide) (by rw [ka_1]; decide) (by rw [ka_1]; decide) (by rw [ka_1]; decide)]; exact hfo_137
                  have hfr0 : ∀ b, kd b ≠ 12 → kd b ≠ 589 → kd b ≠ 597 → kd b ≠ 598 → kd b ≠ 599 → f_151 b = f b := fun b q12 q589 q597 q598 q599 => (hkc_152 b q12 q597 q598 q599).trans (hfr0 b q12 q589 q597 q598 q599)
                  have hrA12 : ∀ b, kd b = 12 → ∀ j, fldR (f_151 b) j = fldR (f b) j := fun b kb j => (hra_153 b kb j).trans (hrA12 b kb j)
                  have hfA12 : ∀ b, kd b = 12 → ∀ j, j ≠ 5 → j ≠ 23 → j ≠ 43 → fldI (f_151 b) j = fldI (f b) j := fun b kb j n5 n23 n43 => (hfa_154 b kb j n43).trans (hfA12 b kb j n5 n23 n43)
                  obtain ⟨v_158, hfo_159, fa_160⟩ := op12_43 hfo_135 (hG _ mo0) ko0 (hra_153 o0 ko0) (hfa_154 o0 ko0)
                  have bv_158 : (0 ≤ v_158.toInt ∧ v_158.toInt ≤ 8) := fa12_43 fa_160
                  have hqhpost_155 := hpost_155 v_134 v_158 (by rw [hfo_135]; rfl) (by rw [hfo_159]; rfl)
                  obtain ⟨x_161, ex_161⟩ : ∃ y : Int32, y_129 + 1 = y := ⟨_, rfl⟩
                  have hx_161 : x_161.toInt = y_129.toInt + 1 := by rw [← ex_161, ad_I (by rw [ti_1]; omega) (by rw [ti_1]; omega), ti_1]
                  have bx_161 : (1 ≤ x_161.toInt ∧ x_161.toInt ≤ 8) := by constructor <;> omega
                  refine lv_iinc (v := x_161) (lv' := [(1, .int x_161), (0, .ref o0)]) hx hb dX12_ages_102 hl (k := 0) rfl ex_161 (by decide) rfl (fun ls hl => ?_)
                  refine lv_goto (tgt := 55) hx hb dX12_ages_105 (by decide) ?_
                  exact ih_hloop_128 x_161 (by constructor <;> omega) f_151 hG _ _ hP hS hD hfr0 hrA12 hfA12 v_132 (by rw [hfo_159]; rfl) (by omega) (by omega) ls (lv_sub hl [0, 1] rfl)
          exact hloop_128 9 0 (by decide) f_98 hG _ _ hP hS hD hfr0 hrA12 hfA12 v_70 (by rw [hfo_99]; rfl) (by (try rw [ti_0]) <;> omega) (by (try rw [ti_0]) <;> omega) ls hl
        · skip
          rw [Int32.le_iff_toInt_le] at c_100
          refine lv_aload_n hx hb dX12_ages_35 rfl (lv_at hl 1 rfl) ?_
          refine tk_getP (D := (dC, dI)) (ci := 12) (v := .ref a_41) (C := RX12) (T := TX12) (N := 56) hx hb hU inlX12 hown hK hP mo0 hfo_99 rfl 40 (by decide) (hU _ wd_190) (fun _ h9 => h9) rfl dX12_ages_36 ?_
          refine lv_iload_n hx hb dX12_ages_39 rfl (lv_at hl 0 rfl) ?_
          refine lv_aload_n hx hb dX12_ages_40 rfl (lv_at hl 1 rfl) ?_
          refine tk_getP (D := (dC, dI)) (ci := 12) (v := .ref a_22) (C := RX12) (T := TX12) (N := 56) hx hb hU inlX12 hown hK hP mo0 hfo_99 rfl 21 (by decide) (hU _ wd_181) (fun _ h9 => h9) rfl dX12_ages_41 ?_
          refine lv_iload_n hx hb dX12_ages_44 rfl (lv_at hl 0 rfl) ?_
          obtain ⟨g_163, hfo_162, hbg_163⟩ := un_589 (hG _ ma_22) ka_22
          refine tk_ildP hx hb hK hP 0 ma_22 hfo_162 rfl (vp_in_iff.mpr (by constructor <;> omega)) dX12_ages_45 ?_
          refine lv_topi (fun x_164 ex_164 => ?_)
          have bx_164 : (0 ≤ x_164.toInt ∧ x_164.toInt ≤ 8) := by rw [ex_164]; exact hbg_163 _
          obtain ⟨g_166, hfo_165, hbg_166⟩ := un_597 (hG _ ma_41) ka_41
          refine tk_istP hx hb hK hP hD hS 0 ma_41 hfo_165 rfl (vp_in_iff.mpr (by constructor <;> omega)) dX12_ages_46 (fun H locs hP hD hS => ?_)
          obtain ⟨f_168, ef_168⟩ : ∃ y : Nat → va_E, y = va_up f_98 a_41 (.inl (cI, 16, .inl (upd g_166 (Int32.toNatClampNeg y_96) x_164))) := ⟨_, rfl⟩
          have hP : va_P (dC, dI) vwCl (va_pl L f_168) H := by rw [ef_168]; exact hP
          have hD : va_D (fun q => q ∈ L) (va_pl L f_168) := by rw [ef_168]; exact hD
          have hG : GI (okc cI cL cZ cR cG cH L kd) kd L f_168 := by rw [ef_168]; exact hG.set a_41 (mk_597 ka_41 ⟨_, rfl, okI_up hbg_166 (by constructor <;> omega) _⟩)
          have hfo_169 : f_168 o0 = .inr (12, [.ref a_1, .ref a_2, .ref a_3, .int v_4, .ref a_5, .int v_70, .int v_7, .int v_8, .int v_9, .int v_10, .int v_11, .int v_12, .int v_13, .int v_14, .int v_15, .ref a_16, .ref a_17, .ref a_18, .ref a_19, .ref a_20, .ref a_21, .ref a_22, .ref a_23, .int v_71, .int v_25, .int v_26, .int v_27, .int v_28, .ref a_29, .int v_30, .ref a_31, .ref a_32, .int v_33, .int v_34, .ref a_35, .int v_36, .ref a_37, .ref a_38, .int v_39, .int v_40, .ref a_41, .ref a_42, .ref a_43, .int v_71, .ref a_45, .ref a_46, .ref a_47, .ref a_48, .ref a_49, .ref a_50, .ref a_51, .ref a_52, .ref a_53, .int v_54, .int v_55, .ref a_56]) := by rw [ef_168, up_ne (kd_ne ka_41 ko0 (by decide))]; exact hfo_99
          have hfo_170 : f_168 a_22 = .inl (cI, 16, .inl g_163) := by rw [ef_168, up_ne (kd_ne ka_41 ka_22 (by decide))]; exact hfo_162
          have hfr0 : ∀ b, kd b ≠ 12 → kd b ≠ 589 → kd b ≠ 597 → kd b ≠ 598 → kd b ≠ 599 → f_168 b = f b := fun b q12 q589 q597 q598 q599 => (congrFun ef_168 b).trans ((up_ne (fun e9 => q597 (by rw [e9]; exact ka_41))).trans (hfr0 b q12 q589 q597 q598 q599))
          have hrA12 : ∀ b, kd b = 12 → ∀ j, fldR (f_168 b) j = fldR (f b) j := fun b kb j => (congrArg (fun x => fldR x j) ((congrFun ef_168 b).trans (up_ne (kd_ne ka_41 kb (by decide))))).trans (hrA12 b kb j)
          have hfA12 : ∀ b, kd b = 12 → ∀ j, j ≠ 5 → j ≠ 23 → j ≠ 43 → fldI (f_168 b) j = fldI (f b) j := fun b kb j n5 n23 n43 => (congrArg (fun x => fldI x j) ((congrFun ef_168 b).trans (up_ne (kd_ne ka_41 kb (by decide))))).trans (hfA12 b kb j n5 n23 n43)
          have hfo_171 : f_168 a_41 = .inl (cI, 16, .inl (upd g_166 (Int32.toNatClampNeg y_96) x_164)) := by rw [ef_168]; exact up_self
          obtain ⟨x_172, ex_172⟩ : ∃ y : Int32, y_96 + 1 = y := ⟨_, rfl⟩
          have hx_172 : x_172.toInt = y_96.toInt + 1 := by rw [← ex_172, ad_I (by rw [ti_1]; omega) (by rw [ti_1]; omega), ti_1]
          have bx_172 : (1 ≤ x_172.toInt ∧ x_172.toInt ≤ 8) := by constructor <;> omega
          refine lv_iinc (v := x_172) (lv' := [(1, .int x_172), (0, .ref o0)]) hx hb dX12_ages_47 hl (k := 0) rfl ex_172 (by decide) rfl (fun ls hl => ?_)
          refine lv_goto (tgt := 27) hx hb dX12_ages_50 (by decide) ?_
          exact ih_hloop_95 x_172 (by constructor <;> omega) f_168 hG _ _ hP hS hD hfr0 hrA12 hfA12 hfo_169 (by omega) ls (lv_sub hl [0, 1] rfl)
    exact hloop_95 9 0 (by decide) f_78 hG _ _ hP hS hD hfr0 hrA12 hfA12 hfo_79 (by (try rw [ti_0]) <;> omega) ls hl
  · skip
    rw [← Int32.toInt_inj, ti_0] at c_74
    refine lv_iconst (v := (-1)) hx hb dX12_ages_15 (by decide) ?_
    exact W.iret (v := (-1)) hx hb hr (fun t ht hW => ⟨⟨(-1), f_64, rfl, ⟨hG, (by decide), hfr0, hrA12, hfA12, (by intro w5 z5 e5 d5; rw [hfo_57] at e5; rw [hfo_72] at d5; obtain rfl := Option.some.inj e5; obtain rfl := Option.some.inj d5; (try rw [ti_m1]) <;> omega)⟩, by rw [ht]; exact hP, va_K.moved hW.alike hK, pl_in hD⟩, hS.F ht⟩) hS.2.2 dX12_ages_16
set_option maxHeartbeats 8000000 in
set_option maxRecDepth 100000 in
theorem s_X12_aged_k12 (l : Launch) (D : va_G) (cI cL cZ cR cG cH : ClassId) (Z : zT) (kd : Nat → Nat) (L : List Nat) (f : Nat → va_E) (hG : GI (okc cI cL cZ cR cG cH L kd) kd L f) (o0 : Nat) (mo0 : o0 ∈ L) (ko0 : kd o0 = 12) (p1 : Int32) : mPI l D cI cL cZ cR cG cH Z yX12_aged cX12_aged 2 (some .int) 1 22 [.ref o0, .int p1] L f (fun (r : Int32) (f9 : Nat → va_E) => f = f9 ∧ ((-2147483648) ≤ r.toInt ∧ r.toInt ≤ 2147483647)) := by
  obtain ⟨dC, dI⟩ := D
  refine Met.ofW (cc := cX12_aged) (maxL := 2) (ret := (some .int)) (by decide) rfl ?_
  intro p e s m args below meth c s₁ B hml hv
  obtain ⟨rfl, hP, hK, hD0, hN, hZ⟩ := hv
  have hx := B.exec
  have hb := B.bytes
  have hr := B.returns
  have hU : ∀ w ∈ wsU, w.before _ s = true := fun w h => atoms_spec (ws := wU yX12_aged cX12_aged 2 (some .int)) B.pre w (List.mem_cons_of_mem _ h)
  have hown : s.vm.findClass RX12 = some m.cls := findClass_of_methodNamed B.named
  have hlocks := B.notSynchronized
  have hD := pl_in hD0
  have hS : va_S (fun q => q ∈ L) s.heap s.heap [] := va_S.rf
  have hl := lv_entry ([.ref o0, .int p1]) (n := 2) (Nat.le_of_ble_eq_true rfl)
  rw [lg_entry_eq]
  generalize (lg_sl ([.ref o0, .int p1]) ++ List.replicate (2 - (lg_sl ([.ref o0, .int p1])).length) Slot.unset).toArray = ls at hl ⊢
  have hl : lv_has ls 2 [(0, .ref o0), (1, .int p1)] := hl
  have bp1 : ((-2147483648) ≤ p1.toInt ∧ p1.toInt ≤ 2147483647) := ⟨i32_lo _, i32_hi _⟩
  refine lv_iload_n hx hb dX12_aged_0 rfl (lv_at hl 1 rfl) ?_
  refine lv_iconst (v := 0) hx hb dX12_aged_1 (by decide) ?_
  refine lv_aload_n hx hb dX12_aged_2 rfl (lv_at hl 0 rfl) ?_
  obtain ⟨a_1, a_2, a_3, v_4, a_5, v_6, v_7, v_8, v_9, v_10, v_11, v_12, v_13, v_14, v_15, a_16, a_17, a_18, a_19, a_20, a_21, a_22, a_23, v_24, v_25, v_26, v_27, v_28, a_29, v_30, a_31, a_32, v_33, v_34, a_35, v_36, a_37, a_38, v_39, v_40, a_41, a_42, a_43, v_44, a_45, a_46, a_47, a_48, a_49, a_50, a_51, a_52, a_53, v_54, v_55, a_56, hfo_57, fa_58⟩ := un12 (hG _ mo0) ko0
  obtain ⟨ma_41, ka_41⟩ := fa12_40 fa_58
  have bv_44 : (0 ≤ v_44.toInt ∧ v_44.toInt ≤ 8) := fa12_43 fa_58
  refine tk_getP (D := (dC, dI)) (ci := 12) (v := .int v_44) (C := RX12) (T := TX12) (N := 56) hx hb hU inlX12 hown hK hP mo0 hfo_57 rfl 43 (by decide) (hU _ wd_572) (fun _ h9 => h9) rfl dX12_aged_3 ?_
  refine lv_iconst (v := 1) hx hb dX12_aged_6 (by decide) ?_
  refine lv_isub hx hb dX12_aged_7 ?_
  refine lv_topi (fun x_59 ex_59 => ?_)
  have hx_59 : x_59.toInt = v_44.toInt - 1 := by rw [ex_59, sb_I (by rw [ti_1]; omega) (by rw [ti_1]; omega), ti_1]
  have bx_59 : ((-1) ≤ x_59.toInt ∧ x_59.toInt ≤ 7) := by constructor <;> omega
  refine tk_SiP (As := [.int p1, .int 0, .int x_59]) (rest := []) (n := 3) hx hb hml hown hU hN hZ (s_X12_isIn l (dC, dI) cI cL cZ cR cG cH Z kd L f hG p1 0 x_59) wd_227 wd_228 wd_5 wd_229 (by decide +kernel) ⟨Nat.le_of_ble_eq_true rfl, Nat.le_of_ble_eq_true rfl⟩ hK hP hD hS rfl hl.1 rfl (Nat.le_of_ble_eq_true rfl) dX12_aged_8 ⟨Nat.le_of_ble_eq_true rfl, Nat.le_of_ble_eq_true rfl⟩ (fun x_60 f_61 H locs hw hP hD hS => ?_)
  obtain ⟨rfl, bx_60, relx_60⟩ := hw
  try rw [ti_0] at relx_60
  refine lv_if_eq (tgt := 25) hx hb dX12_aged_11 (by decide) (fun c_63 => ?_) (fun c_63 => ?_)
  · skip
    rw [← Int32.toInt_inj, ti_0] at c_63
    refine lv_iconst (v := (-1)) hx hb dX12_aged_25 (by decide) ?_
    exact W.iret (v := (-1)) hx hb hr (fun t ht hW => ⟨⟨(-1), f, rfl, ⟨rfl, (by decide)⟩, by rw [ht]; exact hP, va_K.moved hW.alike hK, pl_in hD⟩, hS.F ht⟩) hS.2.2 dX12_aged_26
  · skip
    rw [← Int32.toInt_inj, ti_0] at c_63
    refine lv_aload_n hx hb dX12_aged_14 rfl (lv_at hl 0 rfl) ?_
    refine tk_getP (D := (dC, dI)) (ci := 12) (v := .ref a_41) (C := RX12) (T := TX12) (N := 56) hx hb hU inlX12 hown hK hP mo0 hfo_57 rfl 40 (by decide) (hU _ wd_190) (fun _ h9 => h9) rfl dX12_aged_15 ?_
    refine lv_iload_n hx hb dX12_aged_18 rfl (lv_at hl 1 rfl) ?_
    obtain ⟨g_65, hfo_64, hbg_65⟩ := un_597 (hG _ ma_41) ka_41
    refine tk_ildP hx hb hK hP 0 ma_41 hfo_64 rfl (vp_in_iff.mpr (by constructor <;> omega)) dX12_aged_19 ?_
    refine lv_topi (fun x_66 ex_66 => ?_)
    have bx_66 : (0 ≤ x_66.toInt ∧ x_66.toInt ≤ 8) := by rw [ex_66]; exact hbg_65 _
    refine lv_iconst (v := 1) hx hb dX12_aged_20 (by decide) ?_
    refine lv_isub hx hb dX12_aged_21 ?_
    refine lv_topi (fun x_67 ex_67 => ?_)
    have hx_67 : x_67.toInt = x_66.toInt - 1 := by rw [ex_67, sb_I (by rw [ti_1]; omega) (by rw [ti_1]; omega), ti_1]
    have bx_67 : ((-1) ≤ x_67.toInt ∧ x_67.toInt ≤ 7) := by constructor <;> omega
    refine lv_goto (tgt := 26) hx hb dX12_aged_22 (by decide) ?_
    exact W.iret (v := x_67) hx hb hr (fun t ht hW => ⟨⟨x_67, f, rfl, ⟨rfl, (by constructor <;> omega)⟩, by rw [ht]; exact hP, va_K.moved hW.alike hK, pl_in hD⟩, hS.F ht⟩) hS.2.2 dX12_aged_26
set_option maxHeartbeats 8000000 in
set_option maxRecDepth 100000 in
theorem s_X12_sideGoes_k12 (l : Launch) (D : va_G) (cI cL cZ cR cG cH : ClassId) (Z : zT) (kd : Nat → Nat) (L : List Nat) (f : Nat → va_E) (hG : GI (okc cI cL cZ cR cG cH L kd) kd L f) (o0 : Nat) (mo0 : o0 ∈ L) (ko0 : kd o0 = 12) (p1 : Int32) (bp1 : (0 ≤ p1.toInt ∧ p1.toInt ≤ 23)) (p2 : Int32) (bp2 : (0 ≤ p2.toInt ∧ p2.toInt ≤ 1)) (p3 : Int32) (p4 : Int32) : mPI l D cI cL cZ cR cG cH Z yX12_sideGoes cX12_sideGoes 5 (some .int) 3 76 [.ref o0, .int p1, .int p2, .int p3, .int p4] L f (fun (r : Int32) (f9 : Nat → va_E) => f = f9 ∧ (0 ≤ r.toInt ∧ r.toInt ≤ 63)) := by
  obtain ⟨dC, dI⟩ := D
  refine Met.ofW (cc := cX12_sideGoes) (maxL := 5) (ret := (some .int)) (by decide) rfl ?_
  intro p e s m args below meth c s₁ B hml hv
  obtain ⟨rfl, hP, hK, hD0, hN, hZ⟩ := hv
  have hx := B.exec
  have hb := B.bytes
  have hr := B.returns
  have hU : ∀ w ∈ wsU, w.before _ s = true := fun w h => atoms_spec (ws := wU yX12_sideGoes cX12_sideGoes 5 (some .int)) B.pre w (List.mem_cons_of_mem _ h)
  have hown : s.vm.findClass RX12 = some m.cls := findClass_of_methodNamed B.named
  have hlocks := B.notSynchronized
  have hD := pl_in hD0
  have hS : va_S (fun q => q ∈ L) s.heap s.heap [] := va_S.rf
  have hl := lv_entry ([.ref o0, .int p1, .int p2, .int p3, .int p4]) (n := 5) (Nat.le_of_ble_eq_true rfl)
  rw [lg_entry_eq]
  generalize (lg_sl ([.ref o0, .int p1, .int p2, .int p3, .int p4]) ++ List.replicate (5 - (lg_sl ([.ref o0, .int p1, .int p2, .int p3, .int p4])).length) Slot.unset).toArray = ls at hl ⊢
  have hl : lv_has ls 5 [(0, .ref o0), (1, .int p1), (2, .int p2), (3, .int p3), (4, .int p4)] := hl
  have bp3 : ((-2147483648) ≤ p3.toInt ∧ p3.toInt ≤ 2147483647) := ⟨i32_lo _, i32_hi _⟩
  have bp4 : ((-2147483648) ≤ p4.toInt ∧ p4.toInt ≤ 2147483647) := ⟨i32_lo _, i32_hi _⟩
  refine lv_iload_n hx hb dX12_sideGoes_0 rfl (lv_at hl 2 rfl) ?_
  refine lv_iconst (v := 1) hx hb dX12_sideGoes_1 (by decide) ?_
  refine lv_icmp_ne (tgt := 23) hx hb dX12_sideGoes_2 (by decide) (fun c_1 => ?_) (fun c_1 => ?_)
  · skip
    rw [← Int32.toInt_inj, ti_1] at c_1
    refine lv_aload_n hx hb dX12_sideGoes_23 rfl (lv_at hl 0 rfl) ?_
    refine lv_iload_n hx hb dX12_sideGoes_24 rfl (lv_at hl 1 rfl) ?_
    refine lv_iload_n hx hb dX12_sideGoes_25 rfl (lv_at hl 2 rfl) ?_
    refine lv_iload_n hx hb dX12_sideGoes_26 rfl (lv_at hl 3 rfl) ?_
    refine lv_iload hx hb dX12_sideGoes_27 (lv_at hl 4 rfl) ?_
    obtain ⟨a_2, a_3, a_4, v_5, a_6, v_7, v_8, v_9, v_10, v_11, v_12, v_13, v_14, v_15, v_16, a_17, a_18, a_19, a_20, a_21, a_22, a_23, a_24, v_25, v_26, v_27, v_28, v_29, a_30, v_31, a_32, a_33, v_34, v_35, a_36, v_37, a_38, a_39, v_40, v_41, a_42, a_43, a_44, v_45, a_46, a_47, a_48, a_49, a_50, a_51, a_52, a_53, a_54, v_55, v_56, a_57, hfo_58, fa_59⟩ := un12 (hG _ mo0) ko0
    refine tk_ViP (As := [.int p1, .int p2, .int p3, .int p4]) (rest := []) (n := 4) hx hb hml hown hU hN hZ (s_X12_goesOn_k12 l (dC, dI) cI cL cZ cR cG cH Z kd L f hG o0 mo0 ko0 p1 (by constructor <;> omega) p2 (by constructor <;> omega) p3 p4) wd_942 wd_943 wd_944 wd_5 wd_945 (by decide +kernel) ⟨Nat.le_of_ble_eq_true rfl, Nat.le_of_ble_eq_true rfl⟩ hK hP hD hS mo0 hfo_58 12 rfl rfl rfl hl.1 rfl (Nat.le_of_ble_eq_true rfl) dX12_sideGoes_29 ⟨Nat.le_of_ble_eq_true rfl, Nat.le_of_ble_eq_true rfl⟩ (fun x_60 f_61 H locs hw hP hD hS => ?_)
    obtain ⟨rfl, bx_60⟩ := hw
    refine lv_iload_n hx hb dX12_sideGoes_32 rfl (lv_at hl 2 rfl) ?_
    refine lv_iconst (v := 1) hx hb dX12_sideGoes_33 (by decide) ?_
    have hcut_65 : ∀ (y_63 : Int32), (0 ≤ y_63.toInt ∧ y_63.toInt ≤ 63) → ∀ (H : Heap) (locs : List Loc), va_P (dC, dI) vwCl (va_pl L f) H → va_S (fun q => q ∈ L) s.heap H locs → ∀ (ls : Array Slot), lv_has ls 5 [(0, .ref o0), (1, .int p1), (2, .int p2), (3, .int p3), (4, .int p4)] → W p l e (headSpec (wU yX12_sideGoes cX12_sideGoes 5 (some .int)) { frames := 3, cells := 0, slots := 0, locals := 76 }).room s m [.ref o0, .int p1, .int p2, .int p3, .int p4].toArray below meth c H locs 0 0 (MQ below (va_Qi (fun (r : Int32) (f9 : Nat → va_E) => f = f9 ∧ (0 ≤ r.toInt ∧ r.toInt ≤ 63)) (qP (dC, dI) cI cL cZ cR cG cH L) (fun q => q ∈ L)) [.ref o0, .int p1, .int p2, .int p3, .int p4].toArray s 0 0 (fun q => q ∈ L)) (F0 m 57 ls [.int y_63, .int x_60]) := by
      intro y_63 by_63 H locs hP hS ls hl
      refine lv_ior hx hb dX12_sideGoes_57 ?_
      refine lv_topi (fun x_66 ex_66 => ?_)
      have bx_66 : (0 ≤ x_66.toInt ∧ x_66.toInt ≤ 63) := by rw [ex_66]; exact or_K 6 (by decide) (by constructor <;> omega) (by constructor <;> omega)
      exact W.iret (v := x_66) hx hb hr (fun t ht hW => ⟨⟨x_66, f, rfl, ⟨rfl, (by constructor <;> omega)⟩, by rw [ht]; exact hP, va_K.moved hW.alike hK, pl_in hD⟩, hS.F ht⟩) hS.2.2 dX12_sideGoes_58
    refine lv_icmp_eq (tgt := 46) hx hb dX12_sideGoes_34 (by decide) (fun c_67 => ?_) (fun c_67 => ?_)
    · skip
      rw [← Int32.toInt_inj, ti_1] at c_67
      exfalso
      omega
    · skip
      rw [← Int32.toInt_inj, ti_1] at c_67
      refine lv_aload_n hx hb dX12_sideGoes_37 rfl (lv_at hl 0 rfl) ?_
      refine lv_iload_n hx hb dX12_sideGoes_38 rfl (lv_at hl 1 rfl) ?_
      refine lv_iconst (v := 0) hx hb dX12_sideGoes_39 (by decide) ?_
      refine tk_ViP (As := [.int p1, .int 0]) (rest := [.int x_60]) (n := 2) hx hb hml hown hU hN hZ (s_X12_isAnchored_k12 l (dC, dI) cI cL cZ cR cG cH Z kd L f hG o0 mo0 ko0 p1 (by constructor <;> omega) 0 (by decide)) wd_946 wd_947 wd_948 wd_5 wd_949 (by decide +kernel) ⟨Nat.le_of_ble_eq_true rfl, Nat.le_of_ble_eq_true rfl⟩ hK hP hD hS mo0 hfo_58 12 rfl rfl rfl hl.1 rfl (Nat.le_of_ble_eq_true rfl) dX12_sideGoes_40 ⟨Nat.le_of_ble_eq_true rfl, Nat.le_of_ble_eq_true rfl⟩ (fun x_68 f_69 H locs hw hP hD hS => ?_)
      obtain ⟨rfl, bx_68⟩ := hw
      refine lv_if_eq (tgt := 50) hx hb dX12_sideGoes_43 (by decide) (fun c_71 => ?_) (fun c_71 => ?_)
      · skip
        rw [← Int32.toInt_inj, ti_0] at c_71
        refine lv_aload_n hx hb dX12_sideGoes_50 rfl (lv_at hl 0 rfl) ?_
        refine lv_iload_n hx hb dX12_sideGoes_51 rfl (lv_at hl 1 rfl) ?_
        refine lv_iconst (v := 0) hx hb dX12_sideGoes_52 (by decide) ?_
        refine lv_iconst (v := 1) hx hb dX12_sideGoes_53 (by decide) ?_
        refine tk_ViP (As := [.int p1, .int 0, .int 1]) (rest := [.int x_60]) (n := 3) hx hb hml hown hU hN hZ (s_X12_closed_k12 l (dC, dI) cI cL cZ cR cG cH Z kd L f hG o0 mo0 ko0 p1 (by constructor <;> omega) 0 (by decide) 1 (by decide)) wd_878 wd_879 wd_880 wd_5 wd_881 (by decide +kernel) ⟨Nat.le_of_ble_eq_true rfl, Nat.le_of_ble_eq_true rfl⟩ hK hP hD hS mo0 hfo_58 12 rfl rfl rfl hl.1 rfl (Nat.le_of_ble_eq_true rfl) dX12_sideGoes_54 ⟨Nat.le_of_ble_eq_true rfl, Nat.le_of_ble_eq_true rfl⟩ (fun x_72 f_73 H locs hw hP hD hS => ?_)
        obtain ⟨rfl, bx_72⟩ := hw
        exact hcut_65 x_72 (by constructor <;> omega) _ _ hP hS ls (lv_sub hl [0, 1, 2, 3, 4] rfl)
      · skip
        rw [← Int32.toInt_inj, ti_0] at c_71
        refine lv_iconst (v := 0) hx hb dX12_sideGoes_46 (by decide) ?_
        refine lv_goto (tgt := 57) hx hb dX12_sideGoes_47 (by decide) ?_
        exact hcut_65 0 (by decide) _ _ hP hS ls (lv_sub hl [0, 1, 2, 3, 4] rfl)
  · skip
    rw [← Int32.toInt_inj, ti_1] at c_1
    refine lv_aload_n hx hb dX12_sideGoes_5 rfl (lv_at hl 0 rfl) ?_
    refine lv_iload_n hx hb dX12_sideGoes_6 rfl (lv_at hl 1 rfl) ?_
    refine lv_iload_n hx hb dX12_sideGoes_7 rfl (lv_at hl 3 rfl) ?_
    obtain ⟨a_75, a_76, a_77, v_78, a_79, v_80, v_81, v_82, v_83, v_84, v_85, v_86, v_87, v_88, v_89, a_90, a_91, a_92, a_93, a_94, a_95, a_96, a_97, v_98, v_99, v_100, v_101, v_102, a_103, v_104, a_105, a_106, v_107, v_108, a_109, v_110, a_111, a_112, v_113, v_114, a_115, a_116, a_117, v_118, a_119, a_120, a_121, a_122, a_123, a_124, a_125, a_126, a_127, v_128, v_129, a_130, hfo_131, fa_132⟩ := un12 (hG _ mo0) ko0
    refine tk_ViP (As := [.int p1, .int p3]) (rest := []) (n := 2) hx hb hml hown hU hN hZ (s_X12_isMet_k12 l (dC, dI) cI cL cZ cR cG cH Z kd L f hG o0 mo0 ko0 p1 (by constructor <;> omega) p3) wd_954 wd_955 wd_956 wd_5 wd_957 (by decide +kernel) ⟨Nat.le_of_ble_eq_true rfl, Nat.le_of_ble_eq_true rfl⟩ hK hP hD hS mo0 hfo_131 12 rfl rfl rfl hl.1 rfl (Nat.le_of_ble_eq_true rfl) dX12_sideGoes_8 ⟨Nat.le_of_ble_eq_true rfl, Nat.le_of_ble_eq_true rfl⟩ (fun x_133 f_134 H locs hw hP hD hS => ?_)
    obtain ⟨rfl, bx_133⟩ := hw
    refine lv_if_eq (tgt := 23) hx hb dX12_sideGoes_11 (by decide) (fun c_136 => ?_) (fun c_136 => ?_)
    · skip
      rw [← Int32.toInt_inj, ti_0] at c_136
      refine lv_aload_n hx hb dX12_sideGoes_23 rfl (lv_at hl 0 rfl) ?_
      refine lv_iload_n hx hb dX12_sideGoes_24 rfl (lv_at hl 1 rfl) ?_
      refine lv_iload_n hx hb dX12_sideGoes_25 rfl (lv_at hl 2 rfl) ?_
      refine lv_iload_n hx hb dX12_sideGoes_26 rfl (lv_at hl 3 rfl) ?_
      refine lv_iload hx hb dX12_sideGoes_27 (lv_at hl 4 rfl) ?_
      refine tk_ViP (As := [.int p1, .int p2, .int p3, .int p4]) (rest := []) (n := 4) hx hb hml hown hU hN hZ (s_X12_goesOn_k12 l (dC, dI) cI cL cZ cR cG cH Z kd L f hG o0 mo0 ko0 p1 (by constructor <;> omega) p2 (by constructor <;> omega) p3 p4) wd_942 wd_943 wd_944 wd_5 wd_945 (by decide +kernel) ⟨Nat.le_of_ble_eq_true rfl, Nat.le_of_ble_eq_true rfl⟩ hK hP hD hS mo0 hfo_131 12 rfl rfl rfl hl.1 rfl (Nat.le_of_ble_eq_true rfl) dX12_sideGoes_29 ⟨Nat.le_of_ble_eq_true rfl, Nat.le_of_ble_eq_true rfl⟩ (fun x_137 f_138 H locs hw hP hD hS => ?_)
      obtain ⟨rfl, bx_137⟩ := hw
      refine lv_iload_n hx hb dX12_sideGoes_32 rfl (lv_at hl 2 rfl) ?_
      refine lv_iconst (v := 1) hx hb dX12_sideGoes_33 (by decide) ?_
      refine lv_icmp_eq (tgt := 46) hx hb dX12_sideGoes_34 (by decide) (fun c_140 => ?_) (fun c_140 => ?_)
      · skip
        rw [← Int32.toInt_inj, ti_1] at c_140
        refine lv_iconst (v := 0) hx hb dX12_sideGoes_46 (by decide) ?_
        refine lv_goto (tgt := 57) hx hb dX12_sideGoes_47 (by decide) ?_
        refine lv_ior hx hb dX12_sideGoes_57 ?_
        refine lv_topi (fun x_141 ex_141 => ?_)
        have bx_141 : (0 ≤ x_141.toInt ∧ x_141.toInt ≤ 63) := by rw [ex_141]; exact or_K 6 (by decide) (by constructor <;> omega) (by decide)
        exact W.iret (v := x_141) hx hb hr (fun t ht hW => ⟨⟨x_141, f, rfl, ⟨rfl, (by constructor <;> omega)⟩, by rw [ht]; exact hP, va_K.moved hW.alike hK, pl_in hD⟩, hS.F ht⟩) hS.2.2 dX12_sideGoes_58
      · skip
        rw [← Int32.toInt_inj, ti_1] at c_140
        exfalso
        omega
    · skip
      rw [← Int32.toInt_inj, ti_0] at c_136
      refine lv_iconst (v := 1) hx hb dX12_sideGoes_14 (by decide) ?_
      refine lv_aload_n hx hb dX12_sideGoes_15 rfl (lv_at hl 0 rfl) ?_
      refine lv_iload_n hx hb dX12_sideGoes_16 rfl (lv_at hl 1 rfl) ?_
      refine lv_iconst (v := 1) hx hb dX12_sideGoes_17 (by decide) ?_
      refine tk_ViP (As := [.int p1, .int 1]) (rest := [.int 1]) (n := 2) hx hb hml hown hU hN hZ (s_X12_itemsOf_k12 l (dC, dI) cI cL cZ cR cG cH Z kd L f hG o0 mo0 ko0 p1 (by constructor <;> omega) 1 (by decide)) wd_882 wd_883 wd_884 wd_5 wd_885 (by decide +kernel) ⟨Nat.le_of_ble_eq_true rfl, Nat.le_of_ble_eq_true rfl⟩ hK hP hD hS mo0 hfo_131 12 rfl rfl rfl hl.1 rfl (Nat.le_of_ble_eq_true rfl) dX12_sideGoes_18 ⟨Nat.le_of_ble_eq_true rfl, Nat.le_of_ble_eq_true rfl⟩ (fun x_142 f_143 H locs hw hP hD hS => ?_)
      obtain ⟨rfl, bx_142⟩ := hw
      refine lv_ishl hx hb dX12_sideGoes_21 ?_
      refine lv_topi (fun x_145 ex_145 => ?_)
      have bx_145 : (1 ≤ x_145.toInt ∧ x_145.toInt ≤ 32) := by rw [ex_145]; exact sl_1_5 (by constructor <;> omega)
      exact W.iret (v := x_145) hx hb hr (fun t ht hW => ⟨⟨x_145, f, rfl, ⟨rfl, (by constructor <;> omega)⟩, by rw [ht]; exact hP, va_K.moved hW.alike hK, pl_in hD⟩, hS.F ht⟩) hS.2.2 dX12_sideGoes_22
set_option maxHeartbeats 8000000 in
set_option maxRecDepth 100000 in
theorem s_X12_isRule_k12 (l : Launch) (D : va_G) (cI cL cZ cR cG cH : ClassId) (Z : zT) (kd : Nat → Nat) (L : List Nat) (f : Nat → va_E) (hG : GI (okc cI cL cZ cR cG cH L kd) kd L f) (o0 : Nat) (mo0 : o0 ∈ L) (ko0 : kd o0 = 12) (p1 : Int32) : mPI l D cI cL cZ cR cG cH Z yX12_isRule cX12_isRule 2 (some .boolean) 1 22 [.ref o0, .int p1] L f (fun (r : Int32) (f9 : Nat → va_E) => f = f9 ∧ (0 ≤ r.toInt ∧ r.toInt ≤ 1) ∧ (r.toInt = 0 ∨ (0 ≤ p1.toInt ∧ p1.toInt ≤ 7))) := by
  obtain ⟨dC, dI⟩ := D
  refine Met.ofW (cc := cX12_isRule) (maxL := 2) (ret := (some .boolean)) (by decide) rfl ?_
  intro p e s m args below meth c s₁ B hml hv
  obtain ⟨rfl, hP, hK, hD0, hN, hZ⟩ := hv
  have hx := B.exec
  have hb := B.bytes
  have hr := B.returns
  have hU : ∀ w ∈ wsU, w.before _ s = true := fun w h => atoms_spec (ws := wU yX12_isRule cX12_isRule 2 (some .boolean)) B.pre w (List.mem_cons_of_mem _ h)
  have hown : s.vm.findClass RX12 = some m.cls := findClass_of_methodNamed B.named
  have hlocks := B.notSynchronized
  have hD := pl_in hD0
  have hS : va_S (fun q => q ∈ L) s.heap s.heap [] := va_S.rf
  have hl := lv_entry ([.ref o0, .int p1]) (n := 2) (Nat.le_of_ble_eq_true rfl)
  rw [lg_entry_eq]
  generalize (lg_sl ([.ref o0, .int p1]) ++ List.replicate (2 - (lg_sl ([.ref o0, .int p1])).length) Slot.unset).toArray = ls at hl ⊢
  have hl : lv_has ls 2 [(0, .ref o0), (1, .int p1)] := hl
  have bp1 : ((-2147483648) ≤ p1.toInt ∧ p1.toInt ≤ 2147483647) := ⟨i32_lo _, i32_hi _⟩
  refine lv_iload_n hx hb dX12_isRule_0 rfl (lv_at hl 1 rfl) ?_
  refine lv_iconst (v := 0) hx hb dX12_isRule_1 (by decide) ?_
  refine lv_aload_n hx hb dX12_isRule_2 rfl (lv_at hl 0 rfl) ?_
  obtain ⟨a_1, a_2, a_3, v_4, a_5, v_6, v_7, v_8, v_9, v_10, v_11, v_12, v_13, v_14, v_15, a_16, a_17, a_18, a_19, a_20, a_21, a_22, a_23, v_24, v_25, v_26, v_27, v_28, a_29, v_30, a_31, a_32, v_33, v_34, a_35, v_36, a_37, a_38, v_39, v_40, a_41, a_42, a_43, v_44, a_45, a_46, a_47, a_48, a_49, a_50, a_51, a_52, a_53, v_54, v_55, a_56, hfo_57, fa_58⟩ := un12 (hG _ mo0) ko0
  obtain ⟨ma_1, ka_1⟩ := fa12_0 fa_58
  refine tk_getP (D := (dC, dI)) (ci := 12) (v := .ref a_1) (C := RX12) (T := TX12) (N := 56) hx hb hU inlX12 hown hK hP mo0 hfo_57 rfl 0 (by decide) (hU _ wd_169) (fun _ h9 => h9) rfl dX12_isRule_3 ?_
  refine lv_bipush (v := 17) hx hb dX12_isRule_6 (by decide) ?_
  obtain ⟨g_60, hfo_59, hbg_60⟩ := un_575 (hG _ ma_1) ka_1
  refine tk_ildP hx hb hK hP 0 ma_1 hfo_59 rfl (vp_in_nI (n := 17) (by decide) (by decide)) dX12_isRule_8 ?_
  refine lv_topi (fun x_61 ex_61 => ?_)
  have bx_61 : (0 ≤ x_61.toInt ∧ x_61.toInt ≤ 8) := by rw [ex_61]; exact hbg_60.2.2.1 _ (by decide) (by decide) (by decide)
  refine lv_iconst (v := 1) hx hb dX12_isRule_9 (by decide) ?_
  refine lv_isub hx hb dX12_isRule_10 ?_
  refine lv_topi (fun x_62 ex_62 => ?_)
  have hx_62 : x_62.toInt = x_61.toInt - 1 := by rw [ex_62, sb_I (by rw [ti_1]; omega) (by rw [ti_1]; omega), ti_1]
  have bx_62 : ((-1) ≤ x_62.toInt ∧ x_62.toInt ≤ 7) := by constructor <;> omega
  refine tk_SiP (As := [.int p1, .int 0, .int x_62]) (rest := []) (n := 3) hx hb hml hown hU hN hZ (s_X12_isIn l (dC, dI) cI cL cZ cR cG cH Z kd L f hG p1 0 x_62) wd_227 wd_228 wd_5 wd_229 (by decide +kernel) ⟨Nat.le_of_ble_eq_true rfl, Nat.le_of_ble_eq_true rfl⟩ hK hP hD hS rfl hl.1 rfl (Nat.le_of_ble_eq_true rfl) dX12_isRule_11 ⟨Nat.le_of_ble_eq_true rfl, Nat.le_of_ble_eq_true rfl⟩ (fun x_63 f_64 H locs hw hP hD hS => ?_)
  obtain ⟨rfl, bx_63, relx_63⟩ := hw
  try rw [ti_0] at relx_63
  exact W.zret (v := x_63) (ty := .boolean) hx hb hr (zb_n (by constructor <;> omega)) (fun t ht hW => ⟨⟨x_63, f, rfl, ⟨rfl, (by constructor <;> omega), (by omega)⟩, by rw [ht]; exact hP, va_K.moved hW.alike hK, pl_in hD⟩, hS.F ht⟩) hS.2.2 dX12_isRule_14
set_option maxHeartbeats 8000000 in
set_option maxRecDepth 100000 in
theorem s_X12_never_k12 (l : Launch) (D : va_G) (cI cL cZ cR cG cH : ClassId) (Z : zT) (kd : Nat → Nat) (L : List Nat) (f : Nat → va_E) (hG : GI (okc cI cL cZ cR cG cH L kd) kd L f) (o0 : Nat) (mo0 : o0 ∈ L) (ko0 : kd o0 = 12) (p1 : Int32) (bp1 : (0 ≤ p1.toInt ∧ p1.toInt ≤ 7)) : mPI l D cI cL cZ cR cG cH Z yX12_never cX12_never 2 (some .boolean) 1 22 [.ref o0, .int p1] L f (fun (r : Int32) (f9 : Nat → va_E) => f = f9 ∧ (0 ≤ r.toInt ∧ r.toInt ≤ 1)) := by
  obtain ⟨dC, dI⟩ := D
  refine Met.ofW (cc := cX12_never) (maxL := 2) (ret := (some .boolean)) (by decide) rfl ?_
  intro p e s m args below meth c s₁ B hml hv
  obtain ⟨rfl, hP, hK, hD0, hN, hZ⟩ := hv
  have hx := B.exec
  have hb := B.bytes
  have hr := B.returns
  have hU : ∀ w ∈ wsU, w.before _ s = true := fun w h => atoms_spec (ws := wU yX12_never cX12_never 2 (some .boolean)) B.pre w (List.mem_cons_of_mem _ h)
  have hown : s.vm.findClass RX12 = some m.cls := findClass_of_methodNamed B.named
  have hlocks := B.notSynchronized
  have hD := pl_in hD0
  have hS : va_S (fun q => q ∈ L) s.heap s.heap [] := va_S.rf
  have hl := lv_entry ([.ref o0, .int p1]) (n := 2) (Nat.le_of_ble_eq_true rfl)
  rw [lg_entry_eq]
  generalize (lg_sl ([.ref o0, .int p1]) ++ List.replicate (2 - (lg_sl ([.ref o0, .int p1])).length) Slot.unset).toArray = ls at hl ⊢
  have hl : lv_has ls 2 [(0, .ref o0), (1, .int p1)] := hl
  refine lv_aload_n hx hb dX12_never_0 rfl (lv_at hl 0 rfl) ?_
  refine lv_iload_n hx hb dX12_never_1 rfl (lv_at hl 1 rfl) ?_
  refine lv_iconst (v := 2) hx hb dX12_never_2 (by decide) ?_
  obtain ⟨a_1, a_2, a_3, v_4, a_5, v_6, v_7, v_8, v_9, v_10, v_11, v_12, v_13, v_14, v_15, a_16, a_17, a_18, a_19, a_20, a_21, a_22, a_23, v_24, v_25, v_26, v_27, v_28, a_29, v_30, a_31, a_32, v_33, v_34, a_35, v_36, a_37, a_38, v_39, v_40, a_41, a_42, a_43, v_44, a_45, a_46, a_47, a_48, a_49, a_50, a_51, a_52, a_53, v_54, v_55, a_56, hfo_57, fa_58⟩ := un12 (hG _ mo0) ko0
  refine tk_ViP (As := [.int p1, .int 2]) (rest := []) (n := 2) hx hb hml hown hU hN hZ (s_X12_ofRule_k12_c2_2 l (dC, dI) cI cL cZ cR cG cH Z kd L f hG o0 mo0 ko0 p1 (by constructor <;> omega)) wd_894 wd_895 wd_896 wd_5 wd_897 (by decide +kernel) ⟨Nat.le_of_ble_eq_true rfl, Nat.le_of_ble_eq_true rfl⟩ hK hP hD hS mo0 hfo_57 12 rfl rfl rfl hl.1 rfl (Nat.le_of_ble_eq_true rfl) dX12_never_3 ⟨Nat.le_of_ble_eq_true rfl, Nat.le_of_ble_eq_true rfl⟩ (fun x_59 f_60 H locs hw hP hD hS => ?_)
  obtain ⟨rfl, bx_59⟩ := hw
  refine lv_iconst (v := 1) hx hb dX12_never_6 (by decide) ?_
  refine lv_icmp_eq (tgt := 20) hx hb dX12_never_7 (by decide) (fun c_62 => ?_) (fun c_62 => ?_)
  · skip
    rw [← Int32.toInt_inj, ti_1] at c_62
    refine lv_iconst (v := 1) hx hb dX12_never_20 (by decide) ?_
    refine lv_goto (tgt := 25) hx hb dX12_never_21 (by decide) ?_
    exact W.zret (v := 1) (ty := .boolean) hx hb hr rfl (fun t ht hW => ⟨⟨1, f, rfl, ⟨rfl, (by decide)⟩, by rw [ht]; exact hP, va_K.moved hW.alike hK, pl_in hD⟩, hS.F ht⟩) hS.2.2 dX12_never_25
  · skip
    rw [← Int32.toInt_inj, ti_1] at c_62
    refine lv_aload_n hx hb dX12_never_10 rfl (lv_at hl 0 rfl) ?_
    refine lv_iload_n hx hb dX12_never_11 rfl (lv_at hl 1 rfl) ?_
    refine lv_iconst (v := 2) hx hb dX12_never_12 (by decide) ?_
    refine tk_ViP (As := [.int p1, .int 2]) (rest := []) (n := 2) hx hb hml hown hU hN hZ (s_X12_ofRule_k12_c2_2 l (dC, dI) cI cL cZ cR cG cH Z kd L f hG o0 mo0 ko0 p1 (by constructor <;> omega)) wd_894 wd_895 wd_896 wd_5 wd_897 (by decide +kernel) ⟨Nat.le_of_ble_eq_true rfl, Nat.le_of_ble_eq_true rfl⟩ hK hP hD hS mo0 hfo_57 12 rfl rfl rfl hl.1 rfl (Nat.le_of_ble_eq_true rfl) dX12_never_13 ⟨Nat.le_of_ble_eq_true rfl, Nat.le_of_ble_eq_true rfl⟩ (fun x_63 f_64 H locs hw hP hD hS => ?_)
    obtain ⟨rfl, bx_63⟩ := hw
    refine lv_iconst (v := 2) hx hb dX12_never_16 (by decide) ?_
    refine lv_icmp_ne (tgt := 24) hx hb dX12_never_17 (by decide) (fun c_66 => ?_) (fun c_66 => ?_)
    · skip
      rw [← Int32.toInt_inj, ti_2] at c_66
      refine lv_iconst (v := 0) hx hb dX12_never_24 (by decide) ?_
      exact W.zret (v := 0) (ty := .boolean) hx hb hr rfl (fun t ht hW => ⟨⟨0, f, rfl, ⟨rfl, (by decide)⟩, by rw [ht]; exact hP, va_K.moved hW.alike hK, pl_in hD⟩, hS.F ht⟩) hS.2.2 dX12_never_25
    · skip
      rw [← Int32.toInt_inj, ti_2] at c_66
      refine lv_iconst (v := 1) hx hb dX12_never_20 (by decide) ?_
      refine lv_goto (tgt := 25) hx hb dX12_never_21 (by decide) ?_
      exact W.zret (v := 1) (ty := .boolean) hx hb hr rfl (fun t ht hW => ⟨⟨1, f, rfl, ⟨rfl, (by decide)⟩, by rw [ht]; exact hP, va_K.moved hW.alike hK, pl_in hD⟩, hS.F ht⟩) hS.2.2 dX12_never_25
set_option maxHeartbeats 8000000 in
set_option maxRecDepth 100000 in
theorem s_X12_canQuarrel_k12 (l : Launch) (D : va_G) (cI cL cZ cR cG cH : ClassId) (Z : zT) (kd : Nat → Nat) (L : List Nat) (f : Nat → va_E) (hG : GI (okc cI cL cZ cR cG cH L kd) kd L f) (o0 : Nat) (mo0 : o0 ∈ L) (ko0 : kd o0 = 12) (p1 : Int32) (bp1 : (0 ≤ p1.toInt ∧ p1.toInt ≤ 7)) (p2 : Int32) (bp2 : (0 ≤ p2.toInt ∧ p2.toInt ≤ 7)) : mPI l D cI cL cZ cR cG cH Z yX12_canQuarrel cX12_canQuarrel 4 (some .boolean) 2 43 [.ref o0, .int p1, .int p2] L f (fun (r : Int32) (f9 : Nat → va_E) => f = f9 ∧ (0 ≤ r.toInt ∧ r.toInt ≤ 1)) := by
  obtain ⟨dC, dI⟩ := D
  refine Met.ofW (cc := cX12_canQuarrel) (maxL := 4) (ret := (some .boolean)) (by decide) rfl ?_
  intro p e s m args below meth c s₁ B hml hv
  obtain ⟨rfl, hP, hK, hD0, hN, hZ⟩ := hv
  have hx := B.exec
  have hb := B.bytes
  have hr := B.returns
  have hU : ∀ w ∈ wsU, w.before _ s = true := fun w h => atoms_spec (ws := wU yX12_canQuarrel cX12_canQuarrel 4 (some .boolean)) B.pre w (List.mem_cons_of_mem _ h)
  have hown : s.vm.findClass RX12 = some m.cls := findClass_of_methodNamed B.named
  have hlocks := B.notSynchronized
  have hD := pl_in hD0
  have hS : va_S (fun q => q ∈ L) s.heap s.heap [] := va_S.rf
  have hl := lv_entry ([.ref o0, .int p1, .int p2]) (n := 4) (Nat.le_of_ble_eq_true rfl)
  rw [lg_entry_eq]
  generalize (lg_sl ([.ref o0, .int p1, .int p2]) ++ List.replicate (4 - (lg_sl ([.ref o0, .int p1, .int p2])).length) Slot.unset).toArray = ls at hl ⊢
  have hl : lv_has ls 4 [(0, .ref o0), (1, .int p1), (2, .int p2)] := hl
  refine lv_aload_n hx hb dX12_canQuarrel_0 rfl (lv_at hl 0 rfl) ?_
  refine lv_iload_n hx hb dX12_canQuarrel_1 rfl (lv_at hl 1 rfl) ?_
  refine lv_iconst (v := 0) hx hb dX12_canQuarrel_2 (by decide) ?_
  obtain ⟨a_1, a_2, a_3, v_4, a_5, v_6, v_7, v_8, v_9, v_10, v_11, v_12, v_13, v_14, v_15, a_16, a_17, a_18, a_19, a_20, a_21, a_22, a_23, v_24, v_25, v_26, v_27, v_28, a_29, v_30, a_31, a_32, v_33, v_34, a_35, v_36, a_37, a_38, v_39, v_40, a_41, a_42, a_43, v_44, a_45, a_46, a_47, a_48, a_49, a_50, a_51, a_52, a_53, v_54, v_55, a_56, hfo_57, fa_58⟩ := un12 (hG _ mo0) ko0
  refine tk_ViP (As := [.int p1, .int 0]) (rest := []) (n := 2) hx hb hml hown hU hN hZ (s_X12_ofRule_k12 l (dC, dI) cI cL cZ cR cG cH Z kd L f hG o0 mo0 ko0 p1 (by constructor <;> omega) 0 (by decide)) wd_894 wd_895 wd_896 wd_5 wd_897 (by decide +kernel) ⟨Nat.le_of_ble_eq_true rfl, Nat.le_of_ble_eq_true rfl⟩ hK hP hD hS mo0 hfo_57 12 rfl rfl rfl hl.1 rfl (Nat.le_of_ble_eq_true rfl) dX12_canQuarrel_3 ⟨Nat.le_of_ble_eq_true rfl, Nat.le_of_ble_eq_true rfl⟩ (fun x_59 f_60 H locs hw hP hD hS => ?_)
  obtain ⟨rfl, bx_59⟩ := hw
  refine lv_aload_n hx hb dX12_canQuarrel_6 rfl (lv_at hl 0 rfl) ?_
  refine lv_iload_n hx hb dX12_canQuarrel_7 rfl (lv_at hl 2 rfl) ?_
  refine lv_iconst (v := 0) hx hb dX12_canQuarrel_8 (by decide) ?_
  refine tk_ViP (As := [.int p2, .int 0]) (rest := [.int x_59]) (n := 2) hx hb hml hown hU hN hZ (s_X12_ofRule_k12 l (dC, dI) cI cL cZ cR cG cH Z kd L f hG o0 mo0 ko0 p2 (by constructor <;> omega) 0 (by decide)) wd_894 wd_895 wd_896 wd_5 wd_897 (by decide +kernel) ⟨Nat.le_of_ble_eq_true rfl, Nat.le_of_ble_eq_true rfl⟩ hK hP hD hS mo0 hfo_57 12 rfl rfl rfl hl.1 rfl (Nat.le_of_ble_eq_true rfl) dX12_canQuarrel_9 ⟨Nat.le_of_ble_eq_true rfl, Nat.le_of_ble_eq_true rfl⟩ (fun x_62 f_63 H locs hw hP hD hS => ?_)
  obtain ⟨rfl, bx_62⟩ := hw
  refine lv_icmp_eq (tgt := 17) hx hb dX12_canQuarrel_12 (by decide) (fun c_65 => ?_) (fun c_65 => ?_)
  · skip
    rw [← Int32.toInt_inj] at c_65
    refine lv_aload_n hx hb dX12_canQuarrel_17 rfl (lv_at hl 0 rfl) ?_
    refine lv_iload_n hx hb dX12_canQuarrel_18 rfl (lv_at hl 1 rfl) ?_
    refine lv_iconst (v := 1) hx hb dX12_canQuarrel_19 (by decide) ?_
    refine tk_ViP (As := [.int p1, .int 1]) (rest := []) (n := 2) hx hb hml hown hU hN hZ (s_X12_ofRule_k12 l (dC, dI) cI cL cZ cR cG cH Z kd L f hG o0 mo0 ko0 p1 (by constructor <;> omega) 1 (by decide)) wd_894 wd_895 wd_896 wd_5 wd_897 (by decide +kernel) ⟨Nat.le_of_ble_eq_true rfl, Nat.le_of_ble_eq_true rfl⟩ hK hP hD hS mo0 hfo_57 12 rfl rfl rfl hl.1 rfl (Nat.le_of_ble_eq_true rfl) dX12_canQuarrel_20 ⟨Nat.le_of_ble_eq_true rfl, Nat.le_of_ble_eq_true rfl⟩ (fun x_66 f_67 H locs hw hP hD hS => ?_)
    obtain ⟨rfl, bx_66⟩ := hw
    refine lv_aload_n hx hb dX12_canQuarrel_23 rfl (lv_at hl 0 rfl) ?_
    refine lv_iload_n hx hb dX12_canQuarrel_24 rfl (lv_at hl 2 rfl) ?_
    refine lv_iconst (v := 1) hx hb dX12_canQuarrel_25 (by decide) ?_
    refine tk_ViP (As := [.int p2, .int 1]) (rest := [.int x_66]) (n := 2) hx hb hml hown hU hN hZ (s_X12_ofRule_k12 l (dC, dI) cI cL cZ cR cG cH Z kd L f hG o0 mo0 ko0 p2 (by constructor <;> omega) 1 (by decide)) wd_894 wd_895 wd_896 wd_5 wd_897 (by decide +kernel) ⟨Nat.le_of_ble_eq_true rfl, Nat.le_of_ble_eq_true rfl⟩ hK hP hD hS mo0 hfo_57 12 rfl rfl rfl hl.1 rfl (Nat.le_of_ble_eq_true rfl) dX12_canQuarrel_26 ⟨Nat.le_of_ble_eq_true rfl, Nat.le_of_ble_eq_true rfl⟩ (fun x_69 f_70 H locs hw hP hD hS => ?_)
    obtain ⟨rfl, bx_69⟩ := hw
    have hcut_73 : ∀ (y_72 : Int32), (0 ≤ y_72.toInt ∧ y_72.toInt ≤ 1) → ∀ (ls : Array Slot), lv_has ls 4 [(0, .ref o0), (1, .int p1), (2, .int p2)] → W p l e (headSpec (wU yX12_canQuarrel cX12_canQuarrel 4 (some .boolean)) { frames := 2, cells := 0, slots := 0, locals := 43 }).room s m [.ref o0, .int p1, .int p2].toArray below meth c H locs 0 0 (MQ below (va_Qi (fun (r : Int32) (f9 : Nat → va_E) => f = f9 ∧ (0 ≤ r.toInt ∧ r.toInt ≤ 1)) (qP (dC, dI) cI cL cZ cR cG cH L) (fun q => q ∈ L)) [.ref o0, .int p1, .int p2].toArray s 0 0 (fun q => q ∈ L)) (F0 m 37 ls [.int y_72]) := by
      intro y_72 by_72 ls hl
      refine lv_istore_n (lv' := [(3, .int y_72), (0, .ref o0), (1, .int p1), (2, .int p2)]) hx hb dX12_canQuarrel_37 rfl hl (by decide) rfl (fun ls hl => ?_)
      refine lv_aload_n hx hb dX12_canQuarrel_38 rfl (lv_at hl 1 rfl) ?_
      refine lv_iload_n hx hb dX12_canQuarrel_39 rfl (lv_at hl 2 rfl) ?_
      refine tk_ViP (As := [.int p1]) (rest := []) (n := 1) hx hb hml hown hU hN hZ (s_X12_never_k12 l (dC, dI) cI cL cZ cR cG cH Z kd L f hG o0 mo0 ko0 p1 (by constructor <;> omega)) wd_1297 wd_1298 wd_1299 wd_5 wd_1300 (by decide +kernel) ⟨Nat.le_of_ble_eq_true rfl, Nat.le_of_ble_eq_true rfl⟩ hK hP hD hS mo0 hfo_57 12 rfl rfl rfl hl.1 rfl (Nat.le_of_ble_eq_true rfl) dX12_canQuarrel_40 ⟨Nat.le_of_ble_eq_true rfl, Nat.le_of_ble_eq_true rfl⟩ (fun x_74 f_75 H locs hw hP hD hS => ?_)
      obtain ⟨rfl, bx_74⟩ := hw
      refine lv_if_eq (tgt := 58) hx hb dX12_canQuarrel_43 (by decide) (fun c_77 => ?_) (fun c_77 => ?_)
      · skip
        rw [← Int32.toInt_inj, ti_0] at c_77
        refine lv_iload_n hx hb dX12_canQuarrel_58 rfl (lv_at hl 0 rfl) ?_
        refine lv_if_eq (tgt := 102) hx hb dX12_canQuarrel_59 (by decide) (fun c_78 => ?_) (fun c_78 => ?_)
        · skip
          rw [← Int32.toInt_inj, ti_0] at c_78
          refine lv_iconst (v := 0) hx hb dX12_canQuarrel_102 (by decide) ?_
          exact W.zret (v := 0) (ty := .boolean) hx hb hr rfl (fun t ht hW => ⟨⟨0, f, rfl, ⟨rfl, (by decide)⟩, by rw [ht]; exact hP, va_K.moved hW.alike hK, pl_in hD⟩, hS.F ht⟩) hS.2.2 dX12_canQuarrel_103
        · skip
          rw [← Int32.toInt_inj, ti_0] at c_78
          refine lv_aload_n hx hb dX12_canQuarrel_62 rfl (lv_at hl 1 rfl) ?_
          refine lv_iload_n hx hb dX12_canQuarrel_63 rfl (lv_at hl 2 rfl) ?_
          refine tk_ViP (As := [.int p1]) (rest := []) (n := 1) hx hb hml hown hU hN hZ (s_X12_never_k12 l (dC, dI) cI cL cZ cR cG cH Z kd L f hG o0 mo0 ko0 p1 (by constructor <;> omega)) wd_1297 wd_1298 wd_1299 wd_5 wd_1300 (by decide +kernel) ⟨Nat.le_of_ble_eq_true rfl, Nat.le_of_ble_eq_true rfl⟩ hK hP hD hS mo0 hfo_57 12 rfl rfl rfl hl.1 rfl (Nat.le_of_ble_eq_true rfl) dX12_canQuarrel_64 ⟨Nat.le_of_ble_eq_true rfl, Nat.le_of_ble_eq_true rfl⟩ (fun x_79 f_80 H locs hw hP hD hS => ?_)
          obtain ⟨rfl, bx_79⟩ := hw
          refine lv_if_eq (tgt := 80) hx hb dX12_canQuarrel_67 (by decide) (fun c_82 => ?_) (fun c_82 => ?_)
          · skip
            rw [← Int32.toInt_inj, ti_0] at c_82
            refine lv_aload_n hx hb dX12_canQuarrel_80 rfl (lv_at hl 1 rfl) ?_
            refine lv_iload_n hx hb dX12_canQuarrel_81 rfl (lv_at hl 3 rfl) ?_
            refine tk_ViP (As := [.int p2]) (rest := []) (n := 1) hx hb hml hown hU hN hZ (s_X12_never_k12 l (dC, dI) cI cL cZ cR cG cH Z kd L f hG o0 mo0 ko0 p2 (by constructor <;> omega)) wd_1297 wd_1298 wd_1299 wd_5 wd_1300 (by decide +kernel) ⟨Nat.le_of_ble_eq_true rfl, Nat.le_of_ble_eq_true rfl⟩ hK hP hD hS mo0 hfo_57 12 rfl rfl rfl hl.1 rfl (Nat.le_of_ble_eq_true rfl) dX12_canQuarrel_82 ⟨Nat.le_of_ble_eq_true rfl, Nat.le_of_ble_eq_true rfl⟩ (fun x_83 f_84 H locs hw hP hD hS => ?_)
            obtain ⟨rfl, bx_83⟩ := hw
            refine lv_if_eq (tgt := 102) hx hb dX12_canQuarrel_85 (by decide) (fun c_86 => ?_) (fun c_86 => ?_)
            · skip
              rw [← Int32.toInt_inj, ti_0] at c_86
              refine lv_iconst (v := 0) hx hb dX12_canQuarrel_102 (by decide) ?_
              exact W.zret (v := 0) (ty := .boolean) hx hb hr rfl (fun t ht hW => ⟨⟨0, f, rfl, ⟨rfl, (by decide)⟩, by rw [ht]; exact hP, va_K.moved hW.alike hK, pl_in hD⟩, hS.F ht⟩) hS.2.2 dX12_canQuarrel_103
            · skip
              rw [← Int32.toInt_inj, ti_0] at c_86
              refine lv_aload_n hx hb dX12_canQuarrel_88 rfl (lv_at hl 1 rfl) ?_
              refine lv_iload_n hx hb dX12_canQuarrel_89 rfl (lv_at hl 2 rfl) ?_
              refine lv_iconst (v := 2) hx hb dX12_canQuarrel_90 (by decide) ?_
              refine tk_ViP (As := [.int p1, .int 2]) (rest := []) (n := 2) hx hb hml hown hU hN hZ (s_X12_ofRule_k12_c2_2 l (dC, dI) cI cL cZ cR cG cH Z kd L f hG o0 mo0 ko0 p1 (by constructor <;> omega)) wd_894 wd_895 wd_896 wd_5 wd_897 (by decide +kernel) ⟨Nat.le_of_ble_eq_true rfl, Nat.le_of_ble_eq_true rfl⟩ hK hP hD hS mo0 hfo_57 12 rfl rfl rfl hl.1 rfl (Nat.le_of_ble_eq_true rfl) dX12_canQuarrel_91 ⟨Nat.le_of_ble_eq_true rfl, Nat.le_of_ble_eq_true rfl⟩ (fun x_87 f_88 H locs hw hP hD hS => ?_)
              obtain ⟨rfl, bx_87⟩ := hw
              refine lv_iconst (v := 3) hx hb dX12_canQuarrel_94 (by decide) ?_
              refine lv_icmp_ne (tgt := 102) hx hb dX12_canQuarrel_95 (by decide) (fun c_90 => ?_) (fun c_90 => ?_)
              · skip
                rw [← Int32.toInt_inj, ti_3] at c_90
                refine lv_iconst (v := 0) hx hb dX12_canQuarrel_102 (by decide) ?_
                exact W.zret (v := 0) (ty := .boolean) hx hb hr rfl (fun t ht hW => ⟨⟨0, f, rfl, ⟨rfl, (by decide)⟩, by rw [ht]; exact hP, va_K.moved hW.alike hK, pl_in hD⟩, hS.F ht⟩) hS.2.2 dX12_canQuarrel_103
              · skip
                rw [← Int32.toInt_inj, ti_3] at c_90
                refine lv_iconst (v := 1) hx hb dX12_canQuarrel_98 (by decide) ?_
                refine lv_goto (tgt := 103) hx hb dX12_canQuarrel_99 (by decide) ?_
                exact W.zret (v := 1) (ty := .boolean) hx hb hr rfl (fun t ht hW => ⟨⟨1, f, rfl, ⟨rfl, (by decide)⟩, by rw [ht]; exact hP, va_K.moved hW.alike hK, pl_in hD⟩, hS.F ht⟩) hS.2.2 dX12_canQuarrel_103
          · skip
            rw [← Int32.toInt_inj, ti_0] at c_82
            refine lv_aload_n hx hb dX12_canQuarrel_70 rfl (lv_at hl 1 rfl) ?_
            refine lv_iload_n hx hb dX12_canQuarrel_71 rfl (lv_at hl 3 rfl) ?_
            refine lv_iconst (v := 2) hx hb dX12_canQuarrel_72 (by decide) ?_
            refine tk_ViP (As := [.int p2, .int 2]) (rest := []) (n := 2) hx hb hml hown hU hN hZ (s_X12_ofRule_k12_c2_2 l (dC, dI) cI cL cZ cR cG cH Z kd L f hG o0 mo0 ko0 p2 (by constructor <;> omega)) wd_894 wd_895 wd_896 wd_5 wd_897 (by decide +kernel) ⟨Nat.le_of_ble_eq_true rfl, Nat.le_of_ble_eq_true rfl⟩ hK hP hD hS mo0 hfo_57 12 rfl rfl rfl hl.1 rfl (Nat.le_of_ble_eq_true rfl) dX12_canQuarrel_73 ⟨Nat.le_of_ble_eq_true rfl, Nat.le_of_ble_eq_true rfl⟩ (fun x_91 f_92 H locs hw hP hD hS => ?_)
            obtain ⟨rfl, bx_91⟩ := hw
            refine lv_iconst (v := 3) hx hb dX12_canQuarrel_76 (by decide) ?_
            refine lv_icmp_eq (tgt := 98) hx hb dX12_canQuarrel_77 (by decide) (fun c_94 => ?_) (fun c_94 => ?_)
            · skip
              rw [← Int32.toInt_inj, ti_3] at c_94
              refine lv_iconst (v := 1) hx hb dX12_canQuarrel_98 (by decide) ?_
              refine lv_goto (tgt := 103) hx hb dX12_canQuarrel_99 (by decide) ?_
              exact W.zret (v := 1) (ty := .boolean) hx hb hr rfl (fun t ht hW => ⟨⟨1, f, rfl, ⟨rfl, (by decide)⟩, by rw [ht]; exact hP, va_K.moved hW.alike hK, pl_in hD⟩, hS.F ht⟩) hS.2.2 dX12_canQuarrel_103
            · skip
              rw [← Int32.toInt_inj, ti_3] at c_94
              refine lv_aload_n hx hb dX12_canQuarrel_80 rfl (lv_at hl 1 rfl) ?_
              refine lv_iload_n hx hb dX12_canQuarrel_81 rfl (lv_at hl 3 rfl) ?_
              refine tk_ViP (As := [.int p2]) (rest := []) (n := 1) hx hb hml hown hU hN hZ (s_X12_never_k12 l (dC, dI) cI cL cZ cR cG cH Z kd L f hG o0 mo0 ko0 p2 (by constructor <;> omega)) wd_1297 wd_1298 wd_1299 wd_5 wd_1300 (by decide +kernel) ⟨Nat.le_of_ble_eq_true rfl, Nat.le_of_ble_eq_true rfl⟩ hK hP hD hS mo0 hfo_57 12 rfl rfl rfl hl.1 rfl (Nat.le_of_ble_eq_true rfl) dX12_canQuarrel_82 ⟨Nat.le_of_ble_eq_true rfl, Nat.le_of_ble_eq_true rfl⟩ (fun x_95 f_96 H locs hw hP hD hS => ?_)
              obtain ⟨rfl, bx_95⟩ := hw
              refine lv_if_eq (tgt := 102) hx hb dX12_canQuarrel_85 (by decide) (fun c_98 => ?_) (fun c_98 => ?_)
              · skip
                rw [← Int32.toInt_inj, ti_0] at c_98
                refine lv_iconst (v := 0) hx hb dX12_canQuarrel_102 (by decide) ?_
                exact W.zret (v := 0) (ty := .boolean) hx hb hr rfl (fun t ht hW => ⟨⟨0, f, rfl, ⟨rfl, (by decide)⟩, by rw [ht]; exact hP, va_K.moved hW.alike hK, pl_in hD⟩, hS.F ht⟩) hS.2.2 dX12_canQuarrel_103
              · skip
                rw [← Int32.toInt_inj, ti_0] at c_98
                refine lv_aload_n hx hb dX12_canQuarrel_88 rfl (lv_at hl 1 rfl) ?_
                refine lv_iload_n hx hb dX12_canQuarrel_89 rfl (lv_at hl 2 rfl) ?_
                refine lv_iconst (v := 2) hx hb dX12_canQuarrel_90 (by decide) ?_
                refine tk_ViP (As := [.int p1, .int 2]) (rest := []) (n := 2) hx hb hml hown hU hN hZ (s_X12_ofRule_k12_c2_2 l (dC, dI) cI cL cZ cR cG cH Z kd L f hG o0 mo0 ko0 p1 (by constructor <;> omega)) wd_894 wd_895 wd_896 wd_5 wd_897 (by decide +kernel) ⟨Nat.le_of_ble_eq_true rfl, Nat.le_of_ble_eq_true rfl⟩ hK hP hD hS mo0 hfo_57 12 rfl rfl rfl hl.1 rfl (Nat.le_of_ble_eq_true rfl) dX12_canQuarrel_91 ⟨Nat.le_of_ble_eq_true rfl, Nat.le_of_ble_eq_true rfl⟩ (fun x_99 f_100 H locs hw hP hD hS => ?_)
                obtain ⟨rfl, bx_99⟩ := hw
                refine lv_iconst (v := 3) hx hb dX12_canQuarrel_94 (by decide) ?_
                refine lv_icmp_ne (tgt := 102) hx hb dX12_canQuarrel_95 (by decide) (fun c_102 => ?_) (fun c_102 => ?_)
                · skip
                  rw [← Int32.toInt_inj, ti_3] at c_102
                  refine lv_iconst (v := 0) hx hb dX12_canQuarrel_102 (by decide) ?_
                  exact W.zret (v := 0) (ty := .boolean) hx hb hr rfl (fun t ht hW => ⟨⟨0, f, rfl, ⟨rfl, (by decide)⟩, by rw [ht]; exact hP, va_K.moved hW.alike hK, pl_in hD⟩, hS.F ht⟩) hS.2.2 dX12_canQuarrel_103
                · skip
                  rw [← Int32.toInt_inj, ti_3] at c_102
                  refine lv_iconst (v := 1) hx hb dX12_canQuarrel_98 (by decide) ?_
                  refine lv_goto (tgt := 103) hx hb dX12_canQuarrel_99 (by decide) ?_
                  exact W.zret (v := 1) (ty := .boolean) hx hb hr rfl (fun t ht hW => ⟨⟨1, f, rfl, ⟨rfl, (by decide)⟩, by rw [ht]; exact hP, va_K.moved hW.alike hK, pl_in hD⟩, hS.F ht⟩) hS.2.2 dX12_canQuarrel_103
      · skip
        rw [← Int32.toInt_inj, ti_0] at c_77
        refine lv_aload_n hx hb dX12_canQuarrel_46 rfl (lv_at hl 1 rfl) ?_
        refine lv_iload_n hx hb dX12_canQuarrel_47 rfl (lv_at hl 3 rfl) ?_
        refine tk_ViP (As := [.int p2]) (rest := []) (n := 1) hx hb hml hown hU hN hZ (s_X12_never_k12 l (dC, dI) cI cL cZ cR cG cH Z kd L f hG o0 mo0 ko0 p2 (by constructor <;> omega)) wd_1297 wd_1298 wd_1299 wd_5 wd_1300 (by decide +kernel) ⟨Nat.le_of_ble_eq_true rfl, Nat.le_of_ble_eq_true rfl⟩ hK hP hD hS mo0 hfo_57 12 rfl rfl rfl hl.1 rfl (Nat.le_of_ble_eq_true rfl) dX12_canQuarrel_48 ⟨Nat.le_of_ble_eq_true rfl, Nat.le_of_ble_eq_true rfl⟩ (fun x_103 f_104 H locs hw hP hD hS => ?_)
        obtain ⟨rfl, bx_103⟩ := hw
        refine lv_if_eq (tgt := 58) hx hb dX12_canQuarrel_51 (by decide) (fun c_106 => ?_) (fun c_106 => ?_)
        · skip
          rw [← Int32.toInt_inj, ti_0] at c_106
          refine lv_iload_n hx hb dX12_canQuarrel_58 rfl (lv_at hl 0 rfl) ?_
          refine lv_if_eq (tgt := 102) hx hb dX12_canQuarrel_59 (by decide) (fun c_107 => ?_) (fun c_107 => ?_)
          · skip
            rw [← Int32.toInt_inj, ti_0] at c_107
            refine lv_iconst (v := 0) hx hb dX12_canQuarrel_102 (by decide) ?_
            exact W.zret (v := 0) (ty := .boolean) hx hb hr rfl (fun t ht hW => ⟨⟨0, f, rfl, ⟨rfl, (by decide)⟩, by rw [ht]; exact hP, va_K.moved hW.alike hK, pl_in hD⟩, hS.F ht⟩) hS.2.2 dX12_canQuarrel_103
          · skip
            rw [← Int32.toInt_inj, ti_0] at c_107
            refine lv_aload_n hx hb dX12_canQuarrel_62 rfl (lv_at hl 1 rfl) ?_
            refine lv_iload_n hx hb dX12_canQuarrel_63 rfl (lv_at hl 2 rfl) ?_
            refine tk_ViP (As := [.int p1]) (rest := []) (n := 1) hx hb hml hown hU hN hZ (s_X12_never_k12 l (dC, dI) cI cL cZ cR cG cH Z kd L f hG o0 mo0 ko0 p1 (by constructor <;> omega)) wd_1297 wd_1298 wd_1299 wd_5 wd_1300 (by decide +kernel) ⟨Nat.le_of_ble_eq_true rfl, Nat.le_of_ble_eq_true rfl⟩ hK hP hD hS mo0 hfo_57 12 rfl rfl rfl hl.1 rfl (Nat.le_of_ble_eq_true rfl) dX12_canQuarrel_64 ⟨Nat.le_of_ble_eq_true rfl, Nat.le_of_ble_eq_true rfl⟩ (fun x_108 f_109 H locs hw hP hD hS => ?_)
            obtain ⟨rfl, bx_108⟩ := hw
            refine lv_if_eq (tgt := 80) hx hb dX12_canQuarrel_67 (by decide) (fun c_111 => ?_) (fun c_111 => ?_)
            · skip
              rw [← Int32.toInt_inj, ti_0] at c_111
              refine lv_aload_n hx hb dX12_canQuarrel_80 rfl (lv_at hl 1 rfl) ?_
              refine lv_iload_n hx hb dX12_canQuarrel_81 rfl (lv_at hl 3 rfl) ?_
              refine tk_ViP (As := [.int p2]) (rest := []) (n := 1) hx hb hml hown hU hN hZ (s_X12_never_k12 l (dC, dI) cI cL cZ cR cG cH Z kd L f hG o0 mo0 ko0 p2 (by constructor <;> omega)) wd_1297 wd_1298 wd_1299 wd_5 wd_1300 (by decide +kernel) ⟨Nat.le_of_ble_eq_true rfl, Nat.le_of_ble_eq_true rfl⟩ hK hP hD hS mo0 hfo_57 12 rfl rfl rfl hl.1 rfl (Nat.le_of_ble_eq_true rfl) dX12_canQuarrel_82 ⟨Nat.le_of_ble_eq_true rfl, Nat.le_of_ble_eq_true rfl⟩ (fun x_112 f_113 H locs hw hP hD hS => ?_)
              obtain ⟨rfl, bx_112⟩ := hw
              refine lv_if_eq (tgt := 102) hx hb dX12_canQuarrel_85 (by decide) (fun c_115 => ?_) (fun c_115 => ?_)
              · skip
                rw [← Int32.toInt_inj, ti_0] at c_115
                refine lv_iconst (v := 0) hx hb dX12_canQuarrel_102 (by decide) ?_
                exact W.zret (v := 0) (ty := .boolean) hx hb hr rfl (fun t ht hW => ⟨⟨0, f, rfl, ⟨rfl, (by decide)⟩, by rw [ht]; exact hP, va_K.moved hW.alike hK, pl_in hD⟩, hS.F ht⟩) hS.2.2 dX12_canQuarrel_103
              · skip
                rw [← Int32.toInt_inj, ti_0] at c_115
                refine lv_aload_n hx hb dX12_canQuarrel_88 rfl (lv_at hl 1 rfl) ?_
                refine lv_iload_n hx hb dX12_canQuarrel_89 rfl (lv_at hl 2 rfl) ?_
                refine lv_iconst (v := 2) hx hb dX12_canQuarrel_90 (by decide) ?_
                refine tk_ViP (As := [.int p1, .int 2]) (rest := []) (n := 2) hx hb hml hown hU hN hZ (s_X12_ofRule_k12_c2_2 l (dC, dI) cI cL cZ cR cG cH Z kd L f hG o0 mo0 ko0 p1 (by constructor <;> omega)) wd_894 wd_895 wd_896 wd_5 wd_897 (by decide +kernel) ⟨Nat.le_of_ble_eq_true rfl, Nat.le_of_ble_eq_true rfl⟩ hK hP hD hS mo0 hfo_57 12 rfl rfl rfl hl.1 rfl (Nat.le_of_ble_eq_true rfl) dX12_canQuarrel_91 ⟨Nat.le_of_ble_eq_true rfl, Nat.le_of_ble_eq_true rfl⟩ (fun x_116 f_117 H locs hw hP hD hS => ?_)
                obtain ⟨rfl, bx_116⟩ := hw
                refine lv_iconst (v := 3) hx hb dX12_canQuarrel_94 (by decide) ?_
                refine lv_icmp_ne (tgt := 102) hx hb dX12_canQuarrel_95 (by decide) (fun c_119 => ?_) (fun c_119 => ?_)
                · skip
                  rw [← Int32.toInt_inj, ti_3] at c_119
                  refine lv_iconst (v := 0) hx hb dX12_canQuarrel_102 (by decide) ?_
                  exact W.zret (v := 0) (ty := .boolean) hx hb hr rfl (fun t ht hW => ⟨⟨0, f, rfl, ⟨rfl, (by decide)⟩, by rw [ht]; exact hP, va_K.moved hW.alike hK, pl_in hD⟩, hS.F ht⟩) hS.2.2 dX12_canQuarrel_103
                · skip
                  rw [← Int32.toInt_inj, ti_3] at c_119
                  refine lv_iconst (v := 1) hx hb dX12_canQuarrel_98 (by decide) ?_
                  refine lv_goto (tgt := 103) hx hb dX12_canQuarrel_99 (by decide) ?_
                  exact W.zret (v := 1) (ty := .boolean) hx hb hr rfl (fun t ht hW => ⟨⟨1, f, rfl, ⟨rfl, (by decide)⟩, by rw [ht]; exact hP, va_K.moved hW.alike hK, pl_in hD⟩, hS.F ht⟩) hS.2.2 dX12_canQuarrel_103
            · skip
              rw [← Int32.toInt_inj, ti_0] at c_111
              refine lv_aload_n hx hb dX12_canQuarrel_70 rfl (lv_at hl 1 rfl) ?_
              refine lv_iload_n hx hb dX12_canQuarrel_71 rfl (lv_at hl 3 rfl) ?_
              refine lv_iconst (v := 2) hx hb dX12_canQuarrel_72 (by decide) ?_
              refine tk_ViP (As := [.int p2, .int 2]) (rest := []) (n := 2) hx hb hml hown hU hN hZ (s_X12_ofRule_k12_c2_2 l (dC, dI) cI cL cZ cR cG cH Z kd L f hG o0 mo0 ko0 p2 (by constructor <;> omega)) wd_894 wd_895 wd_896 wd_5 wd_897 (by decide +kernel) ⟨Nat.le_of_ble_eq_true rfl, Nat.le_of_ble_eq_true rfl⟩ hK hP hD hS mo0 hfo_57 12 rfl rfl rfl hl.1 rfl (Nat.le_of_ble_eq_true rfl) dX12_canQuarrel_73 ⟨Nat.le_of_ble_eq_true rfl, Nat.le_of_ble_eq_true rfl⟩ (fun x_120 f_121 H locs hw hP hD hS => ?_)
              obtain ⟨rfl, bx_120⟩ := hw
              refine lv_iconst (v := 3) hx hb dX12_canQuarrel_76 (by decide) ?_
              refine lv_icmp_eq (tgt := 98) hx hb dX12_canQuarrel_77 (by decide) (fun c_123 => ?_) (fun c_123 => ?_)
              · skip
                rw [← Int32.toInt_inj, ti_3] at c_123
                refine lv_iconst (v := 1) hx hb dX12_canQuarrel_98 (by decide) ?_
                refine lv_goto (tgt := 103) hx hb dX12_canQuarrel_99 (by decide) ?_
                exact W.zret (v := 1) (ty := .boolean) hx hb hr rfl (fun t ht hW => ⟨⟨1, f, rfl, ⟨rfl, (by decide)⟩, by rw [ht]; exact hP, va_K.moved hW.alike hK, pl_in hD⟩, hS.F ht⟩) hS.2.2 dX12_canQuarrel_103
              · skip
                rw [← Int32.toInt_inj, ti_3] at c_123
                refine lv_aload_n hx hb dX12_canQuarrel_80 rfl (lv_at hl 1 rfl) ?_
                refine lv_iload_n hx hb dX12_canQuarrel_81 rfl (lv_at hl 3 rfl) ?_
                refine tk_ViP (As := [.int p2]) (rest := []) (n := 1) hx hb hml hown hU hN hZ (s_X12_never_k12 l (dC, dI) cI cL cZ cR cG cH Z kd L f hG o0 mo0 ko0 p2 (by constructor <;> omega)) wd_1297 wd_1298 wd_1299 wd_5 wd_1300 (by decide +kernel) ⟨Nat.le_of_ble_eq_true rfl, Nat.le_of_ble_eq_true rfl⟩ hK hP hD hS mo0 hfo_57 12 rfl rfl rfl hl.1 rfl (Nat.le_of_ble_eq_true rfl) dX12_canQuarrel_82 ⟨Nat.le_of_ble_eq_true rfl, Nat.le_of_ble_eq_true rfl⟩ (fun x_124 f_125 H locs hw hP hD hS => ?_)
                obtain ⟨rfl, bx_124⟩ := hw
                refine lv_if_eq (tgt := 102) hx hb dX12_canQuarrel_85 (by decide) (fun c_127 => ?_) (fun c_127 => ?_)
                · skip
                  rw [← Int32.toInt_inj, ti_0] at c_127
                  refine lv_iconst (v := 0) hx hb dX12_canQuarrel_102 (by decide) ?_
                  exact W.zret (v := 0) (ty := .boolean) hx hb hr rfl (fun t ht hW => ⟨⟨0, f, rfl, ⟨rfl, (by decide)⟩, by rw [ht]; exact hP, va_K.moved hW.alike hK, pl_in hD⟩, hS.F ht⟩) hS.2.2 dX12_canQuarrel_103
                · skip
                  rw [← Int32.toInt_inj, ti_0] at c_127
                  refine lv_aload_n hx hb dX12_canQuarrel_88 rfl (lv_at hl 1 rfl) ?_
                  refine lv_iload_n hx hb dX12_canQuarrel_89 rfl (lv_at hl 2 rfl) ?_
                  refine lv_iconst (v := 2) hx hb dX12_canQuarrel_90 (by decide) ?_
                  refine tk_ViP (As := [.int p1, .int 2]) (rest := []) (n := 2) hx hb hml hown hU hN hZ (s_X12_ofRule_k12_c2_2 l (dC, dI) cI cL cZ cR cG cH Z kd L f hG o0 mo0 ko0 p1 (by constructor <;> omega)) wd_894 wd_895 wd_896 wd_5 wd_897 (by decide +kernel) ⟨Nat.le_of_ble_eq_true rfl, Nat.le_of_ble_eq_true rfl⟩ hK hP hD hS mo0 hfo_57 12 rfl rfl rfl hl.1 rfl (Nat.le_of_ble_eq_true rfl) dX12_canQuarrel_91 ⟨Nat.le_of_ble_eq_true rfl, Nat.le_of_ble_eq_true rfl⟩ (fun x_128 f_129 H locs hw hP hD hS => ?_)
                  obtain ⟨rfl, bx_128⟩ := hw
                  refine lv_iconst (v := 3) hx hb dX12_canQuarrel_94 (by decide) ?_
                  refine lv_icmp_ne (tgt := 102) hx hb dX12_canQuarrel_95 (by decide) (fun c_131 => ?_) (fun c_131 => ?_)
                  · skip
                    rw [← Int32.toInt_inj, ti_3] at c_131
                    refine lv_iconst (v := 0) hx hb dX12_canQuarrel_102 (by decide) ?_
                    exact W.zret (v := 0) (ty := .boolean) hx hb hr rfl (fun t ht hW => ⟨⟨0, f, rfl, ⟨rfl, (by decide)⟩, by rw [ht]; exact hP, va_K.moved hW.alike hK, pl_in hD⟩, hS.F ht⟩) hS.2.2 dX12_canQuarrel_103
                  · skip
                    rw [← Int32.toInt_inj, ti_3] at c_131
                    refine lv_iconst (v := 1) hx hb dX12_canQuarrel_98 (by decide) ?_
                    refine lv_goto (tgt := 103) hx hb dX12_canQuarrel_99 (by decide) ?_
                    exact W.zret (v := 1) (ty := .boolean) hx hb hr rfl (fun t ht hW => ⟨⟨1, f, rfl, ⟨rfl, (by decide)⟩, by rw [ht]; exact hP, va_K.moved hW.alike hK, pl_in hD⟩, hS.F ht⟩) hS.2.2 dX12_canQuarrel_103
        · skip
          rw [← Int32.toInt_inj, ti_0] at c_106
          refine lv_iload_n hx hb dX12_canQuarrel_54 rfl (lv_at hl 0 rfl) ?_
          refine lv_if_eq (tgt := 98) hx hb dX12_canQuarrel_55 (by decide) (fun c_132 => ?_) (fun c_132 => ?_)
          · skip
            rw [← Int32.toInt_inj, ti_0] at c_132
            refine lv_iconst (v := 1) hx hb dX12_canQuarrel_98 (by decide) ?_
            refine lv_goto (tgt := 103) hx hb dX12_canQuarrel_99 (by decide) ?_
            exact W.zret (v := 1) (ty := .boolean) hx hb hr rfl (fun t ht hW => ⟨⟨1, f, rfl, ⟨rfl, (by decide)⟩, by rw [ht]; exact hP, va_K.moved hW.alike hK, pl_in hD⟩, hS.F ht⟩) hS.2.2 dX12_canQuarrel_103
          · skip
            rw [← Int32.toInt_inj, ti_0] at c_132
            refine lv_iload_n hx hb dX12_canQuarrel_58 rfl (lv_at hl 0 rfl) ?_
            refine lv_if_eq (tgt := 102) hx hb dX12_canQuarrel_59 (by decide) (fun c_133 => ?_) (fun c_133 => ?_)
            · skip
              rw [← Int32.toInt_inj, ti_0] at c_133
              exfalso
              omega
            · skip
              rw [← Int32.toInt_inj, ti_0] at c_133
              refine lv_aload_n hx hb dX12_canQuarrel_62 rfl (lv_at hl 1 rfl) ?_
              refine lv_iload_n hx hb dX12_canQuarrel_63 rfl (lv_at hl 2 rfl) ?_
              refine tk_ViP (As := [.int p1]) (rest := []) (n := 1) hx hb hml hown hU hN hZ (s_X12_never_k12 l (dC, dI) cI cL cZ cR cG cH Z kd L f hG o0 mo0 ko0 p1 (by constructor <;> omega)) wd_1297 wd_1298 wd_1299 wd_5 wd_1300 (by decide +kernel) ⟨Nat.le_of_ble_eq_true rfl, Nat.le_of_ble_eq_true rfl⟩ hK hP hD hS mo0 hfo_57 12 rfl rfl rfl hl.1 rfl (Nat.le_of_ble_eq_true rfl) dX12_canQuarrel_64 ⟨Nat.le_of_ble_eq_true rfl, Nat.le_of_ble_eq_true rfl⟩ (fun x_134 f_135 H locs hw hP hD hS => ?_)
              obtain ⟨rfl, bx_134⟩ := hw
              refine lv_if_eq (tgt := 80) hx hb dX12_canQuarrel_67 (by decide) (fun c_137 => ?_) (fun c_137 => ?_)
              · skip
                rw [← Int32.toInt_inj, ti_0] at c_137
                refine lv_aload_n hx hb dX12_canQuarrel_80 rfl (lv_at hl 1 rfl) ?_
                refine lv_iload_n hx hb dX12_canQuarrel_81 rfl (lv_at hl 3 rfl) ?_
                refine tk_ViP (As := [.int p2]) (rest := []) (n := 1) hx hb hml hown hU hN hZ (s_X12_never_k12 l (dC, dI) cI cL cZ cR cG cH Z kd L f hG o0 mo0 ko0 p2 (by constructor <;> omega)) wd_1297 wd_1298 wd_1299 wd_5 wd_1300 (by decide +kernel) ⟨Nat.le_of_ble_eq_true rfl, Nat.le_of_ble_eq_true rfl⟩ hK hP hD hS mo0 hfo_57 12 rfl rfl rfl hl.1 rfl (Nat.le_of_ble_eq_true rfl) dX12_canQuarrel_82 ⟨Nat.le_of_ble_eq_true rfl, Nat.le_of_ble_eq_true rfl⟩ (fun x_138 f_139 H locs hw hP hD hS => ?_)
                obtain ⟨rfl, bx_138⟩ := hw
                refine lv_if_eq (tgt := 102) hx hb dX12_canQuarrel_85 (by decide) (fun c_141 => ?_) (fun c_141 => ?_)
                · skip
                  rw [← Int32.toInt_inj, ti_0] at c_141
                  refine lv_iconst (v := 0) hx hb dX12_canQuarrel_102 (by decide) ?_
                  exact W.zret (v := 0) (ty := .boolean) hx hb hr rfl (fun t ht hW => ⟨⟨0, f, rfl, ⟨rfl, (by decide)⟩, by rw [ht]; exact hP, va_K.moved hW.alike hK, pl_in hD⟩, hS.F ht⟩) hS.2.2 dX12_canQuarrel_103
                · skip
                  rw [← Int32.toInt_inj, ti_0] at c_141
                  refine lv_aload_n hx hb dX12_canQuarrel_88 rfl (lv_at hl 1 rfl) ?_
                  refine lv_iload_n hx hb dX12_canQuarrel_89 rfl (lv_at hl 2 rfl) ?_
                  refine lv_iconst (v := 2) hx hb dX12_canQuarrel_90 (by decide) ?_
                  refine tk_ViP (As := [.int p1, .int 2]) (rest := []) (n := 2) hx hb hml hown hU hN hZ (s_X12_ofRule_k12_c2_2 l (dC, dI) cI cL cZ cR cG cH Z kd L f hG o0 mo0 ko0 p1 (by constructor <;> omega)) wd_894 wd_895 wd_896 wd_5 wd_897 (by decide +kernel) ⟨Nat.le_of_ble_eq_true rfl, Nat.le_of_ble_eq_true rfl⟩ hK hP hD hS mo0 hfo_57 12 rfl rfl rfl hl.1 rfl (Nat.le_of_ble_eq_true rfl) dX12_canQuarrel_91 ⟨Nat.le_of_ble_eq_true rfl, Nat.le_of_ble_eq_true rfl⟩ (fun x_142 f_143 H locs hw hP hD hS => ?_)
                  obtain ⟨rfl, bx_142⟩ := hw
                  refine lv_iconst (v := 3) hx hb dX12_canQuarrel_94 (by decide) ?_
                  refine lv_icmp_ne (tgt := 102) hx hb dX12_canQuarrel_95 (by decide) (fun c_145 => ?_) (fun c_145 => ?_)
                  · skip
                    rw [← Int32.toInt_inj, ti_3] at c_145
                    refine lv_iconst (v := 0) hx hb dX12_canQuarrel_102 (by decide) ?_
                    exact W.zret (v := 0) (ty := .boolean) hx hb hr rfl (fun t ht hW => ⟨⟨0, f, rfl, ⟨rfl, (by decide)⟩, by rw [ht]; exact hP, va_K.moved hW.alike hK, pl_in hD⟩, hS.F ht⟩) hS.2.2 dX12_canQuarrel_103
                  · skip
                    rw [← Int32.toInt_inj, ti_3] at c_145
                    refine lv_iconst (v := 1) hx hb dX12_canQuarrel_98 (by decide) ?_
                    refine lv_goto (tgt := 103) hx hb dX12_canQuarrel_99 (by decide) ?_
                    exact W.zret (v := 1) (ty := .boolean) hx hb hr rfl (fun t ht hW => ⟨⟨1, f, rfl, ⟨rfl, (by decide)⟩, by rw [ht]; exact hP, va_K.moved hW.alike hK, pl_in hD⟩, hS.F ht⟩) hS.2.2 dX12_canQuarrel_103
              · skip
                rw [← Int32.toInt_inj, ti_0] at c_137
                refine lv_aload_n hx hb dX12_canQuarrel_70 rfl (lv_at hl 1 rfl) ?_
                refine lv_iload_n hx hb dX12_canQuarrel_71 rfl (lv_at hl 3 rfl) ?_
                refine lv_iconst (v := 2) hx hb dX12_canQuarrel_72 (by decide) ?_
                refine tk_ViP (As := [.int p2, .int 2]) (rest := []) (n := 2) hx hb hml hown hU hN hZ (s_X12_ofRule_k12_c2_2 l (dC, dI) cI cL cZ cR cG cH Z kd L f hG o0 mo0 ko0 p2 (by constructor <;> omega)) wd_894 wd_895 wd_896 wd_5 wd_897 (by decide +kernel) ⟨Nat.le_of_ble_eq_true rfl, Nat.le_of_ble_eq_true rfl⟩ hK hP hD hS mo0 hfo_57 12 rfl rfl rfl hl.1 rfl (Nat.le_of_ble_eq_true rfl) dX12_canQuarrel_73 ⟨Nat.le_of_ble_eq_true rfl, Nat.le_of_ble_eq_true rfl⟩ (fun x_146 f_147 H locs hw hP hD hS => ?_)
                obtain ⟨rfl, bx_146⟩ := hw
                refine lv_iconst (v := 3) hx hb dX12_canQuarrel_76 (by decide) ?_
                refine lv_icmp_eq (tgt := 98) hx hb dX12_canQuarrel_77 (by decide) (fun c_149 => ?_) (fun c_149 => ?_)
                · skip
                  rw [← Int32.toInt_inj, ti_3] at c_149
                  refine lv_iconst (v := 1) hx hb dX12_canQuarrel_98 (by decide) ?_
                  refine lv_goto (tgt := 103) hx hb dX12_canQuarrel_99 (by decide) ?_
                  exact W.zret (v := 1) (ty := .boolean) hx hb hr rfl (fun t ht hW => ⟨⟨1, f, rfl, ⟨rfl, (by decide)⟩, by rw [ht]; exact hP, va_K.moved hW.alike hK, pl_in hD⟩, hS.F ht⟩) hS.2.2 dX12_canQuarrel_103
                · skip
                  rw [← Int32.toInt_inj, ti_3] at c_149
                  refine lv_aload_n hx hb dX12_canQuarrel_80 rfl (lv_at hl 1 rfl) ?_
                  refine lv_iload_n hx hb dX12_canQuarrel_81 rfl (lv_at hl 3 rfl) ?_
                  refine tk_ViP (As := [.int p2]) (rest := []) (n := 1) hx hb hml hown hU hN hZ (s_X12_never_k12 l (dC, dI) cI cL cZ cR cG cH Z kd L f hG o0 mo0 ko0 p2 (by constructor <;> omega)) wd_1297 wd_1298 wd_1299 wd_5 wd_1300 (by decide +kernel) ⟨Nat.le_of_ble_eq_true rfl, Nat.le_of_ble_eq_true rfl⟩ hK hP hD hS mo0 hfo_57 12 rfl rfl rfl hl.1 rfl (Nat.le_of_ble_eq_true rfl) dX12_canQuarrel_82 ⟨Nat.le_of_ble_eq_true rfl, Nat.le_of_ble_eq_true rfl⟩ (fun x_150 f_151 H locs hw hP hD hS => ?_)
                  obtain ⟨rfl, bx_150⟩ := hw
                  refine lv_if_eq (tgt := 102) hx hb dX12_canQuarrel_85 (by decide) (fun c_153 => ?_) (fun c_153 => ?_)
                  · skip
                    rw [← Int32.toInt_inj, ti_0] at c_153
                    refine lv_iconst (v := 0) hx hb dX12_canQuarrel_102 (by decide) ?_
                    exact W.zret (v := 0) (ty := .boolean) hx hb hr rfl (fun t ht hW => ⟨⟨0, f, rfl, ⟨rfl, (by decide)⟩, by rw [ht]; exact hP, va_K.moved hW.alike hK, pl_in hD⟩, hS.F ht⟩) hS.2.2 dX12_canQuarrel_103
                  · skip
                    rw [← Int32.toInt_inj, ti_0] at c_153
                    refine lv_aload_n hx hb dX12_canQuarrel_88 rfl (lv_at hl 1 rfl) ?_
                    refine lv_iload_n hx hb dX12_canQuarrel_89 rfl (lv_at hl 2 rfl) ?_
                    refine lv_iconst (v := 2) hx hb dX12_canQuarrel_90 (by decide) ?_
                    refine tk_ViP (As := [.int p1, .int 2]) (rest := []) (n := 2) hx hb hml hown hU hN hZ (s_X12_ofRule_k12_c2_2 l (dC, dI) cI cL cZ cR cG cH Z kd L f hG o0 mo0 ko0 p1 (by constructor <;> omega)) wd_894 wd_895 wd_896 wd_5 wd_897 (by decide +kernel) ⟨Nat.le_of_ble_eq_true rfl, Nat.le_of_ble_eq_true rfl⟩ hK hP hD hS mo0 hfo_57 12 rfl rfl rfl hl.1 rfl (Nat.le_of_ble_eq_true rfl) dX12_canQuarrel_91 ⟨Nat.le_of_ble_eq_true rfl, Nat.le_of_ble_eq_true rfl⟩ (fun x_154 f_155 H locs hw hP hD hS => ?_)
                    obtain ⟨rfl, bx_154⟩ := hw
                    refine lv_iconst (v := 3) hx hb dX12_canQuarrel_94 (by decide) ?_
                    refine lv_icmp_ne (tgt := 102) hx hb dX12_canQuarrel_95 (by decide) (fun c_157 => ?_) (fun c_157 => ?_)
                    · skip
                      rw [← Int32.toInt_inj, ti_3] at c_157
                      refine lv_iconst (v := 0) hx hb dX12_canQuarrel_102 (by decide) ?_
                      exact W.zret (v := 0) (ty := .boolean) hx hb hr rfl (fun t ht hW => ⟨⟨0, f, rfl, ⟨rfl, (by decide)⟩, by rw [ht]; exact hP, va_K.moved hW.alike hK, pl_in hD⟩, hS.F ht⟩) hS.2.2 dX12_canQuarrel_103
                    · skip
                      rw [← Int32.toInt_inj, ti_3] at c_157
                      refine lv_iconst (v := 1) hx hb dX12_canQuarrel_98 (by decide) ?_
                      refine lv_goto (tgt := 103) hx hb dX12_canQuarrel_99 (by decide) ?_
                      exact W.zret (v := 1) (ty := .boolean) hx hb hr rfl (fun t ht hW => ⟨⟨1, f, rfl, ⟨rfl, (by decide)⟩, by rw [ht]; exact hP, va_K.moved hW.alike hK, pl_in hD⟩, hS.F ht⟩) hS.2.2 dX12_canQuarrel_103
    refine lv_icmp_ne (tgt := 36) hx hb dX12_canQuarrel_29 (by decide) (fun c_158 => ?_) (fun c_158 => ?_)
    · skip
      rw [← Int32.toInt_inj] at c_158
      refine lv_iconst (v := 0) hx hb dX12_canQuarrel_36 (by decide) ?_
      exact hcut_73 0 (by decide) ls (lv_sub hl [0, 1, 2] rfl)
    · skip
      rw [← Int32.toInt_inj] at c_158
      refine lv_iconst (v := 1) hx hb dX12_canQuarrel_32 (by decide) ?_
      refine lv_goto (tgt := 37) hx hb dX12_canQuarrel_33 (by decide) ?_
      exact hcut_73 1 (by decide) ls (lv_sub hl [0, 1, 2] rfl)
  · skip
    rw [← Int32.toInt_inj] at c_65
    refine lv_iconst (v := 0) hx hb dX12_canQuarrel_15 (by decide) ?_
    exact W.zret (v := 0) (ty := .boolean) hx hb hr rfl (fun t ht hW => ⟨⟨0, f, rfl, ⟨rfl, (by decide)⟩, by rw [ht]; exact hP, va_K.moved hW.alike hK, pl_in hD⟩, hS.F ht⟩) hS.2.2 dX12_canQuarrel_16
