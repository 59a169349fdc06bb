set_option maxHeartbeats 8000000 in
set_option maxRecDepth 100000 in
theorem s_X12_orders_k12 (l : Launch) (D : va_G) (cI cL cZ cR cG cH : ClassId) (Z : zT) (kd : Nat → Nat) (L : List Nat) (f : Nat → va_E) (hG : GI (okc cI cL cZ cR cG cH L kd) kd L f) (o0 : Nat) (mo0 : o0 ∈ L) (ko0 : kd o0 = 12) (p1 : Int32) (p2 : Int32) (hpreo0 : ∀ (w29 : Int32), fldI (f o0) 29 = some w29 → w29.toInt ≤ 200) (hxtr0 : srel kd 592 f o0) : mPI l D cI cL cZ cR cG cH Z yX12_orders cX12_orders 6 (some .int) 24 676 [.ref o0, .int p1, .int p2] L f (fun (r : Int32) (f9 : Nat → va_E) => GI (okc cI cL cZ cR cG cH L kd) kd L f9 ∧ ((-2147483648) ≤ r.toInt ∧ r.toInt ≤ 2147483647) ∧ (∀ b, kd b ≠ 12 → kd b ≠ 579 → kd b ≠ 581 → kd b ≠ 583 → kd b ≠ 585 → kd b ≠ 587 → kd b ≠ 588 → kd b ≠ 589 → kd b ≠ 590 → kd b ≠ 591 → kd b ≠ 592 → kd b ≠ 593 → kd b ≠ 597 → kd b ≠ 598 → kd b ≠ 599 → kd b ≠ 603 → kd b ≠ 604 → kd b ≠ 606 → kd b ≠ 607 → kd b ≠ 608 → kd b ≠ 609 → kd b ≠ 610 → f9 b = f b) ∧ (∀ b, kd b = 12 → ∀ j, fldR (f9 b) j = fldR (f b) j) ∧ (∀ b, kd b = 12 → ∀ j, j ≠ 23 → j ≠ 25 → j ≠ 27 → j ≠ 29 → j ≠ 32 → j ≠ 33 → j ≠ 43 → j ≠ 53 → j ≠ 54 → fldI (f9 b) j = fldI (f b) j) ∧ (∀ (w29 z29 : Int32), fldI (f o0) 29 = some w29 → fldI (f9 o0) 29 = some z29 → z29.toInt = w29.toInt) ∧ (srel kd 592 f9 o0)) := by
  obtain ⟨dC, dI⟩ := D
  refine Met.ofW (cc := cX12_orders) (maxL := 6) (ret := (some .int)) (by decide) rfl ?_
  intro p e s m args below meth c s₁ B hml hv
  obtain ⟨rfl, hP, hK, hD0, hN, hZ⟩ := hv
  have hx := B.exec
  have hb := B.bytes
  have hr := B.returns
  have hU : ∀ w ∈ wsU, w.before _ s = true := fun w h => atoms_spec (ws := wU yX12_orders cX12_orders 6 (some .int)) B.pre w (List.mem_cons_of_mem _ h)
  have hown : s.vm.findClass RX12 = some m.cls := findClass_of_methodNamed B.named
  have hlocks := B.notSynchronized
  have hD := pl_in hD0
  have hS : va_S (fun q => q ∈ L) s.heap s.heap [] := va_S.rf
  have hl := lv_entry ([.ref o0, .int p1, .int p2]) (n := 6) (Nat.le_of_ble_eq_true rfl)
  rw [lg_entry_eq]
  generalize (lg_sl ([.ref o0, .int p1, .int p2]) ++ List.replicate (6 - (lg_sl ([.ref o0, .int p1, .int p2])).length) Slot.unset).toArray = ls at hl ⊢
  have hl : lv_has ls 6 [(0, .ref o0), (1, .int p1), (2, .int p2)] := hl
  have bp1 : ((-2147483648) ≤ p1.toInt ∧ p1.toInt ≤ 2147483647) := ⟨i32_lo _, i32_hi _⟩
  have bp2 : ((-2147483648) ≤ p2.toInt ∧ p2.toInt ≤ 2147483647) := ⟨i32_lo _, i32_hi _⟩
  have hfr0 : ∀ b, kd b ≠ 12 → kd b ≠ 579 → kd b ≠ 581 → kd b ≠ 583 → kd b ≠ 585 → kd b ≠ 587 → kd b ≠ 588 → kd b ≠ 589 → kd b ≠ 590 → kd b ≠ 591 → kd b ≠ 592 → kd b ≠ 593 → kd b ≠ 597 → kd b ≠ 598 → kd b ≠ 599 → kd b ≠ 603 → kd b ≠ 604 → kd b ≠ 606 → kd b ≠ 607 → kd b ≠ 608 → kd b ≠ 609 → kd b ≠ 610 → f b = f b := fun _ _ _ _ _ _ _ _ _ _ _ _ _ _ _ _ _ _ _ _ _ _ _ => rfl
  have hrA12 : ∀ b, kd b = 12 → ∀ j, fldR (f b) j = fldR (f b) j := fun _ _ _ => rfl
  have hfA12 : ∀ b, kd b = 12 → ∀ j, j ≠ 23 → j ≠ 25 → j ≠ 27 → j ≠ 29 → j ≠ 32 → j ≠ 33 → j ≠ 43 → j ≠ 53 → j ≠ 54 → fldI (f b) j = fldI (f b) j := fun _ _ _ _ _ _ _ _ _ _ _ _ => rfl
  obtain ⟨a_1, a_2, a_3, v_4, a_5, v_6, v_7, v_8, v_9, v_10, v_11, v_12, v_13, v_14, v_15, a_16, a_17, a_18, a_19, a_20, a_21, a_22, a_23, v_24, v_25, v_26, v_27, v_28, a_29, v_30, a_31, a_32, v_33, v_34, a_35, v_36, a_37, a_38, v_39, v_40, a_41, a_42, a_43, v_44, a_45, a_46, a_47, a_48, a_49, a_50, a_51, a_52, a_53, v_54, v_55, a_56, hfo_57, fa_58⟩ := un12 (hG _ mo0) ko0
  obtain ⟨ma_1, ka_1⟩ := fa12_0 fa_58
  have bv_30 : (0 ≤ v_30.toInt ∧ v_30.toInt ≤ 201) := fa12_29 fa_58
  obtain ⟨ma_32, ka_32⟩ := fa12_31 fa_58
  obtain ⟨ma_41, ka_41⟩ := fa12_40 fa_58
  obtain ⟨ma_49, ka_49⟩ := fa12_48 fa_58
  obtain ⟨ma_50, ka_50⟩ := fa12_49 fa_58
  obtain ⟨ma_52, ka_52⟩ := fa12_51 fa_58
  obtain ⟨ma_56, ka_56⟩ := fa12_55 fa_58
  have hpo0 := hpreo0 v_30 (by rw [hfo_57]; rfl)
  have hT0 := hxtr0
  obtain ⟨g_60, hfo_59, hbg_60⟩ := un_575 (hG _ ma_1) ka_1
  refine lv_aload_n hx hb dX12_orders_0 rfl (lv_at hl 0 rfl) ?_
  refine lv_iconst (v := 0) hx hb dX12_orders_1 (by decide) ?_
  refine tk_putP (D := (dC, dI)) (ci := 12) (v := .int 0) (ty := .int) (C := RX12) (T := TX12) (N := 56) hx hb hU inlX12 tyX12 tyX12_ok nmX12 hown hK hP hD hS mo0 hfo_57 rfl 53 (by decide) (hU _ wd_1241) (fun _ h9 => h9) rfl (by decide +kernel) rfl rfl (Nat.le_of_ble_eq_true rfl) dX12_orders_2 (fun H locs hP hD hS => ?_)
  have fa_61 := fu12_53 (y := 0) fa_58 (by decide)
  obtain ⟨f_63, ef_63⟩ : ∃ y : Nat → va_E, y = va_up f o0 (.inr (12, [.ref a_1, .ref a_2, .ref a_3, .int v_4, .ref a_5, .int v_6, .int v_7, .int v_8, .int v_9, .int v_10, .int v_11, .int v_12, .int v_13, .int v_14, .int v_15, .ref a_16, .ref a_17, .ref a_18, .ref a_19, .ref a_20, .ref a_21, .ref a_22, .ref a_23, .int v_24, .int v_25, .int v_26, .int v_27, .int v_28, .ref a_29, .int v_30, .ref a_31, .ref a_32, .int v_33, .int v_34, .ref a_35, .int v_36, .ref a_37, .ref a_38, .int v_39, .int v_40, .ref a_41, .ref a_42, .ref a_43, .int v_44, .ref a_45, .ref a_46, .ref a_47, .ref a_48, .ref a_49, .ref a_50, .ref a_51, .ref a_52, .ref a_53, .int 0, .int v_55, .ref a_56])) := ⟨_, rfl⟩
  have hP : va_P (dC, dI) vwCl (va_pl L f_63) H := by rw [ef_63]; exact hP
  have hD : va_D (fun q => q ∈ L) (va_pl L f_63) := by rw [ef_63]; exact hD
  have hG : GI (okc cI cL cZ cR cG cH L kd) kd L f_63 := by rw [ef_63]; exact hG.set o0 (mk_12 ko0 (fo12 fa_61))
  have hfo_64 : f_63 a_1 = .inl (cI, 1560, .inl g_60) := by rw [ef_63, up_ne (kd_ne ko0 ka_1 (by decide))]; exact hfo_59
  have hfr0 : ∀ b, kd b ≠ 12 → kd b ≠ 579 → kd b ≠ 581 → kd b ≠ 583 → kd b ≠ 585 → kd b ≠ 587 → kd b ≠ 588 → kd b ≠ 589 → kd b ≠ 590 → kd b ≠ 591 → kd b ≠ 592 → kd b ≠ 593 → kd b ≠ 597 → kd b ≠ 598 → kd b ≠ 599 → kd b ≠ 603 → kd b ≠ 604 → kd b ≠ 606 → kd b ≠ 607 → kd b ≠ 608 → kd b ≠ 609 → kd b ≠ 610 → f_63 b = f b := fun b q12 q579 q581 q583 q585 q587 q588 q589 q590 q591 q592 q593 q597 q598 q599 q603 q604 q606 q607 q608 q609 q610 => (congrFun ef_63 b).trans ((up_ne (fun e9 => q12 (by rw [e9]; exact ko0))).trans (hfr0 b q12 q579 q581 q583 q585 q587 q588 q589 q590 q591 q592 q593 q597 q598 q599 q603 q604 q606 q607 q608 q609 q610))
  have hrA12 : ∀ b, kd b = 12 → ∀ j, fldR (f_63 b) j = fldR (f b) j := fun b kb j => ((congrArg (fun x => fldR x j) (congrFun ef_63 b)).trans (fra_up (fun j => by rw [hfo_57]; exact fr_set (k := 53) rfl rfl) j b)).trans (hrA12 b kb j)
  have hfA12 : ∀ b, kd b = 12 → ∀ j, j ≠ 23 → j ≠ 25 → j ≠ 27 → j ≠ 29 → j ≠ 32 → j ≠ 33 → j ≠ 43 → j ≠ 53 → j ≠ 54 → fldI (f_63 b) j = fldI (f b) j := fun b kb j n23 n25 n27 n29 n32 n33 n43 n53 n54 => ((congrArg (fun x => fldI x j) (congrFun ef_63 b)).trans (fia_up (fun h9 => by rw [hfo_57]; exact fi_set (k := 53) rfl h9) n53 b)).trans (hfA12 b kb j n23 n25 n27 n29 n32 n33 n43 n53 n54)
  have hT0 : srel kd 592 f_63 o0 := by rw [ef_63]; exact hT0.keep (fun b _ => fr_up (by rw [hfo_57]; rfl) b) (fun b _ => fk_up (by rw [hfo_57]; rfl) b) (fun b _ => fk_up (by rw [hfo_57]; rfl) b) (fun b q => up_ne (kd_ne ko0 q (by decide)))
  have hfo_65 : f_63 o0 = .inr (12, [.ref a_1, .ref a_2, .ref a_3, .int v_4, .ref a_5, .int v_6, .int v_7, .int v_8, .int v_9, .int v_10, .int v_11, .int v_12, .int v_13, .int v_14, .int v_15, .ref a_16, .ref a_17, .ref a_18, .ref a_19, .ref a_20, .ref a_21, .ref a_22, .ref a_23, .int v_24, .int v_25, .int v_26, .int v_27, .int v_28, .ref a_29, .int v_30, .ref a_31, .ref a_32, .int v_33, .int v_34, .ref a_35, .int v_36, .ref a_37, .ref a_38, .int v_39, .int v_40, .ref a_41, .ref a_42, .ref a_43, .int v_44, .ref a_45, .ref a_46, .ref a_47, .ref a_48, .ref a_49, .ref a_50, .ref a_51, .ref a_52, .ref a_53, .int 0, .int v_55, .ref a_56]) := by rw [ef_63]; exact up_self
  refine lv_iconst (v := 0) hx hb dX12_orders_5 (by decide) ?_
  refine lv_istore_n (lv' := [(3, .int 0), (0, .ref o0), (1, .int p1), (2, .int p2)]) hx hb dX12_orders_6 rfl hl (by decide) rfl (fun ls hl => ?_)
  have hloop_72 : ∀ (n : Nat), ∀ (y_73 : Int32), (0 ≤ y_73.toInt ∧ y_73.toInt ≤ 8) → ∀ (f_75 : Nat → va_E), GI (okc cI cL cZ cR cG cH L kd) kd L f_75 → ∀ (H : Heap) (locs : List Loc), va_P (dC, dI) vwCl (va_pl L f_75) H → va_S (fun q => q ∈ L) s.heap H locs → va_D (fun q => q ∈ L) (va_pl L f_75) → (∀ b, kd b ≠ 12 → kd b ≠ 579 → kd b ≠ 581 → kd b ≠ 583 → kd b ≠ 585 → kd b ≠ 587 → kd b ≠ 588 → kd b ≠ 589 → kd b ≠ 590 → kd b ≠ 591 → kd b ≠ 592 → kd b ≠ 593 → kd b ≠ 597 → kd b ≠ 598 → kd b ≠ 599 → kd b ≠ 603 → kd b ≠ 604 → kd b ≠ 606 → kd b ≠ 607 → kd b ≠ 608 → kd b ≠ 609 → kd b ≠ 610 → f_75 b = f b) → (∀ b, kd b = 12 → ∀ j, fldR (f_75 b) j = fldR (f b) j) → (∀ b, kd b = 12 → ∀ j, j ≠ 23 → j ≠ 25 → j ≠ 27 → j ≠ 29 → j ≠ 32 → j ≠ 33 → j ≠ 43 → j ≠ 53 → j ≠ 54 → fldI (f_75 b) j = fldI (f b) j) → (f_75 a_1 = .inl (cI, 1560, .inl g_60)) → srel kd 592 f_75 o0 → ∀ (whloop_72_0_53 : Int32), fldI (f_75 o0) 53 = some whloop_72_0_53 → ∀ (whloop_72_0_29 : Int32), fldI (f_75 o0) 29 = some whloop_72_0_29 → (whloop_72_0_53.toInt ≤ y_73.toInt) → (whloop_72_0_29.toInt = v_30.toInt) → (0 ≤ whloop_72_0_53.toInt ∧ whloop_72_0_53.toInt ≤ 8) → (0 ≤ whloop_72_0_29.toInt ∧ whloop_72_0_29.toInt ≤ 201) → 8 - y_73.toInt < (n : Int) → ∀ (ls : Array Slot), lv_has ls 6 [(3, .int y_73), (0, .ref o0), (1, .int p1), (2, .int p2)] → W p l e (headSpec (wU yX12_orders cX12_orders 6 (some .int)) { frames := 24, cells := 0, slots := 0, locals := 676 }).room s m [.ref o0, .int p1, .int p2].toArray below meth c H locs 0 0 (MQ below (va_Qi (fun (r : Int32) (f9 : Nat → va_E) => GI (okc cI cL cZ cR cG cH L kd) kd L f9 ∧ ((-2147483648) ≤ r.toInt ∧ r.toInt ≤ 2147483647) ∧ (∀ b, kd b ≠ 12 → kd b ≠ 579 → kd b ≠ 581 → kd b ≠ 583 → kd b ≠ 585 → kd b ≠ 587 → kd b ≠ 588 → kd b ≠ 589 → kd b ≠ 590 → kd b ≠ 591 → kd b ≠ 592 → kd b ≠ 593 → kd b ≠ 597 → kd b ≠ 598 → kd b ≠ 599 → kd b ≠ 603 → kd b ≠ 604 → kd b ≠ 606 → kd b ≠ 607 → kd b ≠ 608 → kd b ≠ 609 → kd b ≠ 610 → f9 b = f b) ∧ (∀ b, kd b = 12 → ∀ j, fldR (f9 b) j = fldR (f b) j) ∧ (∀ b, kd b = 12 → ∀ j, j ≠ 23 → j ≠ 25 → j ≠ 27 → j ≠ 29 → j ≠ 32 → j ≠ 33 → j ≠ 43 → j ≠ 53 → j ≠ 54 → fldI (f9 b) j = fldI (f b) j) ∧ (∀ (w29 z29 : Int32), fldI (f o0) 29 = some w29 → fldI (f9 o0) 29 = some z29 → z29.toInt = w29.toInt) ∧ (srel kd 592 f9 o0)) (qP (dC, dI) cI cL cZ cR cG cH L) (fun q => q ∈ L)) [.ref o0, .int p1, .int p2].toArray s 0 0 (fun q => q ∈ L)) (F0 m 7 ls []) := by
    intro n
    induction n with
    | zero => intro y_73 by_73 f_75 hG H locs hP hS hD hfr0 hrA12 hfA12 hfo_76 hT0 whloop_72_0_53 hghloop_72_0_53 whloop_72_0_29 hghloop_72_0_29 hrelhloop_72_0 hrelhloop_72_1 hrelhloop_72_2 hrelhloop_72_3 hmuhloop_72 ls hl; exfalso; omega
    | succ n ih_hloop_72 =>
      intro y_73 by_73 f_75 hG H locs hP hS hD hfr0 hrA12 hfA12 hfo_76 hT0 whloop_72_0_53 hghloop_72_0_53 whloop_72_0_29 hghloop_72_0_29 hrelhloop_72_0 hrelhloop_72_1 hrelhloop_72_2 hrelhloop_72_3 hmuhloop_72 ls hl
      obtain ⟨v_77, v_78, v_79, v_80, v_81, v_82, v_83, v_84, v_85, hfo_86, fa_87⟩ := op12_23_25_27_29_32_33_43_53_54 hfo_57 (hG _ mo0) ko0 (hrA12 o0 ko0) (hfA12 o0 ko0)
      have bv_77 : (0 ≤ v_77.toInt ∧ v_77.toInt ≤ 12) := fa12_23 fa_87
      have bv_78 : (0 ≤ v_78.toInt ∧ v_78.toInt ≤ 4) := fa12_25 fa_87
      have bv_79 : (0 ≤ v_79.toInt ∧ v_79.toInt ≤ 1) := fa12_27 fa_87
      have bv_80 : (0 ≤ v_80.toInt ∧ v_80.toInt ≤ 201) := fa12_29 fa_87
      have bv_81 : (0 ≤ v_81.toInt ∧ v_81.toInt ≤ 6561) := fa12_32 fa_87
      have bv_82 : ((-2147483648) ≤ v_82.toInt ∧ v_82.toInt ≤ 2147483647) := ⟨i32_lo _, i32_hi _⟩
      have bv_83 : (0 ≤ v_83.toInt ∧ v_83.toInt ≤ 8) := fa12_43 fa_87
      have bv_84 : (0 ≤ v_84.toInt ∧ v_84.toInt ≤ 8) := fa12_53 fa_87
      have bv_85 : ((-2147483648) ≤ v_85.toInt ∧ v_85.toInt ≤ 2147483647) := ⟨i32_lo _, i32_hi _⟩
      obtain rfl : v_84 = whloop_72_0_53 := by rw [hfo_86] at hghloop_72_0_53; exact Option.some.inj hghloop_72_0_53
      obtain rfl : v_80 = whloop_72_0_29 := by rw [hfo_86] at hghloop_72_0_29; exact Option.some.inj hghloop_72_0_29
      refine lv_iload_n hx hb dX12_orders_7 rfl (lv_at hl 0 rfl) ?_
      refine lv_aload_n hx hb dX12_orders_8 rfl (lv_at hl 1 rfl) ?_
      refine tk_getP (D := (dC, dI)) (ci := 12) (v := .ref a_1) (C := RX12) (T := TX12) (N := 56) hx hb hU inlX12 hown hK hP mo0 hfo_86 rfl 0 (by decide) (hU _ wd_169) (fun _ h9 => h9) rfl dX12_orders_9 ?_
      refine lv_bipush (v := 17) hx hb dX12_orders_12 (by decide) ?_
      refine tk_ildP hx hb hK hP 0 ma_1 hfo_76 rfl (vp_in_nI (n := 17) (by decide) (by decide)) dX12_orders_14 ?_
      refine lv_topi (fun x_88 ex_88 => ?_)
      have bx_88 : (0 ≤ x_88.toInt ∧ x_88.toInt ≤ 8) := by rw [ex_88]; exact hbg_60.2.2.1 _ (by decide) (by decide) (by decide)
      refine lv_icmp_ge (tgt := 61) hx hb dX12_orders_15 (by decide) (fun c_89 => ?_) (fun c_89 => ?_)
      · skip
        rw [Int32.le_iff_toInt_le] at c_89
        refine lv_iload_n hx hb dX12_orders_61 rfl (lv_at hl 2 rfl) ?_
        refine lv_iconst (v := 1) hx hb dX12_orders_62 (by decide) ?_
        refine lv_iconst (v := 2) hx hb dX12_orders_63 (by decide) ?_
        refine tk_SiP (As := [.int p1, .int 1, .int 2]) (rest := []) (n := 3) hx hb hml hown hU hN hZ (s_X12_isIn l (dC, dI) cI cL cZ cR cG cH Z kd L f_75 hG p1 1 2) wd_227 wd_228 wd_5 wd_229 (by decide +kernel) ⟨Nat.le_of_ble_eq_true rfl, Nat.le_of_ble_eq_true rfl⟩ hK hP hD hS rfl hl.1 rfl (Nat.le_of_ble_eq_true rfl) dX12_orders_64 ⟨Nat.le_of_ble_eq_true rfl, Nat.le_of_ble_eq_true rfl⟩ (fun x_90 f_91 H locs hw hP hD hS => ?_)
        obtain ⟨rfl, bx_90, relx_90⟩ := hw
        try rw [ti_1] at relx_90
        try rw [ti_2] at relx_90
        refine lv_if_eq (tgt := 104) hx hb dX12_orders_67 (by decide) (fun c_93 => ?_) (fun c_93 => ?_)
        · skip
          rw [← Int32.toInt_inj, ti_0] at c_93
          refine lv_iconst (v := (-1)) hx hb dX12_orders_104 (by decide) ?_
          exact W.iret (v := (-1)) hx hb hr (fun t ht hW => ⟨⟨(-1), f_75, rfl, ⟨hG, (by decide), hfr0, hrA12, hfA12, (by intro w29 z29 e29 d29; rw [hfo_57] at e29; rw [hfo_86] at d29; obtain rfl := Option.some.inj e29; obtain rfl := Option.some.inj d29; (try rw [ti_m1]) <;> omega), hT0⟩, by rw [ht]; exact hP, va_K.moved hW.alike hK, pl_in hD⟩, hS.F ht⟩) hS.2.2 dX12_orders_105
        · skip
          rw [← Int32.toInt_inj, ti_0] at c_93
          refine lv_aload_n hx hb dX12_orders_70 rfl (lv_at hl 1 rfl) ?_
          refine tk_getP (D := (dC, dI)) (ci := 12) (v := .int v_84) (C := RX12) (T := TX12) (N := 56) hx hb hU inlX12 hown hK hP mo0 hfo_86 rfl 53 (by decide) (hU _ wd_1241) (fun _ h9 => h9) rfl dX12_orders_71 ?_
          refine lv_bipush (v := 6) hx hb dX12_orders_74 (by decide) ?_
          refine lv_icmp_gt (tgt := 104) hx hb dX12_orders_76 (by decide) (fun c_94 => ?_) (fun c_94 => ?_)
          · skip
            rw [Int32.lt_iff_toInt_lt, ti_6] at c_94
            refine lv_iconst (v := (-1)) hx hb dX12_orders_104 (by decide) ?_
            exact W.iret (v := (-1)) hx hb hr (fun t ht hW => ⟨⟨(-1), f_75, rfl, ⟨hG, (by decide), hfr0, hrA12, hfA12, (by intro w29 z29 e29 d29; rw [hfo_57] at e29; rw [hfo_86] at d29; obtain rfl := Option.some.inj e29; obtain rfl := Option.some.inj d29; (try rw [ti_m1]) <;> omega), hT0⟩, by rw [ht]; exact hP, va_K.moved hW.alike hK, pl_in hD⟩, hS.F ht⟩) hS.2.2 dX12_orders_105
          · skip
            rw [Int32.lt_iff_toInt_lt, ti_6] at c_94
            refine lv_iload_n hx hb dX12_orders_79 rfl (lv_at hl 3 rfl) ?_
            refine lv_iconst (v := 0) hx hb dX12_orders_80 (by decide) ?_
            refine lv_iconst (v := 1) hx hb dX12_orders_81 (by decide) ?_
            refine tk_SiP (As := [.int p2, .int 0, .int 1]) (rest := []) (n := 3) hx hb hml hown hU hN hZ (s_X12_isIn l (dC, dI) cI cL cZ cR cG cH Z kd L f_75 hG p2 0 1) wd_227 wd_228 wd_5 wd_229 (by decide +kernel) ⟨Nat.le_of_ble_eq_true rfl, Nat.le_of_ble_eq_true rfl⟩ hK hP hD hS rfl hl.1 rfl (Nat.le_of_ble_eq_true rfl) dX12_orders_82 ⟨Nat.le_of_ble_eq_true rfl, Nat.le_of_ble_eq_true rfl⟩ (fun x_95 f_96 H locs hw hP hD hS => ?_)
            obtain ⟨rfl, bx_95, relx_95⟩ := hw
            try rw [ti_0] at relx_95
            try rw [ti_1] at relx_95
            refine lv_if_ne (tgt := 106) hx hb dX12_orders_85 (by decide) (fun c_98 => ?_) (fun c_98 => ?_)
            · skip
              rw [← Int32.toInt_inj, ti_0] at c_98
              refine lv_aload_n hx hb dX12_orders_106 rfl (lv_at hl 1 rfl) ?_
              refine lv_iload_n hx hb dX12_orders_107 rfl (lv_at hl 2 rfl) ?_
              refine tk_ViP (As := [.int p1]) (rest := []) (n := 1) hx hb hml hown hU hN hZ (s_X12_wordsUpTo_k12 l (dC, dI) cI cL cZ cR cG cH Z kd L f_75 hG o0 mo0 ko0 p1 (by constructor <;> omega)) wd_1169 wd_1170 wd_1171 wd_5 wd_1172 (by decide +kernel) ⟨Nat.le_of_ble_eq_true rfl, Nat.le_of_ble_eq_true rfl⟩ hK hP hD hS mo0 hfo_86 12 rfl rfl rfl hl.1 rfl (Nat.le_of_ble_eq_true rfl) dX12_orders_108 ⟨Nat.le_of_ble_eq_true rfl, Nat.le_of_ble_eq_true rfl⟩ (fun x_99 f_100 H locs hw hP hD hS => ?_)
              obtain ⟨rfl, bx_99, hxp_101⟩ := hw
              have hwu := hxp_101 a_1 g_60 (by rw [hfo_86]; rfl) hfo_76
              have hsq := lw_sq (L := (g_60 0).toInt) (hbg_60.1 0 (by decide) (by decide) (by decide))
              refine lv_istore_n (lv' := [(3, .int x_99), (0, .ref o0), (1, .int p1), (2, .int p2)]) hx hb dX12_orders_111 rfl hl (by decide) rfl (fun ls hl => ?_)
              have hL8 := hbg_60.1 0 (by decide) (by decide) (by decide)
              have hclx_99 : (0 ≤ x_99.toInt ∧ x_99.toInt ≤ 72) := by constructor <;> omega
              refine lv_iload_n hx hb dX12_orders_112 rfl (lv_at hl 3 rfl) ?_
              refine lv_iconst (v := 1) hx hb dX12_orders_113 (by decide) ?_
              refine lv_icmp_ne (tgt := 119) hx hb dX12_orders_114 (by decide) (fun c_103 => ?_) (fun c_103 => ?_)
              · skip
                rw [← Int32.toInt_inj, ti_1] at c_103
                refine lv_iconst (v := 0) hx hb dX12_orders_119 (by decide) ?_
                refine lv_istore (lv' := [(4, .int 0), (3, .int x_99), (0, .ref o0), (1, .int p1), (2, .int p2)]) hx hb dX12_orders_120 hl (by decide) rfl (fun ls hl => ?_)
                have hloop_120 : ∀ (n : Nat), ∀ (y_121 : Int32), (0 ≤ y_121.toInt ∧ y_121.toInt ≤ 72) → ∀ (f_123 : Nat → va_E), GI (okc cI cL cZ cR cG cH L kd) kd L f_123 → ∀ (H : Heap) (locs : List Loc), va_P (dC, dI) vwCl (va_pl L f_123) H → va_S (fun q => q ∈ L) s.heap H locs → va_D (fun q => q ∈ L) (va_pl L f_123) → (∀ b, kd b ≠ 12 → kd b ≠ 579 → kd b ≠ 581 → kd b ≠ 583 → kd b ≠ 585 → kd b ≠ 587 → kd b ≠ 588 → kd b ≠ 589 → kd b ≠ 590 → kd b ≠ 591 → kd b ≠ 592 → kd b ≠ 593 → kd b ≠ 597 → kd b ≠ 598 → kd b ≠ 599 → kd b ≠ 603 → kd b ≠ 604 → kd b ≠ 606 → kd b ≠ 607 → kd b ≠ 608 → kd b ≠ 609 → kd b ≠ 610 → f_123 b = f b) → (∀ b, kd b = 12 → ∀ j, fldR (f_123 b) j = fldR (f b) j) → (∀ b, kd b = 12 → ∀ j, j ≠ 23 → j ≠ 25 → j ≠ 27 → j ≠ 29 → j ≠ 32 → j ≠ 33 → j ≠ 43 → j ≠ 53 → j ≠ 54 → fldI (f_123 b) j = fldI (f b) j) → (f_123 a_1 = .inl (cI, 1560, .inl g_60)) → srel kd 592 f_123 o0 → ∀ (whloop_120_0_29 : Int32), fldI (f_123 o0) 29 = some whloop_120_0_29 → (whloop_120_0_29.toInt = v_30.toInt) → (0 ≤ whloop_120_0_29.toInt ∧ whloop_120_0_29.toInt ≤ 201) → 72 - y_121.toInt < (n : Int) → ∀ (ls : Array Slot), lv_has ls 6 [(4, .int y_121), (3, .int x_99), (0, .ref o0), (1, .int p1), (2, .int p2)] → W p l e (headSpec (wU yX12_orders cX12_orders 6 (some .int)) { frames := 24, cells := 0, slots := 0, locals := 676 }).room s m [.ref o0, .int p1, .int p2].toArray below meth c H locs 0 0 (MQ below (va_Qi (fun (r : Int32) (f9 : Nat → va_E) => GI (okc cI cL cZ cR cG cH L kd) kd L f9 ∧ ((-2147483648) ≤ r.toInt ∧ r.toInt ≤ 2147483647) ∧ (∀ b, kd b ≠ 12 → kd b ≠ 579 → kd b ≠ 581 → kd b ≠ 583 → kd b ≠ 585 → kd b ≠ 587 → kd b ≠ 588 → kd b ≠ 589 → kd b ≠ 590 → kd b ≠ 591 → kd b ≠ 592 → kd b ≠ 593 → kd b ≠ 597 → kd b ≠ 598 → kd b ≠ 599 → kd b ≠ 603 → kd b ≠ 604 → kd b ≠ 606 → kd b ≠ 607 → kd b ≠ 608 → kd b ≠ 609 → kd b ≠ 610 → f9 b = f b) ∧ (∀ b, kd b = 12 → ∀ j, fldR (f9 b) j = fldR (f b) j) ∧ (∀ b, kd b = 12 → ∀ j, j ≠ 23 → j ≠ 25 → j ≠ 27 → j ≠ 29 → j ≠ 32 → j ≠ 33 → j ≠ 43 → j ≠ 53 → j ≠ 54 → fldI (f9 b) j = fldI (f b) j) ∧ (∀ (w29 z29 : Int32), fldI (f o0) 29 = some w29 → fldI (f9 o0) 29 = some z29 → z29.toInt = w29.toInt) ∧ (srel kd 592 f9 o0)) (qP (dC, dI) cI cL cZ cR cG cH L) (fun q => q ∈ L)) [.ref o0, .int p1, .int p2].toArray s 0 0 (fun q => q ∈ L)) (F0 m 122 ls []) := by
                  intro n
                  induction n with
                  | zero => intro y_121 by_121 f_123 hG H locs hP hS hD hfr0 hrA12 hfA12 hfo_124 hT0 whloop_120_0_29 hghloop_120_0_29 hrelhloop_120_0 hrelhloop_120_1 hmuhloop_120 ls hl; exfalso; omega
                  | succ n ih_hloop_120 =>
                    intro y_121 by_121 f_123 hG H locs hP hS hD hfr0 hrA12 hfA12 hfo_124 hT0 whloop_120_0_29 hghloop_120_0_29 hrelhloop_120_0 hrelhloop_120_1 hmuhloop_120 ls hl
                    obtain ⟨v_125, v_126, v_127, v_128, v_129, v_130, v_131, v_132, v_133, hfo_134, fa_135⟩ := op12_23_25_27_29_32_33_43_53_54 hfo_57 (hG _ mo0) ko0 (hrA12 o0 ko0) (hfA12 o0 ko0)
                    have bv_125 : (0 ≤ v_125.toInt ∧ v_125.toInt ≤ 12) := fa12_23 fa_135
                    have bv_126 : (0 ≤ v_126.toInt ∧ v_126.toInt ≤ 4) := fa12_25 fa_135
                    have bv_127 : (0 ≤ v_127.toInt ∧ v_127.toInt ≤ 1) := fa12_27 fa_135
                    have bv_128 : (0 ≤ v_128.toInt ∧ v_128.toInt ≤ 201) := fa12_29 fa_135
                    have bv_129 : (0 ≤ v_129.toInt ∧ v_129.toInt ≤ 6561) := fa12_32 fa_135
                    have bv_130 : ((-2147483648) ≤ v_130.toInt ∧ v_130.toInt ≤ 2147483647) := ⟨i32_lo _, i32_hi _⟩
                    have bv_131 : (0 ≤ v_131.toInt ∧ v_131.toInt ≤ 8) := fa12_43 fa_135
                    have bv_132 : (0 ≤ v_132.toInt ∧ v_132.toInt ≤ 8) := fa12_53 fa_135
                    have bv_133 : ((-2147483648) ≤ v_133.toInt ∧ v_133.toInt ≤ 2147483647) := ⟨i32_lo _, i32_hi _⟩
                    obtain rfl : v_128 = whloop_120_0_29 := by rw [hfo_134] at hghloop_120_0_29; exact Option.some.inj hghloop_120_0_29
                    refine lv_iload hx hb dX12_orders_122 (lv_at hl 0 rfl) ?_
                    refine lv_iload_n hx hb dX12_orders_124 rfl (lv_at hl 1 rfl) ?_
                    refine lv_icmp_ge (tgt := 224) hx hb dX12_orders_125 (by decide) (fun c_136 => ?_) (fun c_136 => ?_)
                    · skip
                      rw [Int32.le_iff_toInt_le] at c_136
                      refine lv_aload_n hx hb dX12_orders_224 rfl (lv_at hl 2 rfl) ?_
                      refine tk_getP (D := (dC, dI)) (ci := 12) (v := .int v_131) (C := RX12) (T := TX12) (N := 56) hx hb hU inlX12 hown hK hP mo0 hfo_134 rfl 43 (by decide) (hU _ wd_572) (fun _ h9 => h9) rfl dX12_orders_225 ?_
                      refine lv_istore (lv' := [(4, .int v_131), (3, .int x_99), (0, .ref o0), (1, .int p1), (2, .int p2)]) hx hb dX12_orders_228 hl (by decide) rfl (fun ls hl => ?_)
                      refine lv_iconst (v := 0) hx hb dX12_orders_230 (by decide) ?_
                      refine lv_istore (lv' := [(5, .int 0), (4, .int v_131), (3, .int x_99), (0, .ref o0), (1, .int p1), (2, .int p2)]) hx hb dX12_orders_231 hl (by decide) rfl (fun ls hl => ?_)
                      have hloop_155 : ∀ (n : Nat), ∀ (y_156 : Int32), (0 ≤ y_156.toInt ∧ y_156.toInt ≤ 16) → ∀ (f_158 : Nat → va_E), GI (okc cI cL cZ cR cG cH L kd) kd L f_158 → ∀ (H : Heap) (locs : List Loc), va_P (dC, dI) vwCl (va_pl L f_158) H → va_S (fun q => q ∈ L) s.heap H locs → va_D (fun q => q ∈ L) (va_pl L f_158) → (∀ b, kd b ≠ 12 → kd b ≠ 579 → kd b ≠ 581 → kd b ≠ 583 → kd b ≠ 585 → kd b ≠ 587 → kd b ≠ 588 → kd b ≠ 589 → kd b ≠ 590 → kd b ≠ 591 → kd b ≠ 592 → kd b ≠ 593 → kd b ≠ 597 → kd b ≠ 598 → kd b ≠ 599 → kd b ≠ 603 → kd b ≠ 604 → kd b ≠ 606 → kd b ≠ 607 → kd b ≠ 608 → kd b ≠ 609 → kd b ≠ 610 → f_158 b = f b) → (∀ b, kd b = 12 → ∀ j, fldR (f_158 b) j = fldR (f b) j) → (∀ b, kd b = 12 → ∀ j, j ≠ 23 → j ≠ 25 → j ≠ 27 → j ≠ 29 → j ≠ 32 → j ≠ 33 → j ≠ 43 → j ≠ 53 → j ≠ 54 → fldI (f_158 b) j = fldI (f b) j) → (f_158 a_1 = .inl (cI, 1560, .inl g_60)) → (f_158 o0 = .inr (12, [.ref a_1, .ref a_2, .ref a_3, .int v_4, .ref a_5, .int v_6, .int v_7, .int v_8, .int v_9, .int v_10, .int v_11, .int v_12, .int v_13, .int v_14, .int v_15, .ref a_16, .ref a_17, .ref a_18, .ref a_19, .ref a_20, .ref a_21, .ref a_22, .ref a_23, .int v_125, .int v_25, .int v_126, .int v_27, .int v_127, .ref a_29, .int v_128, .ref a_31, .ref a_32, .int v_129, .int v_130, .ref a_35, .int v_36, .ref a_37, .ref a_38, .int v_39, .int v_40, .ref a_41, .ref a_42, .ref a_43, .int v_131, .ref a_45, .ref a_46, .ref a_47, .ref a_48, .ref a_49, .ref a_50, .ref a_51, .ref a_52, .ref a_53, .int v_132, .int v_133, .ref a_56])) → srel kd 592 f_158 o0 → 16 - y_156.toInt < (n : Int) → ∀ (ls : Array Slot), lv_has ls 6 [(5, .int y_156), (4, .int v_131), (3, .int x_99), (0, .ref o0), (1, .int p1), (2, .int p2)] → W p l e (headSpec (wU yX12_orders cX12_orders 6 (some .int)) { frames := 24, cells := 0, slots := 0, locals := 676 }).room s m [.ref o0, .int p1, .int p2].toArray below meth c H locs 0 0 (MQ below (va_Qi (fun (r : Int32) (f9 : Nat → va_E) => GI (okc cI cL cZ cR cG cH L kd) kd L f9 ∧ ((-2147483648) ≤ r.toInt ∧ r.toInt ≤ 2147483647) ∧ (∀ b, kd b ≠ 12 → kd b ≠ 579 → kd b ≠ 581 → kd b ≠ 583 → kd b ≠ 585 → kd b ≠ 587 → kd b ≠ 588 → kd b ≠ 589 → kd b ≠ 590 → kd b ≠ 591 → kd b ≠ 592 → kd b ≠ 593 → kd b ≠ 597 → kd b ≠ 598 → kd b ≠ 599 → kd b ≠ 603 → kd b ≠ 604 → kd b ≠ 606 → kd b ≠ 607 → kd b ≠ 608 → kd b ≠ 609 → kd b ≠ 610 → f9 b = f b) ∧ (∀ b, kd b = 12 → ∀ j, fldR (f9 b) j = fldR (f b) j) ∧ (∀ b, kd b = 12 → ∀ j, j ≠ 23 → j ≠ 25 → j ≠ 27 → j ≠ 29 → j ≠ 32 → j ≠ 33 → j ≠ 43 → j ≠ 53 → j ≠ 54 → fldI (f9 b) j = fldI (f b) j) ∧ (∀ (w29 z29 : Int32), fldI (f o0) 29 = some w29 → fldI (f9 o0) 29 = some z29 → z29.toInt = w29.toInt) ∧ (srel kd 592 f9 o0)) (qP (dC, dI) cI cL cZ cR cG cH L) (fun q => q ∈ L)) [.ref o0, .int p1, .int p2].toArray s 0 0 (fun q => q ∈ L)) (F0 m 233 ls []) := by
                        intro n
                        induction n with
                        | zero => intro y_156 by_156 f_158 hG H locs hP hS hD hfr0 hrA12 hfA12 hfo_159 hfo_160 hT0 hmuhloop_155 ls hl; exfalso; omega
                        | succ n ih_hloop_155 =>
                          intro y_156 by_156 f_158 hG H locs hP hS hD hfr0 hrA12 hfA12 hfo_159 hfo_160 hT0 hmuhloop_155 ls hl
                          refine lv_iload hx hb dX12_orders_233 (lv_at hl 0 rfl) ?_
                          refine lv_bipush (v := 16) hx hb dX12_orders_235 (by decide) ?_
                          refine lv_icmp_ge (tgt := 260) hx hb dX12_orders_237 (by decide) (fun c_161 => ?_) (fun c_161 => ?_)
                          · skip
                            rw [Int32.le_iff_toInt_le, ti_16] at c_161
                            refine lv_aload_n hx hb dX12_orders_260 rfl (lv_at hl 3 rfl) ?_
                            refine lv_iconst (v := (-1)) hx hb dX12_orders_261 (by decide) ?_
                            refine tk_putP (D := (dC, dI)) (ci := 12) (v := .int (-1)) (ty := .int) (C := RX12) (T := TX12) (N := 56) hx hb hU inlX12 tyX12 tyX12_ok nmX12 hown hK hP hD hS mo0 hfo_160 rfl 54 (by decide) (hU _ wd_1242) (fun _ h9 => h9) rfl (by decide +kernel) rfl rfl (Nat.le_of_ble_eq_true rfl) dX12_orders_262 (fun H locs hP hD hS => ?_)
                            have fa_162 := fu12_54 (y := (-1)) fa_135
                            obtain ⟨f_164, ef_164⟩ : ∃ y : Nat → va_E, y = va_up f_158 o0 (.inr (12, [.ref a_1, .ref a_2, .ref a_3, .int v_4, .ref a_5, .int v_6, .int v_7, .int v_8, .int v_9, .int v_10, .int v_11, .int v_12, .int v_13, .int v_14, .int v_15, .ref a_16, .ref a_17, .ref a_18, .ref a_19, .ref a_20, .ref a_21, .ref a_22, .ref a_23, .int v_125, .int v_25, .int v_126, .int v_27, .int v_127, .ref a_29, .int v_128, .ref a_31, .ref a_32, .int v_129, .int v_130, .ref a_35, .int v_36, .ref a_37, .ref a_38, .int v_39, .int v_40, .ref a_41, .ref a_42, .ref a_43, .int v_131, .ref a_45, .ref a_46, .ref a_47, .ref a_48, .ref a_49, .ref a_50, .ref a_51, .ref a_52, .ref a_53, .int v_132, .int (-1), .ref a_56])) := ⟨_, rfl⟩
                            have hP : va_P (dC, dI) vwCl (va_pl L f_164) H := by rw [ef_164]; exact hP
                            have hD : va_D (fun q => q ∈ L) (va_pl L f_164) := by rw [ef_164]; exact hD
                            have hG : GI (okc cI cL cZ cR cG cH L kd) kd L f_164 := by rw [ef_164]; exact hG.set o0 (mk_12 ko0 (fo12 fa_162))
                            have hfo_165 : f_164 a_1 = .inl (cI, 1560, .inl g_60) := by rw [ef_164, up_ne (kd_ne ko0 ka_1 (by decide))]; exact hfo_159
                            have hfr0 : ∀ b, kd b ≠ 12 → kd b ≠ 579 → kd b ≠ 581 → kd b ≠ 583 → kd b ≠ 585 → kd b ≠ 587 → kd b ≠ 588 → kd b ≠ 589 → kd b ≠ 590 → kd b ≠ 591 → kd b ≠ 592 → kd b ≠ 593 → kd b ≠ 597 → kd b ≠ 598 → kd b ≠ 599 → kd b ≠ 603 → kd b ≠ 604 → kd b ≠ 606 → kd b ≠ 607 → kd b ≠ 608 → kd b ≠ 609 → kd b ≠ 610 → f_164 b = f b := fun b q12 q579 q581 q583 q585 q587 q588 q589 q590 q591 q592 q593 q597 q598 q599 q603 q604 q606 q607 q608 q609 q610 => (congrFun ef_164 b).trans ((up_ne (fun e9 => q12 (by rw [e9]; exact ko0))).trans (hfr0 b q12 q579 q581 q583 q585 q587 q588 q589 q590 q591 q592 q593 q597 q598 q599 q603 q604 q606 q607 q608 q609 q610))
                            have hrA12 : ∀ b, kd b = 12 → ∀ j, fldR (f_164 b) j = fldR (f b) j := fun b kb j => ((congrArg (fun x => fldR x j) (congrFun ef_164 b)).trans (fra_up (fun j => by rw [hfo_160]; exact fr_set (k := 54) rfl rfl) j b)).trans (hrA12 b kb j)
                            have hfA12 : ∀ b, kd b = 12 → ∀ j, j ≠ 23 → j ≠ 25 → j ≠ 27 → j ≠ 29 → j ≠ 32 → j ≠ 33 → j ≠ 43 → j ≠ 53 → j ≠ 54 → fldI (f_164 b) j = fldI (f b) j := fun b kb j n23 n25 n27 n29 n32 n33 n43 n53 n54 => ((congrArg (fun x => fldI x j) (congrFun ef_164 b)).trans (fia_up (fun h9 => by rw [hfo_160]; exact fi_set (k := 54) rfl h9) n54 b)).trans (hfA12 b kb j n23 n25 n27 n29 n32 n33 n43 n53 n54)
                            have hT0 : srel kd 592 f_164 o0 := by rw [ef_164]; exact hT0.keep (fun b _ => fr_up (by rw [hfo_160]; rfl) b) (fun b _ => fk_up (by rw [hfo_160]; rfl) b) (fun b _ => fk_up (by rw [hfo_160]; rfl) b) (fun b q => up_ne (kd_ne ko0 q (by decide)))
                            have hfo_166 : f_164 o0 = .inr (12, [.ref a_1, .ref a_2, .ref a_3, .int v_4, .ref a_5, .int v_6, .int v_7, .int v_8, .int v_9, .int v_10, .int v_11, .int v_12, .int v_13, .int v_14, .int v_15, .ref a_16, .ref a_17, .ref a_18, .ref a_19, .ref a_20, .ref a_21, .ref a_22, .ref a_23, .int v_125, .int v_25, .int v_126, .int v_27, .int v_127, .ref a_29, .int v_128, .ref a_31, .ref a_32, .int v_129, .int v_130, .ref a_35, .int v_36, .ref a_37, .ref a_38, .int v_39, .int v_40, .ref a_41, .ref a_42, .ref a_43, .int v_131, .ref a_45, .ref a_46, .ref a_47, .ref a_48, .ref a_49, .ref a_50, .ref a_51, .ref a_52, .ref a_53, .int v_132, .int (-1), .ref a_56]) := by rw [ef_164]; exact up_self
                            refine lv_aload_n hx hb dX12_orders_265 rfl (lv_at hl 3 rfl) ?_
                            refine lv_iconst (v := 0) hx hb dX12_orders_266 (by decide) ?_
                            refine lv_iload_n hx hb dX12_orders_267 rfl (lv_at hl 2 rfl) ?_
                            refine tk_VvP (As := [.int 0, .int x_99]) (rest := []) (n := 2) hx hb hml hown hU hN hZ (s_X12_triesOrders_k12 l (dC, dI) cI cL cZ cR cG cH Z kd L 9 f_164 hG o0 mo0 ko0 0 (by decide) x_99 (by constructor <;> omega) (by intro w53 e53; rw [hfo_166] at e53; obtain rfl := Option.some.inj e53; (try rw [ti_0]) <;> omega) (fun b9 g9 h1 h2 => by rw [hfo_166] at h1; obtain rfl := Option.some.inj h1; rw [hfo_165] at h2; cases h2; omega) (by (try rw [ti_0]) <;> omega)) wd_1247 wd_1248 wd_1249 wd_5 wd_1250 (by decide +kernel) ⟨Nat.le_of_ble_eq_true rfl, Nat.le_of_ble_eq_true rfl⟩ hK hP hD hS mo0 hfo_166 12 rfl rfl rfl hl.1 rfl (Nat.le_of_ble_eq_true rfl) dX12_orders_268 ⟨Nat.le_of_ble_eq_true rfl, Nat.le_of_ble_eq_true rfl⟩ (fun f_168 H locs hw hP hD hS => ?_)
                            obtain ⟨hG, hkc_169, hra_170, hfa_171⟩ := hw
                            have hfo_173 : f_168 a_1 = .inl (cI, 1560, .inl g_60) := by rw [hkc_169 a_1 (by rw [ka_1]; decide) (by rw [ka_1]; decide) (by rw [ka_1]; decide) (by rw [ka_1]; decide) (by rw [ka_1]; decide) (by rw [ka_1]; decide) (by rw [ka_1]; decide) (by rw [ka_1]; decide)]; exact hfo_165
                            have hfr0 : ∀ b, kd b ≠ 12 → kd b ≠ 579 → kd b ≠ 581 → kd b ≠ 583 → kd b ≠ 585 → kd b ≠ 587 → kd b ≠ 588 → kd b ≠ 589 → kd b ≠ 590 → kd b ≠ 591 → kd b ≠ 592 → kd b ≠ 593 → kd b ≠ 597 → kd b ≠ 598 → kd b ≠ 599 → kd b ≠ 603 → kd b ≠ 604 → kd b ≠ 606 → kd b ≠ 607 → kd b ≠ 608 → kd b ≠ 609 → kd b ≠ 610 → f_168 b = f b := fun b q12 q579 q581 q583 q585 q587 q588 q589 q590 q591 q592 q593 q597 q598 q599 q603 q604 q606 q607 q608 q609 q610 => (hkc_169 b q12 q589 q597 q598 q599 q607 q608 q609).trans (hfr0 b q12 q579 q581 q583 q585 q587 q588 q589 q590 q591 q592 q593 q597 q598 q599 q603 q604 q606 q607 q608 q609 q610)
                            have hrA12 : ∀ b, kd b = 12 → ∀ j, fldR (f_168 b) j = fldR (f b) j := fun b kb j => (hra_170 b kb j).trans (hrA12 b kb j)
                            have hfA12 : ∀ b, kd b = 12 → ∀ j, j ≠ 23 → j ≠ 25 → j ≠ 27 → j ≠ 29 → j ≠ 32 → j ≠ 33 → j ≠ 43 → j ≠ 53 → j ≠ 54 → fldI (f_168 b) j = fldI (f b) j := fun b kb j n23 n25 n27 n29 n32 n33 n43 n53 n54 => (hfa_171 b kb j n23 n43 n54).trans (hfA12 b kb j n23 n25 n27 n29 n32 n33 n43 n53 n54)
                            have hT0 : srel kd 592 f_168 o0 := hT0.keep (fun b q => hra_170 b q 30) (fun b q => hfa_171 b q 32 (by decide) (by decide) (by decide)) (fun b q => hfa_171 b q 33 (by decide) (by decide) (by decide)) (fun b q => hkc_169 b (by rw [q]; decide) (by rw [q]; decide) (by rw [q]; decide) (by rw [q]; decide) (by rw [q]; decide) (by rw [q]; decide) (by rw [q]; decide) (by rw [q]; decide))
                            obtain ⟨v_174, v_175, v_176, hfo_177, fa_178⟩ := op12_23_43_54 hfo_166 (hG _ mo0) ko0 (hra_170 o0 ko0) (hfa_171 o0 ko0)
                            have bv_174 : (0 ≤ v_174.toInt ∧ v_174.toInt ≤ 12) := fa12_23 fa_178
                            have bv_175 : (0 ≤ v_175.toInt ∧ v_175.toInt ≤ 8) := fa12_43 fa_178
                            have bv_176 : ((-2147483648) ≤ v_176.toInt ∧ v_176.toInt ≤ 2147483647) := ⟨i32_lo _, i32_hi _⟩
                            refine lv_aload_n hx hb dX12_orders_271 rfl (lv_at hl 3 rfl) ?_
                            refine lv_iload hx hb dX12_orders_272 (lv_at hl 1 rfl) ?_
                            refine tk_putP (D := (dC, dI)) (ci := 12) (v := .int v_131) (ty := .int) (C := RX12) (T := TX12) (N := 56) hx hb hU inlX12 tyX12 tyX12_ok nmX12 hown hK hP hD hS mo0 hfo_177 rfl 43 (by decide) (hU _ wd_572) (fun _ h9 => h9) rfl (by decide +kernel) rfl rfl (Nat.le_of_ble_eq_true rfl) dX12_orders_274 (fun H locs hP hD hS => ?_)
                            have fa_179 := fu12_43 (y := v_131) fa_178 (by constructor <;> omega)
                            obtain ⟨f_181, ef_181⟩ : ∃ y : Nat → va_E, y = va_up f_168 o0 (.inr (12, [.ref a_1, .ref a_2, .ref a_3, .int v_4, .ref a_5, .int v_6, .int v_7, .int v_8, .int v_9, .int v_10, .int v_11, .int v_12, .int v_13, .int v_14, .int v_15, .ref a_16, .ref a_17, .ref a_18, .ref a_19, .ref a_20, .ref a_21, .ref a_22, .ref a_23, .int v_174, .int v_25, .int v_126, .int v_27, .int v_127, .ref a_29, .int v_128, .ref a_31, .ref a_32, .int v_129, .int v_130, .ref a_35, .int v_36, .ref a_37, .ref a_38, .int v_39, .int v_40, .ref a_41, .ref a_42, .ref a_43, .int v_131, .ref a_45, .ref a_46, .ref a_47, .ref a_48, .ref a_49, .ref a_50, .ref a_51, .ref a_52, .ref a_53, .int v_132, .int v_176, .ref a_56])) := ⟨_, rfl⟩
                            have hP : va_P (dC, dI) vwCl (va_pl L f_181) H := by rw [ef_181]; exact hP
                            have hD : va_D (fun q => q ∈ L) (va_pl L f_181) := by rw [ef_181]; exact hD
                            have hG : GI (okc cI cL cZ cR cG cH L kd) kd L f_181 := by rw [ef_181]; exact hG.set o0 (mk_12 ko0 (fo12 fa_179))
                            have hfo_182 : f_181 a_1 = .inl (cI, 1560, .inl g_60) := by rw [ef_181, up_ne (kd_ne ko0 ka_1 (by decide))]; exact hfo_173
                            have hfr0 : ∀ b, kd b ≠ 12 → kd b ≠ 579 → kd b ≠ 581 → kd b ≠ 583 → kd b ≠ 585 → kd b ≠ 587 → kd b ≠ 588 → kd b ≠ 589 → kd b ≠ 590 → kd b ≠ 591 → kd b ≠ 592 → kd b ≠ 593 → kd b ≠ 597 → kd b ≠ 598 → kd b ≠ 599 → kd b ≠ 603 → kd b ≠ 604 → kd b ≠ 606 → kd b ≠ 607 → kd b ≠ 608 → kd b ≠ 609 → kd b ≠ 610 → f_181 b = f b := fun b q12 q579 q581 q583 q585 q587 q588 q589 q590 q591 q592 q593 q597 q598 q599 q603 q604 q606 q607 q608 q609 q610 => (congrFun ef_181 b).trans ((up_ne (fun e9 => q12 (by rw [e9]; exact ko0))).trans (hfr0 b q12 q579 q581 q583 q585 q587 q588 q589 q590 q591 q592 q593 q597 q598 q599 q603 q604 q606 q607 q608 q609 q610))
                            have hrA12 : ∀ b, kd b = 12 → ∀ j, fldR (f_181 b) j = fldR (f b) j := fun b kb j => ((congrArg (fun x => fldR x j) (congrFun ef_181 b)).trans (fra_up (fun j => by rw [hfo_177]; exact fr_set (k := 43) rfl rfl) j b)).trans (hrA12 b kb j)
                            have hfA12 : ∀ b, kd b = 12 → ∀ j, j ≠ 23 → j ≠ 25 → j ≠ 27 → j ≠ 29 → j ≠ 32 → j ≠ 33 → j ≠ 43 → j ≠ 53 → j ≠ 54 → fldI (f_181 b) j = fldI (f b) j := fun b kb j n23 n25 n27 n29 n32 n33 n43 n53 n54 => ((congrArg (fun x => fldI x j) (congrFun ef_181 b)).trans (fia_up (fun h9 => by rw [hfo_177]; exact fi_set (k := 43) rfl h9) n43 b)).trans (hfA12 b kb j n23 n25 n27 n29 n32 n33 n43 n53 n54)
                            have hT0 : srel kd 592 f_181 o0 := by rw [ef_181]; exact hT0.keep (fun b _ => fr_up (by rw [hfo_177]; rfl) b) (fun b _ => fk_up (by rw [hfo_177]; rfl) b) (fun b _ => fk_up (by rw [hfo_177]; rfl) b) (fun b q => up_ne (kd_ne ko0 q (by decide)))
                            have hfo_183 : f_181 o0 = .inr (12, [.ref a_1, .ref a_2, .ref a_3, .int v_4, .ref a_5, .int v_6, .int v_7, .int v_8, .int v_9, .int v_10, .int v_11, .int v_12, .int v_13, .int v_14, .int v_15, .ref a_16, .ref a_17, .ref a_18, .ref a_19, .ref a_20, .ref a_21, .ref a_22, .ref a_23, .int v_174, .int v_25, .int v_126, .int v_27, .int v_127, .ref a_29, .int v_128, .ref a_31, .ref a_32, .int v_129, .int v_130, .ref a_35, .int v_36, .ref a_37, .ref a_38, .int v_39, .int v_40, .ref a_41, .ref a_42, .ref a_43, .int v_131, .ref a_45, .ref a_46, .ref a_47, .ref a_48, .ref a_49, .ref a_50, .ref a_51, .ref a_52, .ref a_53, .int v_132, .int v_176, .ref a_56]) := by rw [ef_181]; exact up_self
                            refine lv_iconst (v := 0) hx hb dX12_orders_277 (by decide) ?_
                            refine lv_istore (lv' := [(5, .int 0), (4, .int v_131), (3, .int x_99), (0, .ref o0), (1, .int p1), (2, .int p2)]) hx hb dX12_orders_278 hl (by decide) rfl (fun ls hl => ?_)
                            have hloop_202 : ∀ (n : Nat), ∀ (y_203 : Int32), (0 ≤ y_203.toInt ∧ y_203.toInt ≤ 16) → ∀ (f_205 : Nat → va_E), GI (okc cI cL cZ cR cG cH L kd) kd L f_205 → ∀ (H : Heap) (locs : List Loc), va_P (dC, dI) vwCl (va_pl L f_205) H → va_S (fun q => q ∈ L) s.heap H locs → va_D (fun q => q ∈ L) (va_pl L f_205) → (∀ b, kd b ≠ 12 → kd b ≠ 579 → kd b ≠ 581 → kd b ≠ 583 → kd b ≠ 585 → kd b ≠ 587 → kd b ≠ 588 → kd b ≠ 589 → kd b ≠ 590 → kd b ≠ 591 → kd b ≠ 592 → kd b ≠ 593 → kd b ≠ 597 → kd b ≠ 598 → kd b ≠ 599 → kd b ≠ 603 → kd b ≠ 604 → kd b ≠ 606 → kd b ≠ 607 → kd b ≠ 608 → kd b ≠ 609 → kd b ≠ 610 → f_205 b = f b) → (∀ b, kd b = 12 → ∀ j, fldR (f_205 b) j = fldR (f b) j) → (∀ b, kd b = 12 → ∀ j, j ≠ 23 → j ≠ 25 → j ≠ 27 → j ≠ 29 → j ≠ 32 → j ≠ 33 → j ≠ 43 → j ≠ 53 → j ≠ 54 → fldI (f_205 b) j = fldI (f b) j) → (f_205 a_1 = .inl (cI, 1560, .inl g_60)) → (f_205 o0 = .inr (12, [.ref a_1, .ref a_2, .ref a_3, .int v_4, .ref a_5, .int v_6, .int v_7, .int v_8, .int v_9, .int v_10, .int v_11, .int v_12, .int v_13, .int v_14, .int v_15, .ref a_16, .ref a_17, .ref a_18, .ref a_19, .ref a_20, .ref a_21, .ref a_22, .ref a_23, .int v_174, .int v_25, .int v_126, .int v_27, .int v_127, .ref a_29, .int v_128, .ref a_31, .ref a_32, .int v_129, .int v_130, .ref a_35, .int v_36, .ref a_37, .ref a_38, .int v_39, .int v_40, .ref a_41, .ref a_42, .ref a_43, .int v_131, .ref a_45, .ref a_46, .ref a_47, .ref a_48, .ref a_49, .ref a_50, .ref a_51, .ref a_52, .ref a_53, .int v_132, .int v_176, .ref a_56])) → srel kd 592 f_205 o0 → 16 - y_203.toInt < (n : Int) → ∀ (ls : Array Slot), lv_has ls 6 [(5, .int y_203), (4, .int v_131), (3, .int x_99), (0, .ref o0), (1, .int p1), (2, .int p2)] → W p l e (headSpec (wU yX12_orders cX12_orders 6 (some .int)) { frames := 24, cells := 0, slots := 0, locals := 676 }).room s m [.ref o0, .int p1, .int p2].toArray below meth c H locs 0 0 (MQ below (va_Qi (fun (r : Int32) (f9 : Nat → va_E) => GI (okc cI cL cZ cR cG cH L kd) kd L f9 ∧ ((-2147483648) ≤ r.toInt ∧ r.toInt ≤ 2147483647) ∧ (∀ b, kd b ≠ 12 → kd b ≠ 579 → kd b ≠ 581 → kd b ≠ 583 → kd b ≠ 585 → kd b ≠ 587 → kd b ≠ 588 → kd b ≠ 589 → kd b ≠ 590 → kd b ≠ 591 → kd b ≠ 592 → kd b ≠ 593 → kd b ≠ 597 → kd b ≠ 598 → kd b ≠ 599 → kd b ≠ 603 → kd b ≠ 604 → kd b ≠ 606 → kd b ≠ 607 → kd b ≠ 608 → kd b ≠ 609 → kd b ≠ 610 → f9 b = f b) ∧ (∀ b, kd b = 12 → ∀ j, fldR (f9 b) j = fldR (f b) j) ∧ (∀ b, kd b = 12 → ∀ j, j ≠ 23 → j ≠ 25 → j ≠ 27 → j ≠ 29 → j ≠ 32 → j ≠ 33 → j ≠ 43 → j ≠ 53 → j ≠ 54 → fldI (f9 b) j = fldI (f b) j) ∧ (∀ (w29 z29 : Int32), fldI (f o0) 29 = some w29 → fldI (f9 o0) 29 = some z29 → z29.toInt = w29.toInt) ∧ (srel kd 592 f9 o0)) (qP (dC, dI) cI cL cZ cR cG cH L) (fun q => q ∈ L)) [.ref o0, .int p1, .int p2].toArray s 0 0 (fun q => q ∈ L)) (F0 m 280 ls []) := by
                              intro n
                              induction n with
                              | zero => intro y_203 by_203 f_205 hG H locs hP hS hD hfr0 hrA12 hfA12 hfo_206 hfo_207 hT0 hmuhloop_202 ls hl; exfalso; omega
                              | succ n ih_hloop_202 =>
                                intro y_203 by_203 f_205 hG H locs hP hS hD hfr0 hrA12 hfA12 hfo_206 hfo_207 hT0 hmuhloop_202 ls hl
                                refine lv_iload hx hb dX12_orders_280 (lv_at hl 0 rfl) ?_
                                refine lv_bipush (v := 16) hx hb dX12_orders_282 (by decide) ?_
                                refine lv_icmp_ge (tgt := 307) hx hb dX12_orders_284 (by decide) (fun c_208 => ?_) (fun c_208 => ?_)
                                · skip
                                  rw [Int32.le_iff_toInt_le, ti_16] at c_208
                                  refine lv_iload_n hx hb dX12_orders_307 rfl (lv_at hl 5 rfl) ?_
                                  refine lv_if_ne (tgt := 318) hx hb dX12_orders_308 (by decide) (fun c_209 => ?_) (fun c_209 => ?_)
                                  · skip
                                    rw [← Int32.toInt_inj, ti_0] at c_209
                                    exfalso
                                    omega
                                  · skip
                                    rw [← Int32.toInt_inj, ti_0] at c_209
                                    refine lv_aload_n hx hb dX12_orders_311 rfl (lv_at hl 3 rfl) ?_
                                    refine tk_getP (D := (dC, dI)) (ci := 12) (v := .int v_176) (C := RX12) (T := TX12) (N := 56) hx hb hU inlX12 hown hK hP mo0 hfo_207 rfl 54 (by decide) (hU _ wd_1242) (fun _ h9 => h9) rfl dX12_orders_312 ?_
                                    refine lv_goto (tgt := 327) hx hb dX12_orders_315 (by decide) ?_
                                    exact W.iret (v := v_176) hx hb hr (fun t ht hW => ⟨⟨v_176, f_205, rfl, ⟨hG, (by constructor <;> omega), hfr0, hrA12, hfA12, (by intro w29 z29 e29 d29; rw [hfo_57] at e29; rw [hfo_207] at d29; obtain rfl := Option.some.inj e29; obtain rfl := Option.some.inj d29; omega), hT0⟩, by rw [ht]; exact hP, va_K.moved hW.alike hK, pl_in hD⟩, hS.F ht⟩) hS.2.2 dX12_orders_327
                                · skip
                                  rw [Int32.le_iff_toInt_le, ti_16] at c_208
                                  refine lv_aload_n hx hb dX12_orders_287 rfl (lv_at hl 3 rfl) ?_
                                  refine tk_getP (D := (dC, dI)) (ci := 12) (v := .ref a_41) (C := RX12) (T := TX12) (N := 56) hx hb hU inlX12 hown hK hP mo0 hfo_207 rfl 40 (by decide) (hU _ wd_190) (fun _ h9 => h9) rfl dX12_orders_288 ?_
                                  refine lv_iload hx hb dX12_orders_291 (lv_at hl 0 rfl) ?_
                                  refine lv_aload_n hx hb dX12_orders_293 rfl (lv_at hl 3 rfl) ?_
                                  refine tk_getP (D := (dC, dI)) (ci := 12) (v := .ref a_56) (C := RX12) (T := TX12) (N := 56) hx hb hU inlX12 hown hK hP mo0 hfo_207 rfl 55 (by decide) (hU _ wd_204) (fun _ h9 => h9) rfl dX12_orders_294 ?_
                                  refine lv_iload hx hb dX12_orders_297 (lv_at hl 0 rfl) ?_
                                  obtain ⟨g_211, hfo_210, hbg_211⟩ := un_610 (hG _ ma_56) ka_56
                                  refine tk_ildP hx hb hK hP 0 ma_56 hfo_210 rfl (vp_in_iff.mpr (by constructor <;> omega)) dX12_orders_299 ?_
                                  refine lv_topi (fun x_212 ex_212 => ?_)
                                  have bx_212 : (0 ≤ x_212.toInt ∧ x_212.toInt ≤ 8) := by rw [ex_212]; exact hbg_211 _
                                  obtain ⟨g_214, hfo_213, hbg_214⟩ := un_597 (hG _ ma_41) ka_41
                                  refine tk_istP hx hb hK hP hD hS 0 ma_41 hfo_213 rfl (vp_in_iff.mpr (by constructor <;> omega)) dX12_orders_300 (fun H locs hP hD hS => ?_)
                                  obtain ⟨f_216, ef_216⟩ : ∃ y : Nat → va_E, y = va_up f_205 a_41 (.inl (cI, 16, .inl (upd g_214 (Int32.toNatClampNeg y_203) x_212))) := ⟨_, rfl⟩
                                  have hP : va_P (dC, dI) vwCl (va_pl L f_216) H := by rw [ef_216]; exact hP
                                  have hD : va_D (fun q => q ∈ L) (va_pl L f_216) := by rw [ef_216]; exact hD
                                  have hG : GI (okc cI cL cZ cR cG cH L kd) kd L f_216 := by rw [ef_216]; exact hG.set a_41 (mk_597 ka_41 ⟨_, rfl, okI_up hbg_214 (by constructor <;> omega) _⟩)
                                  have hfo_217 : f_216 a_1 = .inl (cI, 1560, .inl g_60) := by rw [ef_216, up_ne (kd_ne ka_41 ka_1 (by decide))]; exact hfo_206
                                  have hfo_218 : f_216 o0 = .inr (12, [.ref a_1, .ref a_2, .ref a_3, .int v_4, .ref a_5, .int v_6, .int v_7, .int v_8, .int v_9, .int v_10, .int v_11, .int v_12, .int v_13, .int v_14, .int v_15, .ref a_16, .ref a_17, .ref a_18, .ref a_19, .ref a_20, .ref a_21, .ref a_22, .ref a_23, .int v_174, .int v_25, .int v_126, .int v_27, .int v_127, .ref a_29, .int v_128, .ref a_31, .ref a_32, .int v_129, .int v_130, .ref a_35, .int v_36, .ref a_37, .ref a_38, .int v_39, .int v_40, .ref a_41, .ref a_42, .ref a_43, .int v_131, .ref a_45, .ref a_46, .ref a_47, .ref a_48, .ref a_49, .ref a_50, .ref a_51, .ref a_52, .ref a_53, .int v_132, .int v_176, .ref a_56]) := by rw [ef_216, up_ne (kd_ne ka_41 ko0 (by decide))]; exact hfo_207
                                  have hfo_219 : f_216 a_56 = .inl (cI, 16, .inl g_211) := by rw [ef_216, up_ne (kd_ne ka_41 ka_56 (by decide))]; exact hfo_210
                                  have hfr0 : ∀ b, kd b ≠ 12 → kd b ≠ 579 → kd b ≠ 581 → kd b ≠ 583 → kd b ≠ 585 → kd b ≠ 587 → kd b ≠ 588 → kd b ≠ 589 → kd b ≠ 590 → kd b ≠ 591 → kd b ≠ 592 → kd b ≠ 593 → kd b ≠ 597 → kd b ≠ 598 → kd b ≠ 599 → kd b ≠ 603 → kd b ≠ 604 → kd b ≠ 606 → kd b ≠ 607 → kd b ≠ 608 → kd b ≠ 609 → kd b ≠ 610 → f_216 b = f b := fun b q12 q579 q581 q583 q585 q587 q588 q589 q590 q591 q592 q593 q597 q598 q599 q603 q604 q606 q607 q608 q609 q610 => (congrFun ef_216 b).trans ((up_ne (fun e9 => q597 (by rw [e9]; exact ka_41))).trans (hfr0 b q12 q579 q581 q583 q585 q587 q588 q589 q590 q591 q592 q593 q597 q598 q599 q603 q604 q606 q607 q608 q609 q610))
                                  have hrA12 : ∀ b, kd b = 12 → ∀ j, fldR (f_216 b) j = fldR (f b) j := fun b kb j => (congrArg (fun x => fldR x j) ((congrFun ef_216 b).trans (up_ne (kd_ne ka_41 kb (by decide))))).trans (hrA12 b kb j)
                                  have hfA12 : ∀ b, kd b = 12 → ∀ j, j ≠ 23 → j ≠ 25 → j ≠ 27 → j ≠ 29 → j ≠ 32 → j ≠ 33 → j ≠ 43 → j ≠ 53 → j ≠ 54 → fldI (f_216 b) j = fldI (f b) j := fun b kb j n23 n25 n27 n29 n32 n33 n43 n53 n54 => (congrArg (fun x => fldI x j) ((congrFun ef_216 b).trans (up_ne (kd_ne ka_41 kb (by decide))))).trans (hfA12 b kb j n23 n25 n27 n29 n32 n33 n43 n53 n54)
                                  have hT0 : srel kd 592 f_216 o0 := by rw [ef_216]; exact hT0.keep (fun b q => congrArg (fun x => fldR x 30) (up_ne (kd_ne ka_41 q (by decide)))) (fun b q => congrArg (fun x => fldI x 32) (up_ne (kd_ne ka_41 q (by decide)))) (fun b q => congrArg (fun x => fldI x 33) (up_ne (kd_ne ka_41 q (by decide)))) (fun b q => up_ne (kd_ne ka_41 q (by decide)))
                                  have hfo_220 : f_216 a_41 = .inl (cI, 16, .inl (upd g_214 (Int32.toNatClampNeg y_203) x_212)) := by rw [ef_216]; exact up_self
                                  obtain ⟨x_221, ex_221⟩ : ∃ y : Int32, y_203 + 1 = y := ⟨_, rfl⟩
                                  have hx_221 : x_221.toInt = y_203.toInt + 1 := by rw [← ex_221, ad_I (by rw [ti_1]; omega) (by rw [ti_1]; omega), ti_1]
                                  have bx_221 : (1 ≤ x_221.toInt ∧ x_221.toInt ≤ 16) := by constructor <;> omega
                                  refine lv_iinc (v := x_221) (lv' := [(5, .int x_221), (4, .int v_131), (3, .int x_99), (0, .ref o0), (1, .int p1), (2, .int p2)]) hx hb dX12_orders_301 hl (k := 0) rfl ex_221 (by decide) rfl (fun ls hl => ?_)
                                  refine lv_goto (tgt := 280) hx hb dX12_orders_304 (by decide) ?_
                                  exact ih_hloop_202 x_221 (by constructor <;> omega) f_216 hG _ _ hP hS hD hfr0 hrA12 hfA12 hfo_217 hfo_218 hT0 (by omega) ls (lv_sub hl [0, 1, 2, 3, 4, 5] rfl)
                            exact hloop_202 17 0 (by decide) f_181 hG _ _ hP hS hD hfr0 hrA12 hfA12 hfo_182 hfo_183 hT0 (by (try rw [ti_0]) <;> omega) ls hl
                          · skip
                            rw [Int32.le_iff_toInt_le, ti_16] at c_161
                            refine lv_aload_n hx hb dX12_orders_240 rfl (lv_at hl 3 rfl) ?_
                            refine tk_getP (D := (dC, dI)) (ci := 12) (v := .ref a_56) (C := RX12) (T := TX12) (N := 56) hx hb hU inlX12 hown hK hP mo0 hfo_160 rfl 55 (by decide) (hU _ wd_204) (fun _ h9 => h9) rfl dX12_orders_241 ?_
                            refine lv_iload hx hb dX12_orders_244 (lv_at hl 0 rfl) ?_
                            refine lv_aload_n hx hb dX12_orders_246 rfl (lv_at hl 3 rfl) ?_
                            refine tk_getP (D := (dC, dI)) (ci := 12) (v := .ref a_41) (C := RX12) (T := TX12) (N := 56) hx hb hU inlX12 hown hK hP mo0 hfo_160 rfl 40 (by decide) (hU _ wd_190) (fun _ h9 => h9) rfl dX12_orders_247 ?_
                            refine lv_iload hx hb dX12_orders_250 (lv_at hl 0 rfl) ?_
                            obtain ⟨g_223, hfo_222, hbg_223⟩ := un_597 (hG _ ma_41) ka_41
                            refine tk_ildP hx hb hK hP 0 ma_41 hfo_222 rfl (vp_in_iff.mpr (by constructor <;> omega)) dX12_orders_252 ?_
                            refine lv_topi (fun x_224 ex_224 => ?_)
                            have bx_224 : (0 ≤ x_224.toInt ∧ x_224.toInt ≤ 8) := by rw [ex_224]; exact hbg_223 _
                            obtain ⟨g_226, hfo_225, hbg_226⟩ := un_610 (hG _ ma_56) ka_56
                            refine tk_istP hx hb hK hP hD hS 0 ma_56 hfo_225 rfl (vp_in_iff.mpr (by constructor <;> omega)) dX12_orders_253 (fun H locs hP hD hS => ?_)
                            obtain ⟨f_228, ef_228⟩ : ∃ y : Nat → va_E, y = va_up f_158 a_56 (.inl (cI, 16, .inl (upd g_226 (Int32.toNatClampNeg y_156) x_224))) := ⟨_, rfl⟩
                            have hP : va_P (dC, dI) vwCl (va_pl L f_228) H := by rw [ef_228]; exact hP
                            have hD : va_D (fun q => q ∈ L) (va_pl L f_228) := by rw [ef_228]; exact hD
                            have hG : GI (okc cI cL cZ cR cG cH L kd) kd L f_228 := by rw [ef_228]; exact hG.set a_56 (mk_610 ka_56 ⟨_, rfl, okI_up hbg_226 (by constructor <;> omega) _⟩)
                            have hfo_229 : f_228 a_1 = .inl (cI, 1560, .inl g_60) := by rw [ef_228, up_ne (kd_ne ka_56 ka_1 (by decide))]; exact hfo_159
                            have hfo_230 : f_228 o0 = .inr (12, [.ref a_1, .ref a_2, .ref a_3, .int v_4, .ref a_5, .int v_6, .int v_7, .int v_8, .int v_9, .int v_10, .int v_11, .int v_12, .int v_13, .int v_14, .int v_15, .ref a_16, .ref a_17, .ref a_18, .ref a_19, .ref a_20, .ref a_21, .ref a_22, .ref a_23, .int v_125, .int v_25, .int v_126, .int v_27, .int v_127, .ref a_29, .int v_128, .ref a_31, .ref a_32, .int v_129, .int v_130, .ref a_35, .int v_36, .ref a_37, .ref a_38, .int v_39, .int v_40, .ref a_41, .ref a_42, .ref a_43, .int v_131, .ref a_45, .ref a_46, .ref a_47, .ref a_48, .ref a_49, .ref a_50, .ref a_51, .ref a_52, .ref a_53, .int v_132, .int v_133, .ref a_56]) := by rw [ef_228, up_ne (kd_ne ka_56 ko0 (by decide))]; exact hfo_160
                            have hfo_231 : f_228 a_41 = .inl (cI, 16, .inl g_223) := by rw [ef_228, up_ne (kd_ne ka_56 ka_41 (by decide))]; exact hfo_222
                            have hfr0 : ∀ b, kd b ≠ 12 → kd b ≠ 579 → kd b ≠ 581 → kd b ≠ 583 → kd b ≠ 585 → kd b ≠ 587 → kd b ≠ 588 → kd b ≠ 589 → kd b ≠ 590 → kd b ≠ 591 → kd b ≠ 592 → kd b ≠ 593 → kd b ≠ 597 → kd b ≠ 598 → kd b ≠ 599 → kd b ≠ 603 → kd b ≠ 604 → kd b ≠ 606 → kd b ≠ 607 → kd b ≠ 608 → kd b ≠ 609 → kd b ≠ 610 → f_228 b = f b := fun b q12 q579 q581 q583 q585 q587 q588 q589 q590 q591 q592 q593 q597 q598 q599 q603 q604 q606 q607 q608 q609 q610 => (congrFun ef_228 b).trans ((up_ne (fun e9 => q610 (by rw [e9]; exact ka_56))).trans (hfr0 b q12 q579 q581 q583 q585 q587 q588 q589 q590 q591 q592 q593 q597 q598 q599 q603 q604 q606 q607 q608 q609 q610))
                            have hrA12 : ∀ b, kd b = 12 → ∀ j, fldR (f_228 b) j = fldR (f b) j := fun b kb j => (congrArg (fun x => fldR x j) ((congrFun ef_228 b).trans (up_ne (kd_ne ka_56 kb (by decide))))).trans (hrA12 b kb j)
                            have hfA12 : ∀ b, kd b = 12 → ∀ j, j ≠ 23 → j ≠ 25 → j ≠ 27 → j ≠ 29 → j ≠ 32 → j ≠ 33 → j ≠ 43 → j ≠ 53 → j ≠ 54 → fldI (f_228 b) j = fldI (f b) j := fun b kb j n23 n25 n27 n29 n32 n33 n43 n53 n54 => (congrArg (fun x => fldI x j) ((congrFun ef_228 b).trans (up_ne (kd_ne ka_56 kb (by decide))))).trans (hfA12 b kb j n23 n25 n27 n29 n32 n33 n43 n53 n54)
                            have hT0 : srel kd 592 f_228 o0 := by rw [ef_228]; exact hT0.keep (fun b q => congrArg (fun x => fldR x 30) (up_ne (kd_ne ka_56 q (by decide)))) (fun b q => congrArg (fun x => fldI x 32) (up_ne (kd_ne ka_56 q (by decide)))) (fun b q => congrArg (fun x => fldI x 33) (up_ne (kd_ne ka_56 q (by decide)))) (fun b q => up_ne (kd_ne ka_56 q (by decide)))
                            have hfo_232 : f_228 a_56 = .inl (cI, 16, .inl (upd g_226 (Int32.toNatClampNeg y_156) x_224)) := by rw [ef_228]; exact up_self
                            obtain ⟨x_233, ex_233⟩ : ∃ y : Int32, y_156 + 1 = y := ⟨_, rfl⟩
                            have hx_233 : x_233.toInt = y_156.toInt + 1 := by rw [← ex_233, ad_I (by rw [ti_1]; omega) (by rw [ti_1]; omega), ti_1]
                            have bx_233 : (1 ≤ x_233.toInt ∧ x_233.toInt ≤ 16) := by constructor <;> omega
                            refine lv_iinc (v := x_233) (lv' := [(5, .int x_233), (4, .int v_131), (3, .int x_99), (0, .ref o0), (1, .int p1), (2, .int p2)]) hx hb dX12_orders_254 hl (k := 0) rfl ex_233 (by decide) rfl (fun ls hl => ?_)
                            refine lv_goto (tgt := 233) hx hb dX12_orders_257 (by decide) ?_
                            exact ih_hloop_155 x_233 (by constructor <;> omega) f_228 hG _ _ hP hS hD hfr0 hrA12 hfA12 hfo_229 hfo_230 hT0 (by omega) ls (lv_sub hl [0, 1, 2, 3, 4, 5] rfl)
                      exact hloop_155 17 0 (by decide) f_123 hG _ _ hP hS hD hfr0 hrA12 hfA12 hfo_124 hfo_134 hT0 (by (try rw [ti_0]) <;> omega) ls hl
                    · skip
                      rw [Int32.le_iff_toInt_le] at c_136
                      refine lv_iconst (v := 0) hx hb dX12_orders_128 (by decide) ?_
                      refine lv_istore (lv' := [(5, .int 0), (4, .int y_121), (3, .int x_99), (0, .ref o0), (1, .int p1), (2, .int p2)]) hx hb dX12_orders_129 hl (by decide) rfl (fun ls hl => ?_)
                      have hloop_252 : ∀ (n : Nat), ∀ (y_253 : Int32), (0 ≤ y_253.toInt ∧ y_253.toInt ≤ 90) → ∀ (f_255 : Nat → va_E), GI (okc cI cL cZ cR cG cH L kd) kd L f_255 → ∀ (H : Heap) (locs : List Loc), va_P (dC, dI) vwCl (va_pl L f_255) H → va_S (fun q => q ∈ L) s.heap H locs → va_D (fun q => q ∈ L) (va_pl L f_255) → (∀ b, kd b ≠ 12 → kd b ≠ 579 → kd b ≠ 581 → kd b ≠ 583 → kd b ≠ 585 → kd b ≠ 587 → kd b ≠ 588 → kd b ≠ 589 → kd b ≠ 590 → kd b ≠ 591 → kd b ≠ 592 → kd b ≠ 593 → kd b ≠ 597 → kd b ≠ 598 → kd b ≠ 599 → kd b ≠ 603 → kd b ≠ 604 → kd b ≠ 606 → kd b ≠ 607 → kd b ≠ 608 → kd b ≠ 609 → kd b ≠ 610 → f_255 b = f b) → (∀ b, kd b = 12 → ∀ j, fldR (f_255 b) j = fldR (f b) j) → (∀ b, kd b = 12 → ∀ j, j ≠ 23 → j ≠ 25 → j ≠ 27 → j ≠ 29 → j ≠ 32 → j ≠ 33 → j ≠ 43 → j ≠ 53 → j ≠ 54 → fldI (f_255 b) j = fldI (f b) j) → (f_255 a_1 = .inl (cI, 1560, .inl g_60)) → (f_255 o0 = .inr (12, [.ref a_1, .ref a_2, .ref a_3, .int v_4, .ref a_5, .int v_6, .int v_7, .int v_8, .int v_9, .int v_10, .int v_11, .int v_12, .int v_13, .int v_14, .int v_15, .ref a_16, .ref a_17, .ref a_18, .ref a_19, .ref a_20, .ref a_21, .ref a_22, .ref a_23, .int v_125, .int v_25, .int v_126, .int v_27, .int v_127, .ref a_29, .int v_128, .ref a_31, .ref a_32, .int v_129, .int v_130, .ref a_35, .int v_36, .ref a_37, .ref a_38, .int v_39, .int v_40, .ref a_41, .ref a_42, .ref a_43, .int v_131, .ref a_45, .ref a_46, .ref a_47, .ref a_48, .ref a_49, .ref a_50, .ref a_51, .ref a_52, .ref a_53, .int v_132, .int v_133, .ref a_56])) → srel kd 592 f_255 o0 → 90 - y_253.toInt < (n : Int) → ∀ (ls : Array Slot), lv_has ls 6 [(5, .int y_253), (4, .int y_121), (3, .int x_99), (0, .ref o0), (1, .int p1), (2, .int p2)] → W p l e (headSpec (wU yX12_orders cX12_orders 6 (some .int)) { frames := 24, cells := 0, slots := 0, locals := 676 }).room s m [.ref o0, .int p1, .int p2].toArray below meth c H locs 0 0 (MQ below (va_Qi (fun (r : Int32) (f9 : Nat → va_E) => GI (okc cI cL cZ cR cG cH L kd) kd L f9 ∧ ((-2147483648) ≤ r.toInt ∧ r.toInt ≤ 2147483647) ∧ (∀ b, kd b ≠ 12 → kd b ≠ 579 → kd b ≠ 581 → kd b ≠ 583 → kd b ≠ 585 → kd b ≠ 587 → kd b ≠ 588 → kd b ≠ 589 → kd b ≠ 590 → kd b ≠ 591 → kd b ≠ 592 → kd b ≠ 593 → kd b ≠ 597 → kd b ≠ 598 → kd b ≠ 599 → kd b ≠ 603 → kd b ≠ 604 → kd b ≠ 606 → kd b ≠ 607 → kd b ≠ 608 → kd b ≠ 609 → kd b ≠ 610 → f9 b = f b) ∧ (∀ b, kd b = 12 → ∀ j, fldR (f9 b) j = fldR (f b) j) ∧ (∀ b, kd b = 12 → ∀ j, j ≠ 23 → j ≠ 25 → j ≠ 27 → j ≠ 29 → j ≠ 32 → j ≠ 33 → j ≠ 43 → j ≠ 53 → j ≠ 54 → fldI (f9 b) j = fldI (f b) j) ∧ (∀ (w29 z29 : Int32), fldI (f o0) 29 = some w29 → fldI (f9 o0) 29 = some z29 → z29.toInt = w29.toInt) ∧ (srel kd 592 f9 o0)) (qP (dC, dI) cI cL cZ cR cG cH L) (fun q => q ∈ L)) [.ref o0, .int p1, .int p2].toArray s 0 0 (fun q => q ∈ L)) (F0 m 131 ls []) := by
                        intro n
                        induction n with
                        | zero => intro y_253 by_253 f_255 hG H locs hP hS hD hfr0 hrA12 hfA12 hfo_256 hfo_257 hT0 hmuhloop_252 ls hl; exfalso; omega
                        | succ n ih_hloop_252 =>
                          intro y_253 by_253 f_255 hG H locs hP hS hD hfr0 hrA12 hfA12 hfo_256 hfo_257 hT0 hmuhloop_252 ls hl
                          refine lv_iload hx hb dX12_orders_131 (lv_at hl 0 rfl) ?_
                          refine lv_bipush (v := 90) hx hb dX12_orders_133 (by decide) ?_
                          refine lv_icmp_ge (tgt := 155) hx hb dX12_orders_135 (by decide) (fun c_258 => ?_) (fun c_258 => ?_)
                          · skip
                            rw [Int32.le_iff_toInt_le, ti_90] at c_258
                            refine lv_aload_n hx hb dX12_orders_155 rfl (lv_at hl 3 rfl) ?_
                            refine lv_iload hx hb dX12_orders_156 (lv_at hl 1 rfl) ?_
                            refine tk_VvP (As := [.int y_121]) (rest := []) (n := 1) hx hb hml hown hU hN hZ (s_X12_laysWord_k12 l (dC, dI) cI cL cZ cR cG cH Z kd L f_255 hG o0 mo0 ko0 y_121 (by constructor <;> omega) (fun b9 g9 h1 h2 => by rw [hfo_257] at h1; obtain rfl := Option.some.inj h1; rw [hfo_256] at h2; cases h2; omega)) wd_1173 wd_1174 wd_1175 wd_5 wd_1176 (by decide +kernel) ⟨Nat.le_of_ble_eq_true rfl, Nat.le_of_ble_eq_true rfl⟩ hK hP hD hS mo0 hfo_257 12 rfl rfl rfl hl.1 rfl (Nat.le_of_ble_eq_true rfl) dX12_orders_158 ⟨Nat.le_of_ble_eq_true rfl, Nat.le_of_ble_eq_true rfl⟩ (fun f_260 H locs hw hP hD hS => ?_)
                            obtain ⟨hG, hkc_261, hra_262, hfa_263, hpost_264, hxp_265⟩ := hw
                            have hfo_267 : f_260 a_1 = .inl (cI, 1560, .inl g_60) := by rw [hkc_261 a_1 (by rw [ka_1]; decide) (by rw [ka_1]; decide)]; exact hfo_256
                            have hfr0 : ∀ b, kd b ≠ 12 → kd b ≠ 579 → kd b ≠ 581 → kd b ≠ 583 → kd b ≠ 585 → kd b ≠ 587 → kd b ≠ 588 → kd b ≠ 589 → kd b ≠ 590 → kd b ≠ 591 → kd b ≠ 592 → kd b ≠ 593 → kd b ≠ 597 → kd b ≠ 598 → kd b ≠ 599 → kd b ≠ 603 → kd b ≠ 604 → kd b ≠ 606 → kd b ≠ 607 → kd b ≠ 608 → kd b ≠ 609 → kd b ≠ 610 → f_260 b = f b := fun b q12 q579 q581 q583 q585 q587 q588 q589 q590 q591 q592 q593 q597 q598 q599 q603 q604 q606 q607 q608 q609 q610 => (hkc_261 b q12 q589).trans (hfr0 b q12 q579 q581 q583 q585 q587 q588 q589 q590 q591 q592 q593 q597 q598 q599 q603 q604 q606 q607 q608 q609 q610)
                            have hrA12 : ∀ b, kd b = 12 → ∀ j, fldR (f_260 b) j = fldR (f b) j := fun b kb j => (hra_262 b kb j).trans (hrA12 b kb j)
                            have hfA12 : ∀ b, kd b = 12 → ∀ j, j ≠ 23 → j ≠ 25 → j ≠ 27 → j ≠ 29 → j ≠ 32 → j ≠ 33 → j ≠ 43 → j ≠ 53 → j ≠ 54 → fldI (f_260 b) j = fldI (f b) j := fun b kb j n23 n25 n27 n29 n32 n33 n43 n53 n54 => (hfa_263 b kb j n23).trans (hfA12 b kb j n23 n25 n27 n29 n32 n33 n43 n53 n54)
                            have hT0 : srel kd 592 f_260 o0 := hT0.keep (fun b q => hra_262 b q 30) (fun b q => hfa_263 b q 32 (by decide)) (fun b q => hfa_263 b q 33 (by decide)) (fun b q => hkc_261 b (by rw [q]; decide) (by rw [q]; decide))
                            obtain ⟨v_268, hfo_269, fa_270⟩ := op12_23 hfo_257 (hG _ mo0) ko0 (hra_262 o0 ko0) (hfa_263 o0 ko0)
                            have bv_268 : (0 ≤ v_268.toInt ∧ v_268.toInt ≤ 12) := fa12_23 fa_270
                            have hqhpost_264 := hpost_264 v_125 v_268 (by rw [hfo_257]; rfl) (by rw [hfo_269]; rfl)
                            have hlw2 := hxp_265 a_1 g_60 v_268 (by rw [hfo_257]; rfl) hfo_256 (by rw [hfo_269]; rfl)
                            refine lv_aload_n hx hb dX12_orders_161 rfl (lv_at hl 3 rfl) ?_
                            refine lv_aload_n hx hb dX12_orders_162 rfl (lv_at hl 3 rfl) ?_
                            refine tk_getP (D := (dC, dI)) (ci := 12) (v := .ref a_1) (C := RX12) (T := TX12) (N := 56) hx hb hU inlX12 hown hK hP mo0 hfo_269 rfl 0 (by decide) (hU _ wd_169) (fun _ h9 => h9) rfl dX12_orders_163 ?_
                            refine lv_bipush (v := 40) hx hb dX12_orders_166 (by decide) ?_
                            refine tk_ildP hx hb hK hP 0 ma_1 hfo_267 rfl (vp_in_nI (n := 40) (by decide) (by decide)) dX12_orders_168 ?_
                            refine lv_topi (fun x_271 ex_271 => ?_)
                            have bx_271 : (0 ≤ x_271.toInt ∧ x_271.toInt ≤ 255) := by rw [ex_271]; exact hbg_60.2.2.2.2.2.2.1 _ (by decide) (by decide) (by decide)
                            refine tk_VvP (As := [.int x_271]) (rest := []) (n := 1) hx hb hml hown hU hN hZ (s_X12_marksAll_k12 l (dC, dI) cI cL cZ cR cG cH Z kd L f_260 hG o0 mo0 ko0 x_271 (by intro w23 w29 e23 e29; rw [hfo_269] at e23 e29; obtain rfl := Option.some.inj e23; obtain rfl := Option.some.inj e29; omega) hT0) wd_1243 wd_1244 wd_1245 wd_5 wd_1246 (by decide +kernel) ⟨Nat.le_of_ble_eq_true rfl, Nat.le_of_ble_eq_true rfl⟩ hK hP hD hS mo0 hfo_269 12 rfl rfl rfl hl.1 rfl (Nat.le_of_ble_eq_true rfl) dX12_orders_169 ⟨Nat.le_of_ble_eq_true rfl, Nat.le_of_ble_eq_true rfl⟩ (fun f_273 H locs hw hP hD hS => ?_)
                            obtain ⟨hG, hkc_274, hra_275, hfa_276, hpost_277, hTc_278⟩ := hw
                            have hfo_280 : f_273 a_1 = .inl (cI, 1560, .inl g_60) := by rw [hkc_274 a_1 (by rw [ka_1]; decide) (by rw [ka_1]; decide) (by rw [ka_1]; decide) (by rw [ka_1]; decide) (by rw [ka_1]; decide) (by rw [ka_1]; decide) (by rw [ka_1]; decide) (by rw [ka_1]; decide) (by rw [ka_1]; decide) (by rw [ka_1]; decide) (by rw [ka_1]; decide) (by rw [ka_1]; decide)]; exact hfo_267
                            have hfr0 : ∀ b, kd b ≠ 12 → kd b ≠ 579 → kd b ≠ 581 → kd b ≠ 583 → kd b ≠ 585 → kd b ≠ 587 → kd b ≠ 588 → kd b ≠ 589 → kd b ≠ 590 → kd b ≠ 591 → kd b ≠ 592 → kd b ≠ 593 → kd b ≠ 597 → kd b ≠ 598 → kd b ≠ 599 → kd b ≠ 603 → kd b ≠ 604 → kd b ≠ 606 → kd b ≠ 607 → kd b ≠ 608 → kd b ≠ 609 → kd b ≠ 610 → f_273 b = f b := fun b q12 q579 q581 q583 q585 q587 q588 q589 q590 q591 q592 q593 q597 q598 q599 q603 q604 q606 q607 q608 q609 q610 => (hkc_274 b q12 q579 q581 q583 q585 q587 q588 q590 q591 q592 q593 q603).trans (hfr0 b q12 q579 q581 q583 q585 q587 q588 q589 q590 q591 q592 q593 q597 q598 q599 q603 q604 q606 q607 q608 q609 q610)
                            have hrA12 : ∀ b, kd b = 12 → ∀ j, fldR (f_273 b) j = fldR (f b) j := fun b kb j => (hra_275 b kb j).trans (hrA12 b kb j)
                            have hfA12 : ∀ b, kd b = 12 → ∀ j, j ≠ 23 → j ≠ 25 → j ≠ 27 → j ≠ 29 → j ≠ 32 → j ≠ 33 → j ≠ 43 → j ≠ 53 → j ≠ 54 → fldI (f_273 b) j = fldI (f b) j := fun b kb j n23 n25 n27 n29 n32 n33 n43 n53 n54 => (hfa_276 b kb j n25 n27 n29 n32 n33).trans (hfA12 b kb j n23 n25 n27 n29 n32 n33 n43 n53 n54)
                            obtain ⟨v_281, v_282, v_283, v_284, v_285, hfo_286, fa_287⟩ := op12_25_27_29_32_33 hfo_269 (hG _ mo0) ko0 (hra_275 o0 ko0) (hfa_276 o0 ko0)
                            have bv_281 : (0 ≤ v_281.toInt ∧ v_281.toInt ≤ 4) := fa12_25 fa_287
                            have bv_282 : (0 ≤ v_282.toInt ∧ v_282.toInt ≤ 1) := fa12_27 fa_287
                            have bv_283 : (0 ≤ v_283.toInt ∧ v_283.toInt ≤ 201) := fa12_29 fa_287
                            have bv_284 : (0 ≤ v_284.toInt ∧ v_284.toInt ≤ 6561) := fa12_32 fa_287
                            have bv_285 : ((-2147483648) ≤ v_285.toInt ∧ v_285.toInt ≤ 2147483647) := ⟨i32_lo _, i32_hi _⟩
                            have hqhpost_277 := hpost_277 v_128 v_283 (by rw [hfo_269]; rfl) (by rw [hfo_286]; rfl)
                            refine lv_iconst (v := 0) hx hb dX12_orders_172 (by decide) ?_
                            refine lv_istore (lv' := [(5, .int 0), (4, .int y_121), (3, .int x_99), (0, .ref o0), (1, .int p1), (2, .int p2)]) hx hb dX12_orders_173 hl (by decide) rfl (fun ls hl => ?_)
                            have hloop_294 : ∀ (n : Nat), ∀ (y_295 : Int32), (0 ≤ y_295.toInt ∧ y_295.toInt ≤ 6561) → ∀ (f_297 : Nat → va_E), GI (okc cI cL cZ cR cG cH L kd) kd L f_297 → ∀ (H : Heap) (locs : List Loc), va_P (dC, dI) vwCl (va_pl L f_297) H → va_S (fun q => q ∈ L) s.heap H locs → va_D (fun q => q ∈ L) (va_pl L f_297) → (∀ b, kd b ≠ 12 → kd b ≠ 579 → kd b ≠ 581 → kd b ≠ 583 → kd b ≠ 585 → kd b ≠ 587 → kd b ≠ 588 → kd b ≠ 589 → kd b ≠ 590 → kd b ≠ 591 → kd b ≠ 592 → kd b ≠ 593 → kd b ≠ 597 → kd b ≠ 598 → kd b ≠ 599 → kd b ≠ 603 → kd b ≠ 604 → kd b ≠ 606 → kd b ≠ 607 → kd b ≠ 608 → kd b ≠ 609 → kd b ≠ 610 → f_297 b = f b) → (∀ b, kd b = 12 → ∀ j, fldR (f_297 b) j = fldR (f b) j) → (∀ b, kd b = 12 → ∀ j, j ≠ 23 → j ≠ 25 → j ≠ 27 → j ≠ 29 → j ≠ 32 → j ≠ 33 → j ≠ 43 → j ≠ 53 → j ≠ 54 → fldI (f_297 b) j = fldI (f b) j) → (f_297 a_1 = .inl (cI, 1560, .inl g_60)) → (f_297 o0 = .inr (12, [.ref a_1, .ref a_2, .ref a_3, .int v_4, .ref a_5, .int v_6, .int v_7, .int v_8, .int v_9, .int v_10, .int v_11, .int v_12, .int v_13, .int v_14, .int v_15, .ref a_16, .ref a_17, .ref a_18, .ref a_19, .ref a_20, .ref a_21, .ref a_22, .ref a_23, .int v_268, .int v_25, .int v_281, .int v_27, .int v_282, .ref a_29, .int v_283, .ref a_31, .ref a_32, .int v_284, .int v_285, .ref a_35, .int v_36, .ref a_37, .ref a_38, .int v_39, .int v_40, .ref a_41, .ref a_42, .ref a_43, .int v_131, .ref a_45, .ref a_46, .ref a_47, .ref a_48, .ref a_49, .ref a_50, .ref a_51, .ref a_52, .ref a_53, .int v_132, .int v_133, .ref a_56])) → srel kd 592 f_297 o0 → 6561 - y_295.toInt < (n : Int) → ∀ (ls : Array Slot), lv_has ls 6 [(5, .int y_295), (4, .int y_121), (3, .int x_99), (0, .ref o0), (1, .int p1), (2, .int p2)] → W p l e (headSpec (wU yX12_orders cX12_orders 6 (some .int)) { frames := 24, cells := 0, slots := 0, locals := 676 }).room s m [.ref o0, .int p1, .int p2].toArray below meth c H locs 0 0 (MQ below (va_Qi (fun (r : Int32) (f9 : Nat → va_E) => GI (okc cI cL cZ cR cG cH L kd) kd L f9 ∧ ((-2147483648) ≤ r.toInt ∧ r.toInt ≤ 2147483647) ∧ (∀ b, kd b ≠ 12 → kd b ≠ 579 → kd b ≠ 581 → kd b ≠ 583 → kd b ≠ 585 → kd b ≠ 587 → kd b ≠ 588 → kd b ≠ 589 → kd b ≠ 590 → kd b ≠ 591 → kd b ≠ 592 → kd b ≠ 593 → kd b ≠ 597 → kd b ≠ 598 → kd b ≠ 599 → kd b ≠ 603 → kd b ≠ 604 → kd b ≠ 606 → kd b ≠ 607 → kd b ≠ 608 → kd b ≠ 609 → kd b ≠ 610 → f9 b = f b) ∧ (∀ b, kd b = 12 → ∀ j, fldR (f9 b) j = fldR (f b) j) ∧ (∀ b, kd b = 12 → ∀ j, j ≠ 23 → j ≠ 25 → j ≠ 27 → j ≠ 29 → j ≠ 32 → j ≠ 33 → j ≠ 43 → j ≠ 53 → j ≠ 54 → fldI (f9 b) j = fldI (f b) j) ∧ (∀ (w29 z29 : Int32), fldI (f o0) 29 = some w29 → fldI (f9 o0) 29 = some z29 → z29.toInt = w29.toInt) ∧ (srel kd 592 f9 o0)) (qP (dC, dI) cI cL cZ cR cG cH L) (fun q => q ∈ L)) [.ref o0, .int p1, .int p2].toArray s 0 0 (fun q => q ∈ L)) (F0 m 175 ls []) := by
                              intro n
                              induction n with
                              | zero => intro y_295 by_295 f_297 hG H locs hP hS hD hfr0 hrA12 hfA12 hfo_298 hfo_299 hTc_278 hmuhloop_294 ls hl; exfalso; omega
                              | succ n ih_hloop_294 =>
                                intro y_295 by_295 f_297 hG H locs hP hS hD hfr0 hrA12 hfA12 hfo_298 hfo_299 hTc_278 hmuhloop_294 ls hl
                                refine lv_iload hx hb dX12_orders_175 (lv_at hl 0 rfl) ?_
                                refine lv_aload_n hx hb dX12_orders_177 rfl (lv_at hl 3 rfl) ?_
                                refine tk_getP (D := (dC, dI)) (ci := 12) (v := .int v_284) (C := RX12) (T := TX12) (N := 56) hx hb hU inlX12 hown hK hP mo0 hfo_299 rfl 32 (by decide) (hU _ wd_921) (fun _ h9 => h9) rfl dX12_orders_178 ?_
                                refine lv_icmp_ge (tgt := 218) hx hb dX12_orders_181 (by decide) (fun c_300 => ?_) (fun c_300 => ?_)
                                · skip
                                  rw [Int32.le_iff_toInt_le] at c_300
                                  obtain ⟨x_301, ex_301⟩ : ∃ y : Int32, y_121 + 1 = y := ⟨_, rfl⟩
                                  have hx_301 : x_301.toInt = y_121.toInt + 1 := by rw [← ex_301, ad_I (by rw [ti_1]; omega) (by rw [ti_1]; omega), ti_1]
                                  have bx_301 : (1 ≤ x_301.toInt ∧ x_301.toInt ≤ 72) := by constructor <;> omega
                                  refine lv_iinc (v := x_301) (lv' := [(4, .int x_301), (5, .int y_295), (3, .int x_99), (0, .ref o0), (1, .int p1), (2, .int p2)]) hx hb dX12_orders_218 hl (k := 1) rfl ex_301 (by decide) rfl (fun ls hl => ?_)
                                  refine lv_goto (tgt := 122) hx hb dX12_orders_221 (by decide) ?_
                                  exact ih_hloop_120 x_301 (by constructor <;> omega) f_297 hG _ _ hP hS hD hfr0 hrA12 hfA12 hfo_298 hTc_278 v_283 (by rw [hfo_299]; rfl) (by omega) (by omega) (by omega) ls (lv_sub hl [0, 2, 3, 4, 5] rfl)
                                · skip
                                  rw [Int32.le_iff_toInt_le] at c_300
                                  refine lv_aload_n hx hb dX12_orders_184 rfl (lv_at hl 3 rfl) ?_
                                  refine tk_getP (D := (dC, dI)) (ci := 12) (v := .ref a_32) (C := RX12) (T := TX12) (N := 56) hx hb hU inlX12 hown hK hP mo0 hfo_299 rfl 31 (by decide) (hU _ wd_185) (fun _ h9 => h9) rfl dX12_orders_185 ?_
                                  refine lv_iload hx hb dX12_orders_188 (lv_at hl 0 rfl) ?_
                                  obtain ⟨g_303, hfo_302, hbg_303⟩ := un_593 (hG _ ma_32) ka_32
                                  refine tk_ildP hx hb hK hP 0 ma_32 hfo_302 rfl (vp_in_iff.mpr (by constructor <;> omega)) dX12_orders_190 ?_
                                  refine lv_topi (fun x_304 ex_304 => ?_)
                                  have bx_304 : (0 ≤ x_304.toInt ∧ x_304.toInt ≤ 6560) := by rw [ex_304]; exact hbg_303 _
                                  refine lv_bipush (v := 90) hx hb dX12_orders_191 (by decide) ?_
                                  have hcut_310 : ∀ (f_306 : Nat → va_E), GI (okc cI cL cZ cR cG cH L kd) kd L f_306 → ∀ (H : Heap) (locs : List Loc), va_P (dC, dI) vwCl (va_pl L f_306) H → va_S (fun q => q ∈ L) s.heap H locs → va_D (fun q => q ∈ L) (va_pl L f_306) → (∀ b, kd b ≠ 12 → kd b ≠ 579 → kd b ≠ 581 → kd b ≠ 583 → kd b ≠ 585 → kd b ≠ 587 → kd b ≠ 588 → kd b ≠ 589 → kd b ≠ 590 → kd b ≠ 591 → kd b ≠ 592 → kd b ≠ 593 → kd b ≠ 597 → kd b ≠ 598 → kd b ≠ 599 → kd b ≠ 603 → kd b ≠ 604 → kd b ≠ 606 → kd b ≠ 607 → kd b ≠ 608 → kd b ≠ 609 → kd b ≠ 610 → f_306 b = f b) → (∀ b, kd b = 12 → ∀ j, fldR (f_306 b) j = fldR (f b) j) → (∀ b, kd b = 12 → ∀ j, j ≠ 23 → j ≠ 25 → j ≠ 27 → j ≠ 29 → j ≠ 32 → j ≠ 33 → j ≠ 43 → j ≠ 53 → j ≠ 54 → fldI (f_306 b) j = fldI (f b) j) → (f_306 a_1 = .inl (cI, 1560, .inl g_60)) → (f_306 o0 = .inr (12, [.ref a_1, .ref a_2, .ref a_3, .int v_4, .ref a_5, .int v_6, .int v_7, .int v_8, .int v_9, .int v_10, .int v_11, .int v_12, .int v_13, .int v_14, .int v_15, .ref a_16, .ref a_17, .ref a_18, .ref a_19, .ref a_20, .ref a_21, .ref a_22, .ref a_23, .int v_268, .int v_25, .int v_281, .int v_27, .int v_282, .ref a_29, .int v_283, .ref a_31, .ref a_32, .int v_284, .int v_285, .ref a_35, .int v_36, .ref a_37, .ref a_38, .int v_39, .int v_40, .ref a_41, .ref a_42, .ref a_43, .int v_131, .ref a_45, .ref a_46, .ref a_47, .ref a_48, .ref a_49, .ref a_50, .ref a_51, .ref a_52, .ref a_53, .int v_132, .int v_133, .ref a_56])) → (f_306 a_32 = .inl (cI, 6561, .inl g_303)) → srel kd 592 f_306 o0 → ∀ (ls : Array Slot), lv_has ls 6 [(5, .int y_295), (4, .int y_121), (3, .int x_99), (0, .ref o0), (1, .int p1), (2, .int p2)] → W p l e (headSpec (wU yX12_orders cX12_orders 6 (some .int)) { frames := 24, cells := 0, slots := 0, locals := 676 }).room s m [.ref o0, .int p1, .int p2].toArray below meth c H locs 0 0 (MQ below (va_Qi (fun (r : Int32) (f9 : Nat → va_E) => GI (okc cI cL cZ cR cG cH L kd) kd L f9 ∧ ((-2147483648) ≤ r.toInt ∧ r.toInt ≤ 2147483647) ∧ (∀ b, kd b ≠ 12 → kd b ≠ 579 → kd b ≠ 581 → kd b ≠ 583 → kd b ≠ 585 → kd b ≠ 587 → kd b ≠ 588 → kd b ≠ 589 → kd b ≠ 590 → kd b ≠ 591 → kd b ≠ 592 → kd b ≠ 593 → kd b ≠ 597 → kd b ≠ 598 → kd b ≠ 599 → kd b ≠ 603 → kd b ≠ 604 → kd b ≠ 606 → kd b ≠ 607 → kd b ≠ 608 → kd b ≠ 609 → kd b ≠ 610 → f9 b = f b) ∧ (∀ b, kd b = 12 → ∀ j, fldR (f9 b) j = fldR (f b) j) ∧ (∀ b, kd b = 12 → ∀ j, j ≠ 23 → j ≠ 25 → j ≠ 27 → j ≠ 29 → j ≠ 32 → j ≠ 33 → j ≠ 43 → j ≠ 53 → j ≠ 54 → fldI (f9 b) j = fldI (f b) j) ∧ (∀ (w29 z29 : Int32), fldI (f o0) 29 = some w29 → fldI (f9 o0) 29 = some z29 → z29.toInt = w29.toInt) ∧ (srel kd 592 f9 o0)) (qP (dC, dI) cI cL cZ cR cG cH L) (fun q => q ∈ L)) [.ref o0, .int p1, .int p2].toArray s 0 0 (fun q => q ∈ L)) (F0 m 212 ls []) := by
                                    intro f_306 hG H locs hP hS hD hfr0 hrA12 hfA12 hfo_307 hfo_308 hfo_309 hTc_278 ls hl
                                    obtain ⟨x_311, ex_311⟩ : ∃ y : Int32, y_295 + 1 = y := ⟨_, rfl⟩
                                    have hx_311 : x_311.toInt = y_295.toInt + 1 := by rw [← ex_311, ad_I (by rw [ti_1]; omega) (by rw [ti_1]; omega), ti_1]
                                    have bx_311 : (1 ≤ x_311.toInt ∧ x_311.toInt ≤ 6561) := by constructor <;> omega
                                    refine lv_iinc (v := x_311) (lv' := [(5, .int x_311), (4, .int y_121), (3, .int x_99), (0, .ref o0), (1, .int p1), (2, .int p2)]) hx hb dX12_orders_212 hl (k := 0) rfl ex_311 (by decide) rfl (fun ls hl => ?_)
                                    refine lv_goto (tgt := 175) hx hb dX12_orders_215 (by decide) ?_
                                    exact ih_hloop_294 x_311 (by constructor <;> omega) f_306 hG _ _ hP hS hD hfr0 hrA12 hfA12 hfo_307 hfo_308 hTc_278 (by omega) ls (lv_sub hl [0, 1, 2, 3, 4, 5] rfl)
                                  refine lv_icmp_ge (tgt := 212) hx hb dX12_orders_193 (by decide) (fun c_312 => ?_) (fun c_312 => ?_)
                                  · skip
                                    rw [Int32.le_iff_toInt_le, ti_90] at c_312
                                    exact hcut_310 f_297 hG _ _ hP hS hD hfr0 hrA12 hfA12 hfo_298 hfo_299 hfo_302 hTc_278 ls (lv_sub hl [0, 1, 2, 3, 4, 5] rfl)
                                  · skip
                                    rw [Int32.le_iff_toInt_le, ti_90] at c_312
                                    refine lv_aload_n hx hb dX12_orders_196 rfl (lv_at hl 3 rfl) ?_
                                    refine tk_getP (D := (dC, dI)) (ci := 12) (v := .ref a_49) (C := RX12) (T := TX12) (N := 56) hx hb hU inlX12 hown hK hP mo0 hfo_299 rfl 48 (by decide) (hU _ wd_199) (fun _ h9 => h9) rfl dX12_orders_197 ?_
                                    refine lv_iload hx hb dX12_orders_200 (lv_at hl 1 rfl) ?_
                                    obtain ⟨g_314, hfo_313, hbg_314⟩ := un_605 (hG _ ma_49) ka_49
                                    obtain ⟨a_315, hga_315, ma_315, ka_315⟩ := hbg_314 (Int32.toNatClampNeg y_121) (in_lt (vp_in_iff.mpr (by constructor <;> omega)))
                                    refine tk_aldA hx hb hK hP 5 ma_49 hfo_313 rfl (vp_in_iff.mpr (by constructor <;> omega)) hga_315 dX12_orders_202 ?_
                                    refine lv_aload_n hx hb dX12_orders_203 rfl (lv_at hl 3 rfl) ?_
                                    refine tk_getP (D := (dC, dI)) (ci := 12) (v := .ref a_32) (C := RX12) (T := TX12) (N := 56) hx hb hU inlX12 hown hK hP mo0 hfo_299 rfl 31 (by decide) (hU _ wd_185) (fun _ h9 => h9) rfl dX12_orders_204 ?_
                                    refine lv_iload hx hb dX12_orders_207 (lv_at hl 0 rfl) ?_
                                    refine tk_ildP hx hb hK hP 0 ma_32 hfo_302 rfl (vp_in_iff.mpr (by constructor <;> omega)) dX12_orders_209 ?_
                                    refine tk_topi (y := x_304) ex_304.symm ?_
                                    refine lv_iconst (v := 1) hx hb dX12_orders_210 (by decide) ?_
                                    obtain ⟨g_317, hfo_316, hbg_317⟩ := un_604 (hG _ ma_315) ka_315
                                    refine tk_zstP hx hb hK hP hD hS 2 ma_315 hfo_316 rfl (vp_in_iff.mpr (by constructor <;> omega)) (bt_n (by decide)) dX12_orders_211 (fun H locs hP hD hS => ?_)
                                    obtain ⟨f_319, ef_319⟩ : ∃ y : Nat → va_E, y = va_up f_297 a_315 (.inl (cZ, 90, .inl (upd g_317 (Int32.toNatClampNeg x_304) 1))) := ⟨_, rfl⟩
                                    have hP : va_P (dC, dI) vwCl (va_pl L f_319) H := by rw [ef_319]; exact hP
                                    have hD : va_D (fun q => q ∈ L) (va_pl L f_319) := by rw [ef_319]; exact hD
                                    have hG : GI (okc cI cL cZ cR cG cH L kd) kd L f_319 := by rw [ef_319]; exact hG.set a_315 (mk_604 ka_315 ⟨_, rfl, okI_up hbg_317 (by decide) _⟩)
                                    have hfo_320 : f_319 a_1 = .inl (cI, 1560, .inl g_60) := by rw [ef_319, up_ne (kd_ne ka_315 ka_1 (by decide))]; exact hfo_298
                                    have hfo_321 : f_319 o0 = .inr (12, [.ref a_1, .ref a_2, .ref a_3, .int v_4, .ref a_5, .int v_6, .int v_7, .int v_8, .int v_9, .int v_10, .int v_11, .int v_12, .int v_13, .int v_14, .int v_15, .ref a_16, .ref a_17, .ref a_18, .ref a_19, .ref a_20, .ref a_21, .ref a_22, .ref a_23, .int v_268, .int v_25, .int v_281, .int v_27, .int v_282, .ref a_29, .int v_283, .ref a_31, .ref a_32, .int v_284, .int v_285, .ref a_35, .int v_36, .ref a_37, .ref a_38, .int v_39, .int v_40, .ref a_41, .ref a_42, .ref a_43, .int v_131, .ref a_45, .ref a_46, .ref a_47, .ref a_48, .ref a_49, .ref a_50, .ref a_51, .ref a_52, .ref a_53, .int v_132, .int v_133, .ref a_56]) := by rw [ef_319, up_ne (kd_ne ka_315 ko0 (by decide))]; exact hfo_299
                                    have hfo_322 : f_319 a_32 = .inl (cI, 6561, .inl g_303) := by rw [ef_319, up_ne (kd_ne ka_315 ka_32 (by decide))]; exact hfo_302
                                    have hfo_323 : f_319 a_49 = .inl (cH, 72, .inr (.inr (.inr (.inr g_314)))) := by rw [ef_319, up_ne (kd_ne ka_315 ka_49 (by decide))]; exact hfo_313
                                    have hfr0 : ∀ b, kd b ≠ 12 → kd b ≠ 579 → kd b ≠ 581 → kd b ≠ 583 → kd b ≠ 585 → kd b ≠ 587 → kd b ≠ 588 → kd b ≠ 589 → kd b ≠ 590 → kd b ≠ 591 → kd b ≠ 592 → kd b ≠ 593 → kd b ≠ 597 → kd b ≠ 598 → kd b ≠ 599 → kd b ≠ 603 → kd b ≠ 604 → kd b ≠ 606 → kd b ≠ 607 → kd b ≠ 608 → kd b ≠ 609 → kd b ≠ 610 → f_319 b = f b := fun b q12 q579 q581 q583 q585 q587 q588 q589 q590 q591 q592 q593 q597 q598 q599 q603 q604 q606 q607 q608 q609 q610 => (congrFun ef_319 b).trans ((up_ne (fun e9 => q604 (by rw [e9]; exact ka_315))).trans (hfr0 b q12 q579 q581 q583 q585 q587 q588 q589 q590 q591 q592 q593 q597 q598 q599 q603 q604 q606 q607 q608 q609 q610))
                                    have hrA12 : ∀ b, kd b = 12 → ∀ j, fldR (f_319 b) j = fldR (f b) j := fun b kb j => (congrArg (fun x => fldR x j) ((congrFun ef_319 b).trans (up_ne (kd_ne ka_315 kb (by decide))))).trans (hrA12 b kb j)
                                    have hfA12 : ∀ b, kd b = 12 → ∀ j, j ≠ 23 → j ≠ 25 → j ≠ 27 → j ≠ 29 → j ≠ 32 → j ≠ 33 → j ≠ 43 → j ≠ 53 → j ≠ 54 → fldI (f_319 b) j = fldI (f b) j := fun b kb j n23 n25 n27 n29 n32 n33 n43 n53 n54 => (congrArg (fun x => fldI x j) ((congrFun ef_319 b).trans (up_ne (kd_ne ka_315 kb (by decide))))).trans (hfA12 b kb j n23 n25 n27 n29 n32 n33 n43 n53 n54)
                                    have hTc_278 : srel kd 592 f_319 o0 := by rw [ef_319]; exact hTc_278.keep (fun b q => congrArg (fun x => fldR x 30) (up_ne (kd_ne ka_315 q (by decide)))) (fun b q => congrArg (fun x => fldI x 32) (up_ne (kd_ne ka_315 q (by decide)))) (fun b q => congrArg (fun x => fldI x 33) (up_ne (kd_ne ka_315 q (by decide)))) (fun b q => up_ne (kd_ne ka_315 q (by decide)))
                                    have hfo_324 : f_319 a_315 = .inl (cZ, 90, .inl (upd g_317 (Int32.toNatClampNeg x_304) 1)) := by rw [ef_319]; exact up_self
                                    exact hcut_310 f_319 hG _ _ hP hS hD hfr0 hrA12 hfA12 hfo_320 hfo_321 hfo_322 hTc_278 ls (lv_sub hl [0, 1, 2, 3, 4, 5] rfl)
                            exact hloop_294 6562 0 (by decide) f_273 hG _ _ hP hS hD hfr0 hrA12 hfA12 hfo_280 hfo_286 hTc_278 (by (try rw [ti_0]) <;> omega) ls hl
                          · skip
                            rw [Int32.le_iff_toInt_le, ti_90] at c_258
                            refine lv_aload_n hx hb dX12_orders_138 rfl (lv_at hl 3 rfl) ?_
                            refine tk_getP (D := (dC, dI)) (ci := 12) (v := .ref a_49) (C := RX12) (T := TX12) (N := 56) hx hb hU inlX12 hown hK hP mo0 hfo_257 rfl 48 (by decide) (hU _ wd_199) (fun _ h9 => h9) rfl dX12_orders_139 ?_
                            refine lv_iload hx hb dX12_orders_142 (lv_at hl 1 rfl) ?_
                            obtain ⟨g_326, hfo_325, hbg_326⟩ := un_605 (hG _ ma_49) ka_49
                            obtain ⟨a_327, hga_327, ma_327, ka_327⟩ := hbg_326 (Int32.toNatClampNeg y_121) (in_lt (vp_in_iff.mpr (by constructor <;> omega)))
                            refine tk_aldA hx hb hK hP 5 ma_49 hfo_325 rfl (vp_in_iff.mpr (by constructor <;> omega)) hga_327 dX12_orders_144 ?_
                            refine lv_iload hx hb dX12_orders_145 (lv_at hl 0 rfl) ?_
                            refine lv_iconst (v := 0) hx hb dX12_orders_147 (by decide) ?_
                            obtain ⟨g_329, hfo_328, hbg_329⟩ := un_604 (hG _ ma_327) ka_327
                            refine tk_zstP hx hb hK hP hD hS 2 ma_327 hfo_328 rfl (vp_in_iff.mpr (by constructor <;> omega)) (bt_n (by decide)) dX12_orders_148 (fun H locs hP hD hS => ?_)
                            obtain ⟨f_331, ef_331⟩ : ∃ y : Nat → va_E, y = va_up f_255 a_327 (.inl (cZ, 90, .inl (upd g_329 (Int32.toNatClampNeg y_253) 0))) := ⟨_, rfl⟩
                            have hP : va_P (dC, dI) vwCl (va_pl L f_331) H := by rw [ef_331]; exact hP
                            have hD : va_D (fun q => q ∈ L) (va_pl L f_331) := by rw [ef_331]; exact hD
                            have hG : GI (okc cI cL cZ cR cG cH L kd) kd L f_331 := by rw [ef_331]; exact hG.set a_327 (mk_604 ka_327 ⟨_, rfl, okI_up hbg_329 (by decide) _⟩)
                            have hfo_332 : f_331 a_1 = .inl (cI, 1560, .inl g_60) := by rw [ef_331, up_ne (kd_ne ka_327 ka_1 (by decide))]; exact hfo_256
                            have hfo_333 : f_331 o0 = .inr (12, [.ref a_1, .ref a_2, .ref a_3, .int v_4, .ref a_5, .int v_6, .int v_7, .int v_8, .int v_9, .int v_10, .int v_11, .int v_12, .int v_13, .int v_14, .int v_15, .ref a_16, .ref a_17, .ref a_18, .ref a_19, .ref a_20, .ref a_21, .ref a_22, .ref a_23, .int v_125, .int v_25, .int v_126, .int v_27, .int v_127, .ref a_29, .int v_128, .ref a_31, .ref a_32, .int v_129, .int v_130, .ref a_35, .int v_36, .ref a_37, .ref a_38, .int v_39, .int v_40, .ref a_41, .ref a_42, .ref a_43, .int v_131, .ref a_45, .ref a_46, .ref a_47, .ref a_48, .ref a_49, .ref a_50, .ref a_51, .ref a_52, .ref a_53, .int v_132, .int v_133, .ref a_56]) := by rw [ef_331, up_ne (kd_ne ka_327 ko0 (by decide))]; exact hfo_257
                            have hfo_334 : f_331 a_49 = .inl (cH, 72, .inr (.inr (.inr (.inr g_326)))) := by rw [ef_331, up_ne (kd_ne ka_327 ka_49 (by decide))]; exact hfo_325
                            have hfr0 : ∀ b, kd b ≠ 12 → kd b ≠ 579 → kd b ≠ 581 → kd b ≠ 583 → kd b ≠ 585 → kd b ≠ 587 → kd b ≠ 588 → kd b ≠ 589 → kd b ≠ 590 → kd b ≠ 591 → kd b ≠ 592 → kd b ≠ 593 → kd b ≠ 597 → kd b ≠ 598 → kd b ≠ 599 → kd b ≠ 603 → kd b ≠ 604 → kd b ≠ 606 → kd b ≠ 607 → kd b ≠ 608 → kd b ≠ 609 → kd b ≠ 610 → f_331 b = f b := fun b q12 q579 q581 q583 q585 q587 q588 q589 q590 q591 q592 q593 q597 q598 q599 q603 q604 q606 q607 q608 q609 q610 => (congrFun ef_331 b).trans ((up_ne (fun e9 => q604 (by rw [e9]; exact ka_327))).trans (hfr0 b q12 q579 q581 q583 q585 q587 q588 q589 q590 q591 q592 q593 q597 q598 q599 q603 q604 q606 q607 q608 q609 q610))
                            have hrA12 : ∀ b, kd b = 12 → ∀ j, fldR (f_331 b) j = fldR (f b) j := fun b kb j => (congrArg (fun x => fldR x j) ((congrFun ef_331 b).trans (up_ne (kd_ne ka_327 kb (by decide))))).trans (hrA12 b kb j)
                            have hfA12 : ∀ b, kd b = 12 → ∀ j, j ≠ 23 → j ≠ 25 → j ≠ 27 → j ≠ 29 → j ≠ 32 → j ≠ 33 → j ≠ 43 → j ≠ 53 → j ≠ 54 → fldI (f_331 b) j = fldI (f b) j := fun b kb j n23 n25 n27 n29 n32 n33 n43 n53 n54 => (congrArg (fun x => fldI x j) ((congrFun ef_331 b).trans (up_ne (kd_ne ka_327 kb (by decide))))).trans (hfA12 b kb j n23 n25 n27 n29 n32 n33 n43 n53 n54)
                            have hT0 : srel kd 592 f_331 o0 := by rw [ef_331]; exact hT0.keep (fun b q => congrArg (fun x => fldR x 30) (up_ne (kd_ne ka_327 q (by decide)))) (fun b q => congrArg (fun x => fldI x 32) (up_ne (kd_ne ka_327 q (by decide)))) (fun b q => congrArg (fun x => fldI x 33) (up_ne (kd_ne ka_327 q (by decide)))) (fun b q => up_ne (kd_ne ka_327 q (by decide)))
                            have hfo_335 : f_331 a_327 = .inl (cZ, 90, .inl (upd g_329 (Int32.toNatClampNeg y_253) 0)) := by rw [ef_331]; exact up_self
                            obtain ⟨x_336, ex_336⟩ : ∃ y : Int32, y_253 + 1 = y := ⟨_, rfl⟩
                            have hx_336 : x_336.toInt = y_253.toInt + 1 := by rw [← ex_336, ad_I (by rw [ti_1]; omega) (by rw [ti_1]; omega), ti_1]
                            have bx_336 : (1 ≤ x_336.toInt ∧ x_336.toInt ≤ 90) := by constructor <;> omega
                            refine lv_iinc (v := x_336) (lv' := [(5, .int x_336), (4, .int y_121), (3, .int x_99), (0, .ref o0), (1, .int p1), (2, .int p2)]) hx hb dX12_orders_149 hl (k := 0) rfl ex_336 (by decide) rfl (fun ls hl => ?_)
                            refine lv_goto (tgt := 131) hx hb dX12_orders_152 (by decide) ?_
                            exact ih_hloop_252 x_336 (by constructor <;> omega) f_331 hG _ _ hP hS hD hfr0 hrA12 hfA12 hfo_332 hfo_333 hT0 (by omega) ls (lv_sub hl [0, 1, 2, 3, 4, 5] rfl)
                      exact hloop_252 91 0 (by decide) f_123 hG _ _ hP hS hD hfr0 hrA12 hfA12 hfo_124 hfo_134 hT0 (by (try rw [ti_0]) <;> omega) ls hl
                exact hloop_120 73 0 (by decide) f_75 hG _ _ hP hS hD hfr0 hrA12 hfA12 hfo_76 hT0 v_80 (by rw [hfo_86]; rfl) (by (try rw [ti_0]) <;> omega) (by (try rw [ti_0]) <;> omega) (by (try rw [ti_0]) <;> omega) ls hl
              · skip
                rw [← Int32.toInt_inj, ti_1] at c_103
                refine lv_iload_n hx hb dX12_orders_117 rfl (lv_at hl 0 rfl) ?_
                exact W.iret (v := x_99) hx hb hr (fun t ht hW => ⟨⟨x_99, f_75, rfl, ⟨hG, (by constructor <;> omega), hfr0, hrA12, hfA12, (by intro w29 z29 e29 d29; rw [hfo_57] at e29; rw [hfo_86] at d29; obtain rfl := Option.some.inj e29; obtain rfl := Option.some.inj d29; omega), hT0⟩, by rw [ht]; exact hP, va_K.moved hW.alike hK, pl_in hD⟩, hS.F ht⟩) hS.2.2 dX12_orders_118
            · skip
              rw [← Int32.toInt_inj, ti_0] at c_98
              refine lv_iload_n hx hb dX12_orders_88 rfl (lv_at hl 3 rfl) ?_
              refine lv_bipush (v := 10) hx hb dX12_orders_89 (by decide) ?_
              refine lv_bipush (v := 9) hx hb dX12_orders_91 (by decide) ?_
              refine lv_aload_n hx hb dX12_orders_93 rfl (lv_at hl 1 rfl) ?_
              refine tk_getP (D := (dC, dI)) (ci := 12) (v := .int v_84) (C := RX12) (T := TX12) (N := 56) hx hb hU inlX12 hown hK hP mo0 hfo_86 rfl 53 (by decide) (hU _ wd_1241) (fun _ h9 => h9) rfl dX12_orders_94 ?_
              refine lv_iadd hx hb dX12_orders_97 ?_
              refine lv_topi (fun x_337 ex_337 => ?_)
              have hx_337 : x_337.toInt = 9 + v_84.toInt := by rw [ex_337, ad_I (by rw [ti_9]; omega) (by rw [ti_9]; omega), ti_9]
              have bx_337 : (9 ≤ x_337.toInt ∧ x_337.toInt ≤ 15) := by constructor <;> omega
              refine tk_SiP (As := [.int p2, .int 10, .int x_337]) (rest := []) (n := 3) hx hb hml hown hU hN hZ (s_X12_isIn l (dC, dI) cI cL cZ cR cG cH Z kd L f_75 hG p2 10 x_337) wd_227 wd_228 wd_5 wd_229 (by decide +kernel) ⟨Nat.le_of_ble_eq_true rfl, Nat.le_of_ble_eq_true rfl⟩ hK hP hD hS rfl hl.1 rfl (Nat.le_of_ble_eq_true rfl) dX12_orders_98 ⟨Nat.le_of_ble_eq_true rfl, Nat.le_of_ble_eq_true rfl⟩ (fun x_338 f_339 H locs hw hP hD hS => ?_)
              obtain ⟨rfl, bx_338, relx_338⟩ := hw
              try rw [ti_10] at relx_338
              refine lv_if_ne (tgt := 106) hx hb dX12_orders_101 (by decide) (fun c_341 => ?_) (fun c_341 => ?_)
              · skip
                rw [← Int32.toInt_inj, ti_0] at c_341
                refine lv_aload_n hx hb dX12_orders_106 rfl (lv_at hl 1 rfl) ?_
                refine lv_iload_n hx hb dX12_orders_107 rfl (lv_at hl 2 rfl) ?_
                refine tk_ViP (As := [.int p1]) (rest := []) (n := 1) hx hb hml hown hU hN hZ (s_X12_wordsUpTo_k12 l (dC, dI) cI cL cZ cR cG cH Z kd L f_75 hG o0 mo0 ko0 p1 (by constructor <;> omega)) wd_1169 wd_1170 wd_1171 wd_5 wd_1172 (by decide +kernel) ⟨Nat.le_of_ble_eq_true rfl, Nat.le_of_ble_eq_true rfl⟩ hK hP hD hS mo0 hfo_86 12 rfl rfl rfl hl.1 rfl (Nat.le_of_ble_eq_true rfl) dX12_orders_108 ⟨Nat.le_of_ble_eq_true rfl, Nat.le_of_ble_eq_true rfl⟩ (fun x_342 f_343 H locs hw hP hD hS => ?_)
                obtain ⟨rfl, bx_342, hxp_344⟩ := hw
                have hwu := hxp_344 a_1 g_60 (by rw [hfo_86]; rfl) hfo_76
                have hsq := lw_sq (L := (g_60 0).toInt) (hbg_60.1 0 (by decide) (by decide) (by decide))
                refine lv_istore_n (lv' := [(3, .int x_342), (0, .ref o0), (1, .int p1), (2, .int p2)]) hx hb dX12_orders_111 rfl hl (by decide) rfl (fun ls hl => ?_)
                have hL8 := hbg_60.1 0 (by decide) (by decide) (by decide)
                have hclx_342 : (0 ≤ x_342.toInt ∧ x_342.toInt ≤ 72) := by constructor <;> omega
                refine lv_iload_n hx hb dX12_orders_112 rfl (lv_at hl 3 rfl) ?_
                refine lv_iconst (v := 1) hx hb dX12_orders_113 (by decide) ?_
                refine lv_icmp_ne (tgt := 119) hx hb dX12_orders_114 (by decide) (fun c_346 => ?_) (fun c_346 => ?_)
                · skip
                  rw [← Int32.toInt_inj, ti_1] at c_346
                  refine lv_iconst (v := 0) hx hb dX12_orders_119 (by decide) ?_
                  refine lv_istore (lv' := [(4, .int 0), (3, .int x_342), (0, .ref o0), (1, .int p1), (2, .int p2)]) hx hb dX12_orders_120 hl (by decide) rfl (fun ls hl => ?_)
                  have hloop_363 : ∀ (n : Nat), ∀ (y_364 : Int32), (0 ≤ y_364.toInt ∧ y_364.toInt ≤ 72) → ∀ (f_366 : Nat → va_E), GI (okc cI cL cZ cR cG cH L kd) kd L f_366 → ∀ (H : Heap) (locs : List Loc), va_P (dC, dI) vwCl (va_pl L f_366) H → va_S (fun q => q ∈ L) s.heap H locs → va_D (fun q => q ∈ L) (va_pl L f_366) → (∀ b, kd b ≠ 12 → kd b ≠ 579 → kd b ≠ 581 → kd b ≠ 583 → kd b ≠ 585 → kd b ≠ 587 → kd b ≠ 588 → kd b ≠ 589 → kd b ≠ 590 → kd b ≠ 591 → kd b ≠ 592 → kd b ≠ 593 → kd b ≠ 597 → kd b ≠ 598 → kd b ≠ 599 → kd b ≠ 603 → kd b ≠ 604 → kd b ≠ 606 → kd b ≠ 607 → kd b ≠ 608 → kd b ≠ 609 → kd b ≠ 610 → f_366 b = f b) → (∀ b, kd b = 12 → ∀ j, fldR (f_366 b) j = fldR (f b) j) → (∀ b, kd b = 12 → ∀ j, j ≠ 23 → j ≠ 25 → j ≠ 27 → j ≠ 29 → j ≠ 32 → j ≠ 33 → j ≠ 43 → j ≠ 53 → j ≠ 54 → fldI (f_366 b) j = fldI (f b) j) → (f_366 a_1 = .inl (cI, 1560, .inl g_60)) → srel kd 592 f_366 o0 → ∀ (whloop_363_0_29 : Int32), fldI (f_366 o0) 29 = some whloop_363_0_29 → (whloop_363_0_29.toInt = v_30.toInt) → (0 ≤ whloop_363_0_29.toInt ∧ whloop_363_0_29.toInt ≤ 201) → 72 - y_364.toInt < (n : Int) → ∀ (ls : Array Slot), lv_has ls 6 [(4, .int y_364), (3, .int x_342), (0, .ref o0), (1, .int p1), (2, .int p2)] → W p l e (headSpec (wU yX12_orders cX12_orders 6 (some .int)) { frames := 24, cells := 0, slots := 0, locals := 676 }).room s m [.ref o0, .int p1, .int p2].toArray below meth c H locs 0 0 (MQ below (va_Qi (fun (r : Int32) (f9 : Nat → va_E) => GI (okc cI cL cZ cR cG cH L kd) kd L f9 ∧ ((-2147483648) ≤ r.toInt ∧ r.toInt ≤ 2147483647) ∧ (∀ b, kd b ≠ 12 → kd b ≠ 579 → kd b ≠ 581 → kd b ≠ 583 → kd b ≠ 585 → kd b ≠ 587 → kd b ≠ 588 → kd b ≠ 589 → kd b ≠ 590 → kd b ≠ 591 → kd b ≠ 592 → kd b ≠ 593 → kd b ≠ 597 → kd b ≠ 598 → kd b ≠ 599 → kd b ≠ 603 → kd b ≠ 604 → kd b ≠ 606 → kd b ≠ 607 → kd b ≠ 608 → kd b ≠ 609 → kd b ≠ 610 → f9 b = f b) ∧ (∀ b, kd b = 12 → ∀ j, fldR (f9 b) j = fldR (f b) j) ∧ (∀ b, kd b = 12 → ∀ j, j ≠ 23 → j ≠ 25 → j ≠ 27 → j ≠ 29 → j ≠ 32 → j ≠ 33 → j ≠ 43 → j ≠ 53 → j ≠ 54 → fldI (f9 b) j = fldI (f b) j) ∧ (∀ (w29 z29 : Int32), fldI (f o0) 29 = some w29 → fldI (f9 o0) 29 = some z29 → z29.toInt = w29.toInt) ∧ (srel kd 592 f9 o0)) (qP (dC, dI) cI cL cZ cR cG cH L) (fun q => q ∈ L)) [.ref o0, .int p1, .int p2].toArray s 0 0 (fun q => q ∈ L)) (F0 m 122 ls []) := by
                    intro n
                    induction n with
                    | zero => intro y_364 by_364 f_366 hG H locs hP hS hD hfr0 hrA12 hfA12 hfo_367 hT0 whloop_363_0_29 hghloop_363_0_29 hrelhloop_363_0 hrelhloop_363_1 hmuhloop_363 ls hl; exfalso; omega
                    | succ n ih_hloop_363 =>
                      intro y_364 by_364 f_366 hG H locs hP hS hD hfr0 hrA12 hfA12 hfo_367 hT0 whloop_363_0_29 hghloop_363_0_29 hrelhloop_363_0 hrelhloop_363_1 hmuhloop_363 ls hl
                      obtain ⟨v_368, v_369, v_370, v_371, v_372, v_373, v_374, v_375, v_376, hfo_377, fa_378⟩ := op12_23_25_27_29_32_33_43_53_54 hfo_57 (hG _ mo0) ko0 (hrA12 o0 ko0) (hfA12 o0 ko0)
                      have bv_368 : (0 ≤ v_368.toInt ∧ v_368.toInt ≤ 12) := fa12_23 fa_378
                      have bv_369 : (0 ≤ v_369.toInt ∧ v_369.toInt ≤ 4) := fa12_25 fa_378
                      have bv_370 : (0 ≤ v_370.toInt ∧ v_370.toInt ≤ 1) := fa12_27 fa_378
                      have bv_371 : (0 ≤ v_371.toInt ∧ v_371.toInt ≤ 201) := fa12_29 fa_378
                      have bv_372 : (0 ≤ v_372.toInt ∧ v_372.toInt ≤ 6561) := fa12_32 fa_378
                      have bv_373 : ((-2147483648) ≤ v_373.toInt ∧ v_373.toInt ≤ 2147483647) := ⟨i32_lo _, i32_hi _⟩
                      have bv_374 : (0 ≤ v_374.toInt ∧ v_374.toInt ≤ 8) := fa12_43 fa_378
                      have bv_375 : (0 ≤ v_375.toInt ∧ v_375.toInt ≤ 8) := fa12_53 fa_378
                      have bv_376 : ((-2147483648) ≤ v_376.toInt ∧ v_376.toInt ≤ 2147483647) := ⟨i32_lo _, i32_hi _⟩
                      obtain rfl : v_371 = whloop_363_0_29 := by rw [hfo_377] at hghloop_363_0_29; exact Option.some.inj hghloop_363_0_29
                      refine lv_iload hx hb dX12_orders_122 (lv_at hl 0 rfl) ?_
                      refine lv_iload_n hx hb dX12_orders_124 rfl (lv_at hl 1 rfl) ?_
                      refine lv_icmp_ge (tgt := 224) hx hb dX12_orders_125 (by decide) (fun c_379 => ?_) (fun c_379 => ?_)
                      · skip
                        rw [Int32.le_iff_toInt_le] at c_379
                        refine lv_aload_n hx hb dX12_orders_224 rfl (lv_at hl 2 rfl) ?_
                        refine tk_getP (D := (dC, dI)) (ci := 12) (v := .int v_374) (C := RX12) (T := TX12) (N := 56) hx hb hU inlX12 hown hK hP mo0 hfo_377 rfl 43 (by decide) (hU _ wd_572) (fun _ h9 => h9) rfl dX12_orders_225 ?_
                        refine lv_istore (lv' := [(4, .int v_374), (3, .int x_342), (0, .ref o0), (1, .int p1), (2, .int p2)]) hx hb dX12_orders_228 hl (by decide) rfl (fun ls hl => ?_)
                        refine lv_iconst (v := 0) hx hb dX12_orders_230 (by decide) ?_
                        refine lv_istore (lv' := [(5, .int 0), (4, .int v_374), (3, .int x_342), (0, .ref o0), (1, .int p1), (2, .int p2)]) hx hb dX12_orders_231 hl (by decide) rfl (fun ls hl => ?_)
                        have hloop_398 : ∀ (n : Nat), ∀ (y_399 : Int32), (0 ≤ y_399.toInt ∧ y_399.toInt ≤ 16) → ∀ (f_401 : Nat → va_E), GI (okc cI cL cZ cR cG cH L kd) kd L f_401 → ∀ (H : Heap) (locs : List Loc), va_P (dC, dI) vwCl (va_pl L f_401) H → va_S (fun q => q ∈ L) s.heap H locs → va_D (fun q => q ∈ L) (va_pl L f_401) → (∀ b, kd b ≠ 12 → kd b ≠ 579 → kd b ≠ 581 → kd b ≠ 583 → kd b ≠ 585 → kd b ≠ 587 → kd b ≠ 588 → kd b ≠ 589 → kd b ≠ 590 → kd b ≠ 591 → kd b ≠ 592 → kd b ≠ 593 → kd b ≠ 597 → kd b ≠ 598 → kd b ≠ 599 → kd b ≠ 603 → kd b ≠ 604 → kd b ≠ 606 → kd b ≠ 607 → kd b ≠ 608 → kd b ≠ 609 → kd b ≠ 610 → f_401 b = f b) → (∀ b, kd b = 12 → ∀ j, fldR (f_401 b) j = fldR (f b) j) → (∀ b, kd b = 12 → ∀ j, j ≠ 23 → j ≠ 25 → j ≠ 27 → j ≠ 29 → j ≠ 32 → j ≠ 33 → j ≠ 43 → j ≠ 53 → j ≠ 54 → fldI (f_401 b) j = fldI (f b) j) → (f_401 a_1 = .inl (cI, 1560, .inl g_60)) → (f_401 o0 = .inr (12, [.ref a_1, .ref a_2, .ref a_3, .int v_4, .ref a_5, .int v_6, .int v_7, .int v_8, .int v_9, .int v_10, .int v_11, .int v_12, .int v_13, .int v_14, .int v_15, .ref a_16, .ref a_17, .ref a_18, .ref a_19, .ref a_20, .ref a_21, .ref a_22, .ref a_23, .int v_368, .int v_25, .int v_369, .int v_27, .int v_370, .ref a_29, .int v_371, .ref a_31, .ref a_32, .int v_372, .int v_373, .ref a_35, .int v_36, .ref a_37, .ref a_38, .int v_39, .int v_40, .ref a_41, .ref a_42, .ref a_43, .int v_374, .ref a_45, .ref a_46, .ref a_47, .ref a_48, .ref a_49, .ref a_50, .ref a_51, .ref a_52, .ref a_53, .int v_375, .int v_376, .ref a_56])) → srel kd 592 f_401 o0 → 16 - y_399.toInt < (n : Int) → ∀ (ls : Array Slot), lv_has ls 6 [(5, .int y_399), (4, .int v_374), (3, .int x_342), (0, .ref o0), (1, .int p1), (2, .int p2)] → W p l e (headSpec (wU yX12_orders cX12_orders 6 (some .int)) { frames := 24, cells := 0, slots := 0, locals := 676 }).room s m [.ref o0, .int p1, .int p2].toArray below meth c H locs 0 0 (MQ below (va_Qi (fun (r : Int32) (f9 : Nat → va_E) => GI (okc cI cL cZ cR cG cH L kd) kd L f9 ∧ ((-2147483648) ≤ r.toInt ∧ r.toInt ≤ 2147483647) ∧ (∀ b, kd b ≠ 12 → kd b ≠ 579 → kd b ≠ 581 → kd b ≠ 583 → kd b ≠ 585 → kd b ≠ 587 → kd b ≠ 588 → kd b ≠ 589 → kd b ≠ 590 → kd b ≠ 591 → kd b ≠ 592 → kd b ≠ 593 → kd b ≠ 597 → kd b ≠ 598 → kd b ≠ 599 → kd b ≠ 603 → kd b ≠ 604 → kd b ≠ 606 → kd b ≠ 607 → kd b ≠ 608 → kd b ≠ 609 → kd b ≠ 610 → f9 b = f b) ∧ (∀ b, kd b = 12 → ∀ j, fldR (f9 b) j = fldR (f b) j) ∧ (∀ b, kd b = 12 → ∀ j, j ≠ 23 → j ≠ 25 → j ≠ 27 → j ≠ 29 → j ≠ 32 → j ≠ 33 → j ≠ 43 → j ≠ 53 → j ≠ 54 → fldI (f9 b) j = fldI (f b) j) ∧ (∀ (w29 z29 : Int32), fldI (f o0) 29 = some w29 → fldI (f9 o0) 29 = some z29 → z29.toInt = w29.toInt) ∧ (srel kd 592 f9 o0)) (qP (dC, dI) cI cL cZ cR cG cH L) (fun q => q ∈ L)) [.ref o0, .int p1, .int p2].toArray s 0 0 (fun q => q ∈ L)) (F0 m 233 ls []) := by
                          intro n
                          induction n with
                          | zero => intro y_399 by_399 f_401 hG H locs hP hS hD hfr0 hrA12 hfA12 hfo_402 hfo_403 hT0 hmuhloop_398 ls hl; exfalso; omega
                          | succ n ih_hloop_398 =>
                            intro y_399 by_399 f_401 hG H locs hP hS hD hfr0 hrA12 hfA12 hfo_402 hfo_403 hT0 hmuhloop_398 ls hl
                            refine lv_iload hx hb dX12_orders_233 (lv_at hl 0 rfl) ?_
                            refine lv_bipush (v := 16) hx hb dX12_orders_235 (by decide) ?_
                            refine lv_icmp_ge (tgt := 260) hx hb dX12_orders_237 (by decide) (fun c_404 => ?_) (fun c_404 => ?_)
                            · skip
                              rw [Int32.le_iff_toInt_le, ti_16] at c_404
                              refine lv_aload_n hx hb dX12_orders_260 rfl (lv_at hl 3 rfl) ?_
                              refine lv_iconst (v := (-1)) hx hb dX12_orders_261 (by decide) ?_
                              refine tk_putP (D := (dC, dI)) (ci := 12) (v := .int (-1)) (ty := .int) (C := RX12) (T := TX12) (N := 56) hx hb hU inlX12 tyX12 tyX12_ok nmX12 hown hK hP hD hS mo0 hfo_403 rfl 54 (by decide) (hU _ wd_1242) (fun _ h9 => h9) rfl (by decide +kernel) rfl rfl (Nat.le_of_ble_eq_true rfl) dX12_orders_262 (fun H locs hP hD hS => ?_)
                              have fa_405 := fu12_54 (y := (-1)) fa_378
                              obtain ⟨f_407, ef_407⟩ : ∃ y : Nat → va_E, y = va_up f_401 o0 (.inr (12, [.ref a_1, .ref a_2, .ref a_3, .int v_4, .ref a_5, .int v_6, .int v_7, .int v_8, .int v_9, .int v_10, .int v_11, .int v_12, .int v_13, .int v_14, .int v_15, .ref a_16, .ref a_17, .ref a_18, .ref a_19, .ref a_20, .ref a_21, .ref a_22, .ref a_23, .int v_368, .int v_25, .int v_369, .int v_27, .int v_370, .ref a_29, .int v_371, .ref a_31, .ref a_32, .int v_372, .int v_373, .ref a_35, .int v_36, .ref a_37, .ref a_38, .int v_39, .int v_40, .ref a_41, .ref a_42, .ref a_43, .int v_374, .ref a_45, .ref a_46, .ref a_47, .ref a_48, .ref a_49, .ref a_50, .ref a_51, .ref a_52, .ref a_53, .int v_375, .int (-1), .ref a_56])) := ⟨_, rfl⟩
                              have hP : va_P (dC, dI) vwCl (va_pl L f_407) H := by rw [ef_407]; exact hP
                              have hD : va_D (fun q => q ∈ L) (va_pl L f_407) := by rw [ef_407]; exact hD
                              have hG : GI (okc cI cL cZ cR cG cH L kd) kd L f_407 := by rw [ef_407]; exact hG.set o0 (mk_12 ko0 (fo12 fa_405))
                              have hfo_408 : f_407 a_1 = .inl (cI, 1560, .inl g_60) := by rw [ef_407, up_ne (kd_ne ko0 ka_1 (by decide))]; exact hfo_402
                              have hfr0 : ∀ b, kd b ≠ 12 → kd b ≠ 579 → kd b ≠ 581 → kd b ≠ 583 → kd b ≠ 585 → kd b ≠ 587 → kd b ≠ 588 → kd b ≠ 589 → kd b ≠ 590 → kd b ≠ 591 → kd b ≠ 592 → kd b ≠ 593 → kd b ≠ 597 → kd b ≠ 598 → kd b ≠ 599 → kd b ≠ 603 → kd b ≠ 604 → kd b ≠ 606 → kd b ≠ 607 → kd b ≠ 608 → kd b ≠ 609 → kd b ≠ 610 → f_407 b = f b := fun b q12 q579 q581 q583 q585 q587 q588 q589 q590 q591 q592 q593 q597 q598 q599 q603 q604 q606 q607 q608 q609 q610 => (congrFun ef_407 b).trans ((up_ne (fun e9 => q12 (by rw [e9]; exact ko0))).trans (hfr0 b q12 q579 q581 q583 q585 q587 q588 q589 q590 q591 q592 q593 q597 q598 q599 q603 q604 q606 q607 q608 q609 q610))
                              have hrA12 : ∀ b, kd b = 12 → ∀ j, fldR (f_407 b) j = fldR (f b) j := fun b kb j => ((congrArg (fun x => fldR x j) (congrFun ef_407 b)).trans (fra_up (fun j => by rw [hfo_403]; exact fr_set (k := 54) rfl rfl) j b)).trans (hrA12 b kb j)
                              have hfA12 : ∀ b, kd b = 12 → ∀ j, j ≠ 23 → j ≠ 25 → j ≠ 27 → j ≠ 29 → j ≠ 32 → j ≠ 33 → j ≠ 43 → j ≠ 53 → j ≠ 54 → fldI (f_407 b) j = fldI (f b) j := fun b kb j n23 n25 n27 n29 n32 n33 n43 n53 n54 => ((congrArg (fun x => fldI x j) (congrFun ef_407 b)).trans (fia_up (fun h9 => by rw [hfo_403]; exact fi_set (k := 54) rfl h9) n54 b)).trans (hfA12 b kb j n23 n25 n27 n29 n32 n33 n43 n53 n54)
                              have hT0 : srel kd 592 f_407 o0 := by rw [ef_407]; exact hT0.keep (fun b _ => fr_up (by rw [hfo_403]; rfl) b) (fun b _ => fk_up (by rw [hfo_403]; rfl) b) (fun b _ => fk_up (by rw [hfo_403]; rfl) b) (fun b q => up_ne (kd_ne ko0 q (by decide)))
                              have hfo_409 : f_407 o0 = .inr (12, [.ref a_1, .ref a_2, .ref a_3, .int v_4, .ref a_5, .int v_6, .int v_7, .int v_8, .int v_9, .int v_10, .int v_11, .int v_12, .int v_13, .int v_14, .int v_15, .ref a_16, .ref a_17, .ref a_18, .ref a_19, .ref a_20, .ref a_21, .ref a_22, .ref a_23, .int v_368, .int v_25, .int v_369, .int v_27, .int v_370, .ref a_29, .int v_371, .ref a_31, .ref a_32, .int v_372, .int v_373, .ref a_35, .int v_36, .ref a_37, .ref a_38, .int v_39, .int v_40, .ref a_41, .ref a_42, .ref a_43, .int v_374, .ref a_45, .ref a_46, .ref a_47, .ref a_48, .ref a_49, .ref a_50, .ref a_51, .ref a_52, .ref a_53, .int v_375, .int (-1), .ref a_56]) := by rw [ef_407]; exact up_self
                              refine lv_aload_n hx hb dX12_orders_265 rfl (lv_at hl 3 rfl) ?_
                              refine lv_iconst (v := 0) hx hb dX12_orders_266 (by decide) ?_
                              refine lv_iload_n hx hb dX12_orders_267 rfl (lv_at hl 2 rfl) ?_
                              refine tk_VvP (As := [.int 0, .int x_342]) (rest := []) (n := 2) hx hb hml hown hU hN hZ (s_X12_triesOrders_k12 l (dC, dI) cI cL cZ cR cG cH Z kd L 9 f_407 hG o0 mo0 ko0 0 (by decide) x_342 (by constructor <;> omega) (by intro w53 e53; rw [hfo_409] at e53; obtain rfl := Option.some.inj e53; (try rw [ti_0]) <;> omega) (fun b9 g9 h1 h2 => by rw [hfo_409] at h1; obtain rfl := Option.some.inj h1; rw [hfo_408] at h2; cases h2; omega) (by (try rw [ti_0]) <;> omega)) wd_1247 wd_1248 wd_1249 wd_5 wd_1250 (by decide +kernel) ⟨Nat.le_of_ble_eq_true rfl, Nat.le_of_ble_eq_true rfl⟩ hK hP hD hS mo0 hfo_409 12 rfl rfl rfl hl.1 rfl (Nat.le_of_ble_eq_true rfl) dX12_orders_268 ⟨Nat.le_of_ble_eq_true rfl, Nat.le_of_ble_eq_true rfl⟩ (fun f_411 H locs hw hP hD hS => ?_)
                              obtain ⟨hG, hkc_412, hra_413, hfa_414⟩ := hw
                              have hfo_416 : f_411 a_1 = .inl (cI, 1560, .inl g_60) := by rw [hkc_412 a_1 (by rw [ka_1]; decide) (by rw [ka_1]; decide) (by rw [ka_1]; decide) (by rw [ka_1]; decide) (by rw [ka_1]; decide) (by rw [ka_1]; decide) (by rw [ka_1]; decide) (by rw [ka_1]; decide)]; exact hfo_408
                              have hfr0 : ∀ b, kd b ≠ 12 → kd b ≠ 579 → kd b ≠ 581 → kd b ≠ 583 → kd b ≠ 585 → kd b ≠ 587 → kd b ≠ 588 → kd b ≠ 589 → kd b ≠ 590 → kd b ≠ 591 → kd b ≠ 592 → kd b ≠ 593 → kd b ≠ 597 → kd b ≠ 598 → kd b ≠ 599 → kd b ≠ 603 → kd b ≠ 604 → kd b ≠ 606 → kd b ≠ 607 → kd b ≠ 608 → kd b ≠ 609 → kd b ≠ 610 → f_411 b = f b := fun b q12 q579 q581 q583 q585 q587 q588 q589 q590 q591 q592 q593 q597 q598 q599 q603 q604 q606 q607 q608 q609 q610 => (hkc_412 b q12 q589 q597 q598 q599 q607 q608 q609).trans (hfr0 b q12 q579 q581 q583 q585 q587 q588 q589 q590 q591 q592 q593 q597 q598 q599 q603 q604 q606 q607 q608 q609 q610)
                              have hrA12 : ∀ b, kd b = 12 → ∀ j, fldR (f_411 b) j = fldR (f b) j := fun b kb j => (hra_413 b kb j).trans (hrA12 b kb j)
                              have hfA12 : ∀ b, kd b = 12 → ∀ j, j ≠ 23 → j ≠ 25 → j ≠ 27 → j ≠ 29 → j ≠ 32 → j ≠ 33 → j ≠ 43 → j ≠ 53 → j ≠ 54 → fldI (f_411 b) j = fldI (f b) j := fun b kb j n23 n25 n27 n29 n32 n33 n43 n53 n54 => (hfa_414 b kb j n23 n43 n54).trans (hfA12 b kb j n23 n25 n27 n29 n32 n33 n43 n53 n54)
                              have hT0 : srel kd 592 f_411 o0 := hT0.keep (fun b q => hra_413 b q 30) (fun b q => hfa_414 b q 32 (by decide) (by decide) (by decide)) (fun b q => hfa_414 b q 33 (by decide) (by decide) (by decide)) (fun b q => hkc_412 b (by rw [q]; decide) (by rw [q]; decide) (by rw [q]; decide) (by rw [q]; decide) (by rw [q]; decide) (by rw [q]; decide) (by rw [q]; decide) (by rw [q]; decide))
                              obtain ⟨v_417, v_418, v_419, hfo_420, fa_421⟩ := op12_23_43_54 hfo_409 (hG _ mo0) ko0 (hra_413 o0 ko0) (hfa_414 o0 ko0)
                              have bv_417 : (0 ≤ v_417.toInt ∧ v_417.toInt ≤ 12) := fa12_23 fa_421
                              have bv_418 : (0 ≤ v_418.toInt ∧ v_418.toInt ≤ 8) := fa12_43 fa_421
                              have bv_419 : ((-2147483648) ≤ v_419.toInt ∧ v_419.toInt ≤ 2147483647) := ⟨i32_lo _, i32_hi _⟩
                              refine lv_aload_n hx hb dX12_orders_271 rfl (lv_at hl 3 rfl) ?_
                              refine lv_iload hx hb dX12_orders_272 (lv_at hl 1 rfl) ?_
                              refine tk_putP (D := (dC, dI)) (ci := 12) (v := .int v_374) (ty := .int) (C := RX12) (T := TX12) (N := 56) hx hb hU inlX12 tyX12 tyX12_ok nmX12 hown hK hP hD hS mo0 hfo_420 rfl 43 (by decide) (hU _ wd_572) (fun _ h9 => h9) rfl (by decide +kernel) rfl rfl (Nat.le_of_ble_eq_true rfl) dX12_orders_274 (fun H locs hP hD hS => ?_)
                              have fa_422 := fu12_43 (y := v_374) fa_421 (by constructor <;> omega)
                              obtain ⟨f_424, ef_424⟩ : ∃ y : Nat → va_E, y = va_up f_411 o0 (.inr (12, [.ref a_1, .ref a_2, .ref a_3, .int v_4, .ref a_5, .int v_6, .int v_7, .int v_8, .int v_9, .int v_10, .int v_11, .int v_12, .int v_13, .int v_14, .int v_15, .ref a_16, .ref a_17, .ref a_18, .ref a_19, .ref a_20, .ref a_21, .ref a_22, .ref a_23, .int v_417, .int v_25, .int v_369, .int v_27, .int v_370, .ref a_29, .int v_371, .ref a_31, .ref a_32, .int v_372, .int v_373, .ref a_35, .int v_36, .ref a_37, .ref a_38, .int v_39, .int v_40, .ref a_41, .ref a_42, .ref a_43, .int v_374, .ref a_45, .ref a_46, .ref a_47, .ref a_48, .ref a_49, .ref a_50, .ref a_51, .ref a_52, .ref a_53, .int v_375, .int v_419, .ref a_56])) := ⟨_, rfl⟩
                              have hP : va_P (dC, dI) vwCl (va_pl L f_424) H := by rw [ef_424]; exact hP
                              have hD : va_D (fun q => q ∈ L) (va_pl L f_424) := by rw [ef_424]; exact hD
                              have hG : GI (okc cI cL cZ cR cG cH L kd) kd L f_424 := by rw [ef_424]; exact hG.set o0 (mk_12 ko0 (fo12 fa_422))
                              have hfo_425 : f_424 a_1 = .inl (cI, 1560, .inl g_60) := by rw [ef_424, up_ne (kd_ne ko0 ka_1 (by decide))]; exact hfo_416
                              have hfr0 : ∀ b, kd b ≠ 12 → kd b ≠ 579 → kd b ≠ 581 → kd b ≠ 583 → kd b ≠ 585 → kd b ≠ 587 → kd b ≠ 588 → kd b ≠ 589 → kd b ≠ 590 → kd b ≠ 591 → kd b ≠ 592 → kd b ≠ 593 → kd b ≠ 597 → kd b ≠ 598 → kd b ≠ 599 → kd b ≠ 603 → kd b ≠ 604 → kd b ≠ 606 → kd b ≠ 607 → kd b ≠ 608 → kd b ≠ 609 → kd b ≠ 610 → f_424 b = f b := fun b q12 q579 q581 q583 q585 q587 q588 q589 q590 q591 q592 q593 q597 q598 q599 q603 q604 q606 q607 q608 q609 q610 => (congrFun ef_424 b).trans ((up_ne (fun e9 => q12 (by rw [e9]; exact ko0))).trans (hfr0 b q12 q579 q581 q583 q585 q587 q588 q589 q590 q591 q592 q593 q597 q598 q599 q603 q604 q606 q607 q608 q609 q610))
                              have hrA12 : ∀ b, kd b = 12 → ∀ j, fldR (f_424 b) j = fldR (f b) j := fun b kb j => ((congrArg (fun x => fldR x j) (congrFun ef_424 b)).trans (fra_up (fun j => by rw [hfo_420]; exact fr_set (k := 43) rfl rfl) j b)).trans (hrA12 b kb j)
                              have hfA12 : ∀ b, kd b = 12 → ∀ j, j ≠ 23 → j ≠ 25 → j ≠ 27 → j ≠ 29 → j ≠ 32 → j ≠ 33 → j ≠ 43 → j ≠ 53 → j ≠ 54 → fldI (f_424 b) j = fldI (f b) j := fun b kb j n23 n25 n27 n29 n32 n33 n43 n53 n54 => ((congrArg (fun x => fldI x j) (congrFun ef_424 b)).trans (fia_up (fun h9 => by rw [hfo_420]; exact fi_set (k := 43) rfl h9) n43 b)).trans (hfA12 b kb j n23 n25 n27 n29 n32 n33 n43 n53 n54)
                              have hT0 : srel kd 592 f_424 o0 := by rw [ef_424]; exact hT0.keep (fun b _ => fr_up (by rw [hfo_420]; rfl) b) (fun b _ => fk_up (by rw [hfo_420]; rfl) b) (fun b _ => fk_up (by rw [hfo_420]; rfl) b) (fun b q => up_ne (kd_ne ko0 q (by decide)))
                              have hfo_426 : f_424 o0 = .inr (12, [.ref a_1, .ref a_2, .ref a_3, .int v_4, .ref a_5, .int v_6, .int v_7, .int v_8, .int v_9, .int v_10, .int v_11, .int v_12, .int v_13, .int v_14, .int v_15, .ref a_16, .ref a_17, .ref a_18, .ref a_19, .ref a_20, .ref a_21, .ref a_22, .ref a_23, .int v_417, .int v_25, .int v_369, .int v_27, .int v_370, .ref a_29, .int v_371, .ref a_31, .ref a_32, .int v_372, .int v_373, .ref a_35, .int v_36, .ref a_37, .ref a_38, .int v_39, .int v_40, .ref a_41, .ref a_42, .ref a_43, .int v_374, .ref a_45, .ref a_46, .ref a_47, .ref a_48, .ref a_49, .ref a_50, .ref a_51, .ref a_52, .ref a_53, .int v_375, .int v_419, .ref a_56]) := by rw [ef_424]; exact up_self
                              refine lv_iconst (v := 0) hx hb dX12_orders_277 (by decide) ?_
                              refine lv_istore (lv' := [(5, .int 0), (4, .int v_374), (3, .int x_342), (0, .ref o0), (1, .int p1), (2, .int p2)]) hx hb dX12_orders_278 hl (by decide) rfl (fun ls hl => ?_)
                              have hloop_445 : ∀ (n : Nat), ∀ (y_446 : Int32), (0 ≤ y_446.toInt ∧ y_446.toInt ≤ 16) → ∀ (f_448 : Nat → va_E), GI (okc cI cL cZ cR cG cH L kd) kd L f_448 → ∀ (H : Heap) (locs : List Loc), va_P (dC, dI) vwCl (va_pl L f_448) H → va_S (fun q => q ∈ L) s.heap H locs → va_D (fun q => q ∈ L) (va_pl L f_448) → (∀ b, kd b ≠ 12 → kd b ≠ 579 → kd b ≠ 581 → kd b ≠ 583 → kd b ≠ 585 → kd b ≠ 587 → kd b ≠ 588 → kd b ≠ 589 → kd b ≠ 590 → kd b ≠ 591 → kd b ≠ 592 → kd b ≠ 593 → kd b ≠ 597 → kd b ≠ 598 → kd b ≠ 599 → kd b ≠ 603 → kd b ≠ 604 → kd b ≠ 606 → kd b ≠ 607 → kd b ≠ 608 → kd b ≠ 609 → kd b ≠ 610 → f_448 b = f b) → (∀ b, kd b = 12 → ∀ j, fldR (f_448 b) j = fldR (f b) j) → (∀ b, kd b = 12 → ∀ j, j ≠ 23 → j ≠ 25 → j ≠ 27 → j ≠ 29 → j ≠ 32 → j ≠ 33 → j ≠ 43 → j ≠ 53 → j ≠ 54 → fldI (f_448 b) j = fldI (f b) j) → (f_448 a_1 = .inl (cI, 1560, .inl g_60)) → (f_448 o0 = .inr (12, [.ref a_1, .ref a_2, .ref a_3, .int v_4, .ref a_5, .int v_6, .int v_7, .int v_8, .int v_9, .int v_10, .int v_11, .int v_12, .int v_13, .int v_14, .int v_15, .ref a_16, .ref a_17, .ref a_18, .ref a_19, .ref a_20, .ref a_21, .ref a_22, .ref a_23, .int v_417, .int v_25, .int v_369, .int v_27, .int v_370, .ref a_29, .int v_371, .ref a_31, .ref a_32, .int v_372, .int v_373, .ref a_35, .int v_36, .ref a_37, .ref a_38, .int v_39, .int v_40, .ref a_41, .ref a_42, .ref a_43, .int v_374, .ref a_45, .ref a_46, .ref a_47, .ref a_48, .ref a_49, .ref a_50, .ref a_51, .ref a_52, .ref a_53, .int v_375, .int v_419, .ref a_56])) → srel kd 592 f_448 o0 → 16 - y_446.toInt < (n : Int) → ∀ (ls : Array Slot), lv_has ls 6 [(5, .int y_446), (4, .int v_374), (3, .int x_342), (0, .ref o0), (1, .int p1), (2, .int p2)] → W p l e (headSpec (wU yX12_orders cX12_orders 6 (some .int)) { frames := 24, cells := 0, slots := 0, locals := 676 }).room s m [.ref o0, .int p1, .int p2].toArray below meth c H locs 0 0 (MQ below (va_Qi (fun (r : Int32) (f9 : Nat → va_E) => GI (okc cI cL cZ cR cG cH L kd) kd L f9 ∧ ((-2147483648) ≤ r.toInt ∧ r.toInt ≤ 2147483647) ∧ (∀ b, kd b ≠ 12 → kd b ≠ 579 → kd b ≠ 581 → kd b ≠ 583 → kd b ≠ 585 → kd b ≠ 587 → kd b ≠ 588 → kd b ≠ 589 → kd b ≠ 590 → kd b ≠ 591 → kd b ≠ 592 → kd b ≠ 593 → kd b ≠ 597 → kd b ≠ 598 → kd b ≠ 599 → kd b ≠ 603 → kd b ≠ 604 → kd b ≠ 606 → kd b ≠ 607 → kd b ≠ 608 → kd b ≠ 609 → kd b ≠ 610 → f9 b = f b) ∧ (∀ b, kd b = 12 → ∀ j, fldR (f9 b) j = fldR (f b) j) ∧ (∀ b, kd b = 12 → ∀ j, j ≠ 23 → j ≠ 25 → j ≠ 27 → j ≠ 29 → j ≠ 32 → j ≠ 33 → j ≠ 43 → j ≠ 53 → j ≠ 54 → fldI (f9 b) j = fldI (f b) j) ∧ (∀ (w29 z29 : Int32), fldI (f o0) 29 = some w29 → fldI (f9 o0) 29 = some z29 → z29.toInt = w29.toInt) ∧ (srel kd 592 f9 o0)) (qP (dC, dI) cI cL cZ cR cG cH L) (fun q => q ∈ L)) [.ref o0, .int p1, .int p2].toArray s 0 0 (fun q => q ∈ L)) (F0 m 280 ls []) := by
                                intro n
                                induction n with
                                | zero => intro y_446 by_446 f_448 hG H locs hP hS hD hfr0 hrA12 hfA12 hfo_449 hfo_450 hT0 hmuhloop_445 ls hl; exfalso; omega
                                | succ n ih_hloop_445 =>
                                  intro y_446 by_446 f_448 hG H locs hP hS hD hfr0 hrA12 hfA12 hfo_449 hfo_450 hT0 hmuhloop_445 ls hl
                                  refine lv_iload hx hb dX12_orders_280 (lv_at hl 0 rfl) ?_
                                  refine lv_bipush (v := 16) hx hb dX12_orders_282 (by decide) ?_
                                  refine lv_icmp_ge (tgt := 307) hx hb dX12_orders_284 (by decide) (fun c_451 => ?_) (fun c_451 => ?_)
                                  · skip
                                    rw [Int32.le_iff_toInt_le, ti_16] at c_451
                                    refine lv_iload_n hx hb dX12_orders_307 rfl (lv_at hl 5 rfl) ?_
                                    refine lv_if_ne (tgt := 318) hx hb dX12_orders_308 (by decide) (fun c_452 => ?_) (fun c_452 => ?_)
                                    · skip
                                      rw [← Int32.toInt_inj, ti_0] at c_452
                                      refine lv_aload_n hx hb dX12_orders_318 rfl (lv_at hl 3 rfl) ?_
                                      refine tk_getP (D := (dC, dI)) (ci := 12) (v := .ref a_52) (C := RX12) (T := TX12) (N := 56) hx hb hU inlX12 hown hK hP mo0 hfo_450 rfl 51 (by decide) (hU _ wd_202) (fun _ h9 => h9) rfl dX12_orders_319 ?_
                                      refine lv_iload_n hx hb dX12_orders_322 rfl (lv_at hl 5 rfl) ?_
                                      refine lv_bipush (v := 10) hx hb dX12_orders_323 (by decide) ?_
                                      refine lv_isub hx hb dX12_orders_325 ?_
                                      refine lv_topi (fun x_453 ex_453 => ?_)
                                      have hx_453 : x_453.toInt = p2.toInt - 10 := by rw [ex_453, sb_I (by rw [ti_10]; omega) (by rw [ti_10]; omega), ti_10]
                                      have bx_453 : (0 ≤ x_453.toInt ∧ x_453.toInt ≤ 5) := by constructor <;> omega
                                      have hclc_454 : (0 ≤ x_453.toInt ∧ x_453.toInt ≤ 7) := by constructor <;> omega
                                      obtain ⟨g_456, hfo_455, hbg_456⟩ := un_608 (hG _ ma_52) ka_52
                                      refine tk_ildP hx hb hK hP 0 ma_52 hfo_455 rfl (vp_in_iff.mpr (by constructor <;> omega)) dX12_orders_326 ?_
                                      refine lv_topi (fun x_457 ex_457 => ?_)
                                      have bx_457 : (0 ≤ x_457.toInt ∧ x_457.toInt ≤ 7) := by rw [ex_457]; exact hbg_456 _
                                      exact W.iret (v := x_457) hx hb hr (fun t ht hW => ⟨⟨x_457, f_448, rfl, ⟨hG, (by constructor <;> omega), hfr0, hrA12, hfA12, (by intro w29 z29 e29 d29; rw [hfo_57] at e29; rw [hfo_450] at d29; obtain rfl := Option.some.inj e29; obtain rfl := Option.some.inj d29; omega), hT0⟩, by rw [ht]; exact hP, va_K.moved hW.alike hK, pl_in hD⟩, hS.F ht⟩) hS.2.2 dX12_orders_327
                                    · skip
                                      rw [← Int32.toInt_inj, ti_0] at c_452
                                      exfalso
                                      omega
                                  · skip
                                    rw [Int32.le_iff_toInt_le, ti_16] at c_451
                                    refine lv_aload_n hx hb dX12_orders_287 rfl (lv_at hl 3 rfl) ?_
                                    refine tk_getP (D := (dC, dI)) (ci := 12) (v := .ref a_41) (C := RX12) (T := TX12) (N := 56) hx hb hU inlX12 hown hK hP mo0 hfo_450 rfl 40 (by decide) (hU _ wd_190) (fun _ h9 => h9) rfl dX12_orders_288 ?_
                                    refine lv_iload hx hb dX12_orders_291 (lv_at hl 0 rfl) ?_
                                    refine lv_aload_n hx hb dX12_orders_293 rfl (lv_at hl 3 rfl) ?_
                                    refine tk_getP (D := (dC, dI)) (ci := 12) (v := .ref a_56) (C := RX12) (T := TX12) (N := 56) hx hb hU inlX12 hown hK hP mo0 hfo_450 rfl 55 (by decide) (hU _ wd_204) (fun _ h9 => h9) rfl dX12_orders_294 ?_
                                    refine lv_iload hx hb dX12_orders_297 (lv_at hl 0 rfl) ?_
                                    obtain ⟨g_459, hfo_458, hbg_459⟩ := un_610 (hG _ ma_56) ka_56
                                    refine tk_ildP hx hb hK hP 0 ma_56 hfo_458 rfl (vp_in_iff.mpr (by constructor <;> omega)) dX12_orders_299 ?_
                                    refine lv_topi (fun x_460 ex_460 => ?_)
                                    have bx_460 : (0 ≤ x_460.toInt ∧ x_460.toInt ≤ 8) := by rw [ex_460]; exact hbg_459 _
                                    obtain ⟨g_462, hfo_461, hbg_462⟩ := un_597 (hG _ ma_41) ka_41
                                    refine tk_istP hx hb hK hP hD hS 0 ma_41 hfo_461 rfl (vp_in_iff.mpr (by constructor <;> omega)) dX12_orders_300 (fun H locs hP hD hS => ?_)
                                    obtain ⟨f_464, ef_464⟩ : ∃ y : Nat → va_E, y = va_up f_448 a_41 (.inl (cI, 16, .inl (upd g_462 (Int32.toNatClampNeg y_446) x_460))) := ⟨_, rfl⟩
                                    have hP : va_P (dC, dI) vwCl (va_pl L f_464) H := by rw [ef_464]; exact hP
                                    have hD : va_D (fun q => q ∈ L) (va_pl L f_464) := by rw [ef_464]; exact hD
                                    have hG : GI (okc cI cL cZ cR cG cH L kd) kd L f_464 := by rw [ef_464]; exact hG.set a_41 (mk_597 ka_41 ⟨_, rfl, okI_up hbg_462 (by constructor <;> omega) _⟩)
                                    have hfo_465 : f_464 a_1 = .inl (cI, 1560, .inl g_60) := by rw [ef_464, up_ne (kd_ne ka_41 ka_1 (by decide))]; exact hfo_449
                                    have hfo_466 : f_464 o0 = .inr (12, [.ref a_1, .ref a_2, .ref a_3, .int v_4, .ref a_5, .int v_6, .int v_7, .int v_8, .int v_9, .int v_10, .int v_11, .int v_12, .int v_13, .int v_14, .int v_15, .ref a_16, .ref a_17, .ref a_18, .ref a_19, .ref a_20, .ref a_21, .ref a_22, .ref a_23, .int v_417, .int v_25, .int v_369, .int v_27, .int v_370, .ref a_29, .int v_371, .ref a_31, .ref a_32, .int v_372, .int v_373, .ref a_35, .int v_36, .ref a_37, .ref a_38, .int v_39, .int v_40, .ref a_41, .ref a_42, .ref a_43, .int v_374, .ref a_45, .ref a_46, .ref a_47, .ref a_48, .ref a_49, .ref a_50, .ref a_51, .ref a_52, .ref a_53, .int v_375, .int v_419, .ref a_56]) := by rw [ef_464, up_ne (kd_ne ka_41 ko0 (by decide))]; exact hfo_450
                                    have hfo_467 : f_464 a_56 = .inl (cI, 16, .inl g_459) := by rw [ef_464, up_ne (kd_ne ka_41 ka_56 (by decide))]; exact hfo_458
                                    have hfr0 : ∀ b, kd b ≠ 12 → kd b ≠ 579 → kd b ≠ 581 → kd b ≠ 583 → kd b ≠ 585 → kd b ≠ 587 → kd b ≠ 588 → kd b ≠ 589 → kd b ≠ 590 → kd b ≠ 591 → kd b ≠ 592 → kd b ≠ 593 → kd b ≠ 597 → kd b ≠ 598 → kd b ≠ 599 → kd b ≠ 603 → kd b ≠ 604 → kd b ≠ 606 → kd b ≠ 607 → kd b ≠ 608 → kd b ≠ 609 → kd b ≠ 610 → f_464 b = f b := fun b q12 q579 q581 q583 q585 q587 q588 q589 q590 q591 q592 q593 q597 q598 q599 q603 q604 q606 q607 q608 q609 q610 => (congrFun ef_464 b).trans ((up_ne (fun e9 => q597 (by rw [e9]; exact ka_41))).trans (hfr0 b q12 q579 q581 q583 q585 q587 q588 q589 q590 q591 q592 q593 q597 q598 q599 q603 q604 q606 q607 q608 q609 q610))
                                    have hrA12 : ∀ b, kd b = 12 → ∀ j, fldR (f_464 b) j = fldR (f b) j := fun b kb j => (congrArg (fun x => fldR x j) ((congrFun ef_464 b).trans (up_ne (kd_ne ka_41 kb (by decide))))).trans (hrA12 b kb j)
                                    have hfA12 : ∀ b, kd b = 12 → ∀ j, j ≠ 23 → j ≠ 25 → j ≠ 27 → j ≠ 29 → j ≠ 32 → j ≠ 33 → j ≠ 43 → j ≠ 53 → j ≠ 54 → fldI (f_464 b) j = fldI (f b) j := fun b kb j n23 n25 n27 n29 n32 n33 n43 n53 n54 => (congrArg (fun x => fldI x j) ((congrFun ef_464 b).trans (up_ne (kd_ne ka_41 kb (by decide))))).trans (hfA12 b kb j n23 n25 n27 n29 n32 n33 n43 n53 n54)
                                    have hT0 : srel kd 592 f_464 o0 := by rw [ef_464]; exact hT0.keep (fun b q => congrArg (fun x => fldR x 30) (up_ne (kd_ne ka_41 q (by decide)))) (fun b q => congrArg (fun x => fldI x 32) (up_ne (kd_ne ka_41 q (by decide)))) (fun b q => congrArg (fun x => fldI x 33) (up_ne (kd_ne ka_41 q (by decide)))) (fun b q => up_ne (kd_ne ka_41 q (by decide)))
                                    have hfo_468 : f_464 a_41 = .inl (cI, 16, .inl (upd g_462 (Int32.toNatClampNeg y_446) x_460)) := by rw [ef_464]; exact up_self
                                    obtain ⟨x_469, ex_469⟩ : ∃ y : Int32, y_446 + 1 = y := ⟨_, rfl⟩
                                    have hx_469 : x_469.toInt = y_446.toInt + 1 := by rw [← ex_469, ad_I (by rw [ti_1]; omega) (by rw [ti_1]; omega), ti_1]
                                    have bx_469 : (1 ≤ x_469.toInt ∧ x_469.toInt ≤ 16) := by constructor <;> omega
                                    refine lv_iinc (v := x_469) (lv' := [(5, .int x_469), (4, .int v_374), (3, .int x_342), (0, .ref o0), (1, .int p1), (2, .int p2)]) hx hb dX12_orders_301 hl (k := 0) rfl ex_469 (by decide) rfl (fun ls hl => ?_)
                                    refine lv_goto (tgt := 280) hx hb dX12_orders_304 (by decide) ?_
                                    exact ih_hloop_445 x_469 (by constructor <;> omega) f_464 hG _ _ hP hS hD hfr0 hrA12 hfA12 hfo_465 hfo_466 hT0 (by omega) ls (lv_sub hl [0, 1, 2, 3, 4, 5] rfl)
                              exact hloop_445 17 0 (by decide) f_424 hG _ _ hP hS hD hfr0 hrA12 hfA12 hfo_425 hfo_426 hT0 (by (try rw [ti_0]) <;> omega) ls hl
                            · skip
                              rw [Int32.le_iff_toInt_le, ti_16] at c_404
                              refine lv_aload_n hx hb dX12_orders_240 rfl (lv_at hl 3 rfl) ?_
                              refine tk_getP (D := (dC, dI)) (ci := 12) (v := .ref a_56) (C := RX12) (T := TX12) (N := 56) hx hb hU inlX12 hown hK hP mo0 hfo_403 rfl 55 (by decide) (hU _ wd_204) (fun _ h9 => h9) rfl dX12_orders_241 ?_
                              refine lv_iload hx hb dX12_orders_244 (lv_at hl 0 rfl) ?_
                              refine lv_aload_n hx hb dX12_orders_246 rfl (lv_at hl 3 rfl) ?_
                              refine tk_getP (D := (dC, dI)) (ci := 12) (v := .ref a_41) (C := RX12) (T := TX12) (N := 56) hx hb hU inlX12 hown hK hP mo0 hfo_403 rfl 40 (by decide) (hU _ wd_190) (fun _ h9 => h9) rfl dX12_orders_247 ?_
                              refine lv_iload hx hb dX12_orders_250 (lv_at hl 0 rfl) ?_
                              obtain ⟨g_471, hfo_470, hbg_471⟩ := un_597 (hG _ ma_41) ka_41
                              refine tk_ildP hx hb hK hP 0 ma_41 hfo_470 rfl (vp_in_iff.mpr (by constructor <;> omega)) dX12_orders_252 ?_
                              refine lv_topi (fun x_472 ex_472 => ?_)
                              have bx_472 : (0 ≤ x_472.toInt ∧ x_472.toInt ≤ 8) := by rw [ex_472]; exact hbg_471 _
                              obtain ⟨g_474, hfo_473, hbg_474⟩ := un_610 (hG _ ma_56) ka_56
                              refine tk_istP hx hb hK hP hD hS 0 ma_56 hfo_473 rfl (vp_in_iff.mpr (by constructor <;> omega)) dX12_orders_253 (fun H locs hP hD hS => ?_)
                              obtain ⟨f_476, ef_476⟩ : ∃ y : Nat → va_E, y = va_up f_401 a_56 (.inl (cI, 16, .inl (upd g_474 (Int32.toNatClampNeg y_399) x_472))) := ⟨_, rfl⟩
                              have hP : va_P (dC, dI) vwCl (va_pl L f_476) H := by rw [ef_476]; exact hP
                              have hD : va_D (fun q => q ∈ L) (va_pl L f_476) := by rw [ef_476]; exact hD
                              have hG : GI (okc cI cL cZ cR cG cH L kd) kd L f_476 := by rw [ef_476]; exact hG.set a_56 (mk_610 ka_56 ⟨_, rfl, okI_up hbg_474 (by constructor <;> omega) _⟩)
                              have hfo_477 : f_476 a_1 = .inl (cI, 1560, .inl g_60) := by rw [ef_476, up_ne (kd_ne ka_56 ka_1 (by decide))]; exact hfo_402
                              have hfo_478 : f_476 o0 = .inr (12, [.ref a_1, .ref a_2, .ref a_3, .int v_4, .ref a_5, .int v_6, .int v_7, .int v_8, .int v_9, .int v_10, .int v_11, .int v_12, .int v_13, .int v_14, .int v_15, .ref a_16, .ref a_17, .ref a_18, .ref a_19, .ref a_20, .ref a_21, .ref a_22, .ref a_23, .int v_368, .int v_25, .int v_369, .int v_27, .int v_370, .ref a_29, .int v_371, .ref a_31, .ref a_32, .int v_372, .int v_373, .ref a_35, .int v_36, .ref a_37, .ref a_38, .int v_39, .int v_40, .ref a_41, .ref a_42, .ref a_43, .int v_374, .ref a_45, .ref a_46, .ref a_47, .ref a_48, .ref a_49, .ref a_50, .ref a_51, .ref a_52, .ref a_53, .int v_375, .int v_376, .ref a_56]) := by rw [ef_476, up_ne (kd_ne ka_56 ko0 (by decide))]; exact hfo_403
                              have hfo_479 : f_476 a_41 = .inl (cI, 16, .inl g_471) := by rw [ef_476, up_ne (kd_ne ka_56 ka_41 (by decide))]; exact hfo_470
                              have hfr0 : ∀ b, kd b ≠ 12 → kd b ≠ 579 → kd b ≠ 581 → kd b ≠ 583 → kd b ≠ 585 → kd b ≠ 587 → kd b ≠ 588 → kd b ≠ 589 → kd b ≠ 590 → kd b ≠ 591 → kd b ≠ 592 → kd b ≠ 593 → kd b ≠ 597 → kd b ≠ 598 → kd b ≠ 599 → kd b ≠ 603 → kd b ≠ 604 → kd b ≠ 606 → kd b ≠ 607 → kd b ≠ 608 → kd b ≠ 609 → kd b ≠ 610 → f_476 b = f b := fun b q12 q579 q581 q583 q585 q587 q588 q589 q590 q591 q592 q593 q597 q598 q599 q603 q604 q606 q607 q608 q609 q610 => (congrFun ef_476 b).trans ((up_ne (fun e9 => q610 (by rw [e9]; exact ka_56))).trans (hfr0 b q12 q579 q581 q583 q585 q587 q588 q589 q590 q591 q592 q593 q597 q598 q599 q603 q604 q606 q607 q608 q609 q610))
                              have hrA12 : ∀ b, kd b = 12 → ∀ j, fldR (f_476 b) j = fldR (f b) j := fun b kb j => (congrArg (fun x => fldR x j) ((congrFun ef_476 b).trans (up_ne (kd_ne ka_56 kb (by decide))))).trans (hrA12 b kb j)
                              have hfA12 : ∀ b, kd b = 12 → ∀ j, j ≠ 23 → j ≠ 25 → j ≠ 27 → j ≠ 29 → j ≠ 32 → j ≠ 33 → j ≠ 43 → j ≠ 53 → j ≠ 54 → fldI (f_476 b) j = fldI (f b) j := fun b kb j n23 n25 n27 n29 n32 n33 n43 n53 n54 => (congrArg (fun x => fldI x j) ((congrFun ef_476 b).trans (up_ne (kd_ne ka_56 kb (by decide))))).trans (hfA12 b kb j n23 n25 n27 n29 n32 n33 n43 n53 n54)
                              have hT0 : srel kd 592 f_476 o0 := by rw [ef_476]; exact hT0.keep (fun b q => congrArg (fun x => fldR x 30) (up_ne (kd_ne ka_56 q (by decide)))) (fun b q => congrArg (fun x => fldI x 32) (up_ne (kd_ne ka_56 q (by decide)))) (fun b q => congrArg (fun x => fldI x 33) (up_ne (kd_ne ka_56 q (by decide)))) (fun b q => up_ne (kd_ne ka_56 q (by decide)))
                              have hfo_480 : f_476 a_56 = .inl (cI, 16, .inl (upd g_474 (Int32.toNatClampNeg y_399) x_472)) := by rw [ef_476]; exact up_self
                              obtain ⟨x_481, ex_481⟩ : ∃ y : Int32, y_399 + 1 = y := ⟨_, rfl⟩
                              have hx_481 : x_481.toInt = y_399.toInt + 1 := by rw [← ex_481, ad_I (by rw [ti_1]; omega) (by rw [ti_1]; omega), ti_1]
                              have bx_481 : (1 ≤ x_481.toInt ∧ x_481.toInt ≤ 16) := by constructor <;> omega
                              refine lv_iinc (v := x_481) (lv' := [(5, .int x_481), (4, .int v_374), (3, .int x_342), (0, .ref o0), (1, .int p1), (2, .int p2)]) hx hb dX12_orders_254 hl (k := 0) rfl ex_481 (by decide) rfl (fun ls hl => ?_)
                              refine lv_goto (tgt := 233) hx hb dX12_orders_257 (by decide) ?_
                              exact ih_hloop_398 x_481 (by constructor <;> omega) f_476 hG _ _ hP hS hD hfr0 hrA12 hfA12 hfo_477 hfo_478 hT0 (by omega) ls (lv_sub hl [0, 1, 2, 3, 4, 5] rfl)
                        exact hloop_398 17 0 (by decide) f_366 hG _ _ hP hS hD hfr0 hrA12 hfA12 hfo_367 hfo_377 hT0 (by (try rw [ti_0]) <;> omega) ls hl
                      · skip
                        rw [Int32.le_iff_toInt_le] at c_379
                        refine lv_iconst (v := 0) hx hb dX12_orders_128 (by decide) ?_
                        refine lv_istore (lv' := [(5, .int 0), (4, .int y_364), (3, .int x_342), (0, .ref o0), (1, .int p1), (2, .int p2)]) hx hb dX12_orders_129 hl (by decide) rfl (fun ls hl => ?_)
                        have hloop_500 : ∀ (n : Nat), ∀ (y_501 : Int32), (0 ≤ y_501.toInt ∧ y_501.toInt ≤ 90) → ∀ (f_503 : Nat → va_E), GI (okc cI cL cZ cR cG cH L kd) kd L f_503 → ∀ (H : Heap) (locs : List Loc), va_P (dC, dI) vwCl (va_pl L f_503) H → va_S (fun q => q ∈ L) s.heap H locs → va_D (fun q => q ∈ L) (va_pl L f_503) → (∀ b, kd b ≠ 12 → kd b ≠ 579 → kd b ≠ 581 → kd b ≠ 583 → kd b ≠ 585 → kd b ≠ 587 → kd b ≠ 588 → kd b ≠ 589 → kd b ≠ 590 → kd b ≠ 591 → kd b ≠ 592 → kd b ≠ 593 → kd b ≠ 597 → kd b ≠ 598 → kd b ≠ 599 → kd b ≠ 603 → kd b ≠ 604 → kd b ≠ 606 → kd b ≠ 607 → kd b ≠ 608 → kd b ≠ 609 → kd b ≠ 610 → f_503 b = f b) → (∀ b, kd b = 12 → ∀ j, fldR (f_503 b) j = fldR (f b) j) → (∀ b, kd b = 12 → ∀ j, j ≠ 23 → j ≠ 25 → j ≠ 27 → j ≠ 29 → j ≠ 32 → j ≠ 33 → j ≠ 43 → j ≠ 53 → j ≠ 54 → fldI (f_503 b) j = fldI (f b) j) → (f_503 a_1 = .inl (cI, 1560, .inl g_60)) → (f_503 o0 = .inr (12, [.ref a_1, .ref a_2, .ref a_3, .int v_4, .ref a_5, .int v_6, .int v_7, .int v_8, .int v_9, .int v_10, .int v_11, .int v_12, .int v_13, .int v_14, .int v_15, .ref a_16, .ref a_17, .ref a_18, .ref a_19, .ref a_20, .ref a_21, .ref a_22, .ref a_23, .int v_368, .int v_25, .int v_369, .int v_27, .int v_370, .ref a_29, .int v_371, .ref a_31, .ref a_32, .int v_372, .int v_373, .ref a_35, .int v_36, .ref a_37, .ref a_38, .int v_39, .int v_40, .ref a_41, .ref a_42, .ref a_43, .int v_374, .ref a_45, .ref a_46, .ref a_47, .ref a_48, .ref a_49, .ref a_50, .ref a_51, .ref a_52, .ref a_53, .int v_375, .int v_376, .ref a_56])) → srel kd 592 f_503 o0 → 90 - y_501.toInt < (n : Int) → ∀ (ls : Array Slot), lv_has ls 6 [(5, .int y_501), (4, .int y_364), (3, .int x_342), (0, .ref o0), (1, .int p1), (2, .int p2)] → W p l e (headSpec (wU yX12_orders cX12_orders 6 (some .int)) { frames := 24, cells := 0, slots := 0, locals := 676 }).room s m [.ref o0, .int p1, .int p2].toArray below meth c H locs 0 0 (MQ below (va_Qi (fun (r : Int32) (f9 : Nat → va_E) => GI (okc cI cL cZ cR cG cH L kd) kd L f9 ∧ ((-2147483648) ≤ r.toInt ∧ r.toInt ≤ 2147483647) ∧ (∀ b, kd b ≠ 12 → kd b ≠ 579 → kd b ≠ 581 → kd b ≠ 583 → kd b ≠ 585 → kd b ≠ 587 → kd b ≠ 588 → kd b ≠ 589 → kd b ≠ 590 → kd b ≠ 591 → kd b ≠ 592 → kd b ≠ 593 → kd b ≠ 597 → kd b ≠ 598 → kd b ≠ 599 → kd b ≠ 603 → kd b ≠ 604 → kd b ≠ 606 → kd b ≠ 607 → kd b ≠ 608 → kd b ≠ 609 → kd b ≠ 610 → f9 b = f b) ∧ (∀ b, kd b = 12 → ∀ j, fldR (f9 b) j = fldR (f b) j) ∧ (∀ b, kd b = 12 → ∀ j, j ≠ 23 → j ≠ 25 → j ≠ 27 → j ≠ 29 → j ≠ 32 → j ≠ 33 → j ≠ 43 → j ≠ 53 → j ≠ 54 → fldI (f9 b) j = fldI (f b) j) ∧ (∀ (w29 z29 : Int32), fldI (f o0) 29 = some w29 → fldI (f9 o0) 29 = some z29 → z29.toInt = w29.toInt) ∧ (srel kd 592 f9 o0)) (qP (dC, dI) cI cL cZ cR cG cH L) (fun q => q ∈ L)) [.ref o0, .int p1, .int p2].toArray s 0 0 (fun q => q ∈ L)) (F0 m 131 ls []) := by
                          intro n
                          induction n with
                          | zero => intro y_501 by_501 f_503 hG H locs hP hS hD hfr0 hrA12 hfA12 hfo_504 hfo_505 hT0 hmuhloop_500 ls hl; exfalso; omega
                          | succ n ih_hloop_500 =>
                            intro y_501 by_501 f_503 hG H locs hP hS hD hfr0 hrA12 hfA12 hfo_504 hfo_505 hT0 hmuhloop_500 ls hl
                            refine lv_iload hx hb dX12_orders_131 (lv_at hl 0 rfl) ?_
                            refine lv_bipush (v := 90) hx hb dX12_orders_133 (by decide) ?_
                            refine lv_icmp_ge (tgt := 155) hx hb dX12_orders_135 (by decide) (fun c_506 => ?_) (fun c_506 => ?_)
                            · skip
                              rw [Int32.le_iff_toInt_le, ti_90] at c_506
                              refine lv_aload_n hx hb dX12_orders_155 rfl (lv_at hl 3 rfl) ?_
                              refine lv_iload hx hb dX12_orders_156 (lv_at hl 1 rfl) ?_
                              refine tk_VvP (As := [.int y_364]) (rest := []) (n := 1) hx hb hml hown hU hN hZ (s_X12_laysWord_k12 l (dC, dI) cI cL cZ cR cG cH Z kd L f_503 hG o0 mo0 ko0 y_364 (by constructor <;> omega) (fun b9 g9 h1 h2 => by rw [hfo_505] at h1; obtain rfl := Option.some.inj h1; rw [hfo_504] at h2; cases h2; omega)) wd_1173 wd_1174 wd_1175 wd_5 wd_1176 (by decide +kernel) ⟨Nat.le_of_ble_eq_true rfl, Nat.le_of_ble_eq_true rfl⟩ hK hP hD hS mo0 hfo_505 12 rfl rfl rfl hl.1 rfl (Nat.le_of_ble_eq_true rfl) dX12_orders_158 ⟨Nat.le_of_ble_eq_true rfl, Nat.le_of_ble_eq_true rfl⟩ (fun f_508 H locs hw hP hD hS => ?_)
                              obtain ⟨hG, hkc_509, hra_510, hfa_511, hpost_512, hxp_513⟩ := hw
                              have hfo_515 : f_508 a_1 = .inl (cI, 1560, .inl g_60) := by rw [hkc_509 a_1 (by rw [ka_1]; decide) (by rw [ka_1]; decide)]; exact hfo_504
                              have hfr0 : ∀ b, kd b ≠ 12 → kd b ≠ 579 → kd b ≠ 581 → kd b ≠ 583 → kd b ≠ 585 → kd b ≠ 587 → kd b ≠ 588 → kd b ≠ 589 → kd b ≠ 590 → kd b ≠ 591 → kd b ≠ 592 → kd b ≠ 593 → kd b ≠ 597 → kd b ≠ 598 → kd b ≠ 599 → kd b ≠ 603 → kd b ≠ 604 → kd b ≠ 606 → kd b ≠ 607 → kd b ≠ 608 → kd b ≠ 609 → kd b ≠ 610 → f_508 b = f b := fun b q12 q579 q581 q583 q585 q587 q588 q589 q590 q591 q592 q593 q597 q598 q599 q603 q604 q606 q607 q608 q609 q610 => (hkc_509 b q12 q589).trans (hfr0 b q12 q579 q581 q583 q585 q587 q588 q589 q590 q591 q592 q593 q597 q598 q599 q603 q604 q606 q607 q608 q609 q610)
                              have hrA12 : ∀ b, kd b = 12 → ∀ j, fldR (f_508 b) j = fldR (f b) j := fun b kb j => (hra_510 b kb j).trans (hrA12 b kb j)
                              have hfA12 : ∀ b, kd b = 12 → ∀ j, j ≠ 23 → j ≠ 25 → j ≠ 27 → j ≠ 29 → j ≠ 32 → j ≠ 33 → j ≠ 43 → j ≠ 53 → j ≠ 54 → fldI (f_508 b) j = fldI (f b) j := fun b kb j n23 n25 n27 n29 n32 n33 n43 n53 n54 => (hfa_511 b kb j n23).trans (hfA12 b kb j n23 n25 n27 n29 n32 n33 n43 n53 n54)
                              have hT0 : srel kd 592 f_508 o0 := hT0.keep (fun b q => hra_510 b q 30) (fun b q => hfa_511 b q 32 (by decide)) (fun b q => hfa_511 b q 33 (by decide)) (fun b q => hkc_509 b (by rw [q]; decide) (by rw [q]; decide))
                              obtain ⟨v_516, hfo_517, fa_518⟩ := op12_23 hfo_505 (hG _ mo0) ko0 (hra_510 o0 ko0) (hfa_511 o0 ko0)
                              have bv_516 : (0 ≤ v_516.toInt ∧ v_516.toInt ≤ 12) := fa12_23 fa_518
                              have hqhpost_512 := hpost_512 v_368 v_516 (by rw [hfo_505]; rfl) (by rw [hfo_517]; rfl)
                              have hlw2 := hxp_513 a_1 g_60 v_516 (by rw [hfo_505]; rfl) hfo_504 (by rw [hfo_517]; rfl)
                              refine lv_aload_n hx hb dX12_orders_161 rfl (lv_at hl 3 rfl) ?_
                              refine lv_aload_n hx hb dX12_orders_162 rfl (lv_at hl 3 rfl) ?_
                              refine tk_getP (D := (dC, dI)) (ci := 12) (v := .ref a_1) (C := RX12) (T := TX12) (N := 56) hx hb hU inlX12 hown hK hP mo0 hfo_517 rfl 0 (by decide) (hU _ wd_169) (fun _ h9 => h9) rfl dX12_orders_163 ?_
                              refine lv_bipush (v := 40) hx hb dX12_orders_166 (by decide) ?_
                              refine tk_ildP hx hb hK hP 0 ma_1 hfo_515 rfl (vp_in_nI (n := 40) (by decide) (by decide)) dX12_orders_168 ?_
                              refine lv_topi (fun x_519 ex_519 => ?_)
                              have bx_519 : (0 ≤ x_519.toInt ∧ x_519.toInt ≤ 255) := by rw [ex_519]; exact hbg_60.2.2.2.2.2.2.1 _ (by decide) (by decide) (by decide)
                              refine tk_VvP (As := [.int x_519]) (rest := []) (n := 1) hx hb hml hown hU hN hZ (s_X12_marksAll_k12 l (dC, dI) cI cL cZ cR cG cH Z kd L f_508 hG o0 mo0 ko0 x_519 (by intro w23 w29 e23 e29; rw [hfo_517] at e23 e29; obtain rfl := Option.some.inj e23; obtain rfl := Option.some.inj e29; omega) hT0) wd_1243 wd_1244 wd_1245 wd_5 wd_1246 (by decide +kernel) ⟨Nat.le_of_ble_eq_true rfl, Nat.le_of_ble_eq_true rfl⟩ hK hP hD hS mo0 hfo_517 12 rfl rfl rfl hl.1 rfl (Nat.le_of_ble_eq_true rfl) dX12_orders_169 ⟨Nat.le_of_ble_eq_true rfl, Nat.le_of_ble_eq_true rfl⟩ (fun f_521 H locs hw hP hD hS => ?_)
                              obtain ⟨hG, hkc_522, hra_523, hfa_524, hpost_525, hTc_526⟩ := hw
                              have hfo_528 : f_521 a_1 = .inl (cI, 1560, .inl g_60) := by rw [hkc_522 a_1 (by rw [ka_1]; decide) (by rw [ka_1]; decide) (by rw [ka_1]; decide) (by rw [ka_1]; decide) (by rw [ka_1]; decide) (by rw [ka_1]; decide) (by rw [ka_1]; decide) (by rw [ka_1]; decide) (by rw [ka_1]; decide) (by rw [ka_1]; decide) (by rw [ka_1]; decide) (by rw [ka_1]; decide)]; exact hfo_515
                              have hfr0 : ∀ b, kd b ≠ 12 → kd b ≠ 579 → kd b ≠ 581 → kd b ≠ 583 → kd b ≠ 585 → kd b ≠ 587 → kd b ≠ 588 → kd b ≠ 589 → kd b ≠ 590 → kd b ≠ 591 → kd b ≠ 592 → kd b ≠ 593 → kd b ≠ 597 → kd b ≠ 598 → kd b ≠ 599 → kd b ≠ 603 → kd b ≠ 604 → kd b ≠ 606 → kd b ≠ 607 → kd b ≠ 608 → kd b ≠ 609 → kd b ≠ 610 → f_521 b = f b := fun b q12 q579 q581 q583 q585 q587 q588 q589 q590 q591 q592 q593 q597 q598 q599 q603 q604 q606 q607 q608 q609 q610 => (hkc_522 b q12 q579 q581 q583 q585 q587 q588 q590 q591 q592 q593 q603).trans (hfr0 b q12 q579 q581 q583 q585 q587 q588 q589 q590 q591 q592 q593 q597 q598 q599 q603 q604 q606 q607 q608 q609 q610)
                              have hrA12 : ∀ b, kd b = 12 → ∀ j, fldR (f_521 b) j = fldR (f b) j := fun b kb j => (hra_523 b kb j).trans (hrA12 b kb j)
                              have hfA12 : ∀ b, kd b = 12 → ∀ j, j ≠ 23 → j ≠ 25 → j ≠ 27 → j ≠ 29 → j ≠ 32 → j ≠ 33 → j ≠ 43 → j ≠ 53 → j ≠ 54 → fldI (f_521 b) j = fldI (f b) j := fun b kb j n23 n25 n27 n29 n32 n33 n43 n53 n54 => (hfa_524 b kb j n25 n27 n29 n32 n33).trans (hfA12 b kb j n23 n25 n27 n29 n32 n33 n43 n53 n54)
                              obtain ⟨v_529, v_530, v_531, v_532, v_533, hfo_534, fa_535⟩ := op12_25_27_29_32_33 hfo_517 (hG _ mo0) ko0 (hra_523 o0 ko0) (hfa_524 o0 ko0)
                              have bv_529 : (0 ≤ v_529.toInt ∧ v_529.toInt ≤ 4) := fa12_25 fa_535
                              have bv_530 : (0 ≤ v_530.toInt ∧ v_530.toInt ≤ 1) := fa12_27 fa_535
                              have bv_531 : (0 ≤ v_531.toInt ∧ v_531.toInt ≤ 201) := fa12_29 fa_535
                              have bv_532 : (0 ≤ v_532.toInt ∧ v_532.toInt ≤ 6561) := fa12_32 fa_535
                              have bv_533 : ((-2147483648) ≤ v_533.toInt ∧ v_533.toInt ≤ 2147483647) := ⟨i32_lo _, i32_hi _⟩
                              have hqhpost_525 := hpost_525 v_371 v_531 (by rw [hfo_517]; rfl) (by rw [hfo_534]; rfl)
                              refine lv_iconst (v := 0) hx hb dX12_orders_172 (by decide) ?_
                              refine lv_istore (lv' := [(5, .int 0), (4, .int y_364), (3, .int x_342), (0, .ref o0), (1, .int p1), (2, .int p2)]) hx hb dX12_orders_173 hl (by decide) rfl (fun ls hl => ?_)
                              have hloop_542 : ∀ (n : Nat), ∀ (y_543 : Int32), (0 ≤ y_543.toInt ∧ y_543.toInt ≤ 6561) → ∀ (f_545 : Nat → va_E), GI (okc cI cL cZ cR cG cH L kd) kd L f_545 → ∀ (H : Heap) (locs : List Loc), va_P (dC, dI) vwCl (va_pl L f_545) H → va_S (fun q => q ∈ L) s.heap H locs → va_D (fun q => q ∈ L) (va_pl L f_545) → (∀ b, kd b ≠ 12 → kd b ≠ 579 → kd b ≠ 581 → kd b ≠ 583 → kd b ≠ 585 → kd b ≠ 587 → kd b ≠ 588 → kd b ≠ 589 → kd b ≠ 590 → kd b ≠ 591 → kd b ≠ 592 → kd b ≠ 593 → kd b ≠ 597 → kd b ≠ 598 → kd b ≠ 599 → kd b ≠ 603 → kd b ≠ 604 → kd b ≠ 606 → kd b ≠ 607 → kd b ≠ 608 → kd b ≠ 609 → kd b ≠ 610 → f_545 b = f b) → (∀ b, kd b = 12 → ∀ j, fldR (f_545 b) j = fldR (f b) j) → (∀ b, kd b = 12 → ∀ j, j ≠ 23 → j ≠ 25 → j ≠ 27 → j ≠ 29 → j ≠ 32 → j ≠ 33 → j ≠ 43 → j ≠ 53 → j ≠ 54 → fldI (f_545 b) j = fldI (f b) j) → (f_545 a_1 = .inl (cI, 1560, .inl g_60)) → (f_545 o0 = .inr (12, [.ref a_1, .ref a_2, .ref a_3, .int v_4, .ref a_5, .int v_6, .int v_7, .int v_8, .int v_9, .int v_10, .int v_11, .int v_12, .int v_13, .int v_14, .int v_15, .ref a_16, .ref a_17, .ref a_18, .ref a_19, .ref a_20, .ref a_21, .ref a_22, .ref a_23, .int v_516, .int v_25, .int v_529, .int v_27, .int v_530, .ref a_29, .int v_531, .ref a_31, .ref a_32, .int v_532, .int v_533, .ref a_35, .int v_36, .ref a_37, .ref a_38, .int v_39, .int v_40, .ref a_41, .ref a_42, .ref a_43, .int v_374, .ref a_45, .ref a_46, .ref a_47, .ref a_48, .ref a_49, .ref a_50, .ref a_51, .ref a_52, .ref a_53, .int v_375, .int v_376, .ref a_56])) → srel kd 592 f_545 o0 → 6561 - y_543.toInt < (n : Int) → ∀ (ls : Array Slot), lv_has ls 6 [(5, .int y_543), (4, .int y_364), (3, .int x_342), (0, .ref o0), (1, .int p1), (2, .int p2)] → W p l e (headSpec (wU yX12_orders cX12_orders 6 (some .int)) { frames := 24, cells := 0, slots := 0, locals := 676 }).room s m [.ref o0, .int p1, .int p2].toArray below meth c H locs 0 0 (MQ below (va_Qi (fun (r : Int32) (f9 : Nat → va_E) => GI (okc cI cL cZ cR cG cH L kd) kd L f9 ∧ ((-2147483648) ≤ r.toInt ∧ r.toInt ≤ 2147483647) ∧ (∀ b, kd b ≠ 12 → kd b ≠ 579 → kd b ≠ 581 → kd b ≠ 583 → kd b ≠ 585 → kd b ≠ 587 → kd b ≠ 588 → kd b ≠ 589 → kd b ≠ 590 → kd b ≠ 591 → kd b ≠ 592 → kd b ≠ 593 → kd b ≠ 597 → kd b ≠ 598 → kd b ≠ 599 → kd b ≠ 603 → kd b ≠ 604 → kd b ≠ 606 → kd b ≠ 607 → kd b ≠ 608 → kd b ≠ 609 → kd b ≠ 610 → f9 b = f b) ∧ (∀ b, kd b = 12 → ∀ j, fldR (f9 b) j = fldR (f b) j) ∧ (∀ b, kd b = 12 → ∀ j, j ≠ 23 → j ≠ 25 → j ≠ 27 → j ≠ 29 → j ≠ 32 → j ≠ 33 → j ≠ 43 → j ≠ 53 → j ≠ 54 → fldI (f9 b) j = fldI (f b) j) ∧ (∀ (w29 z29 : Int32), fldI (f o0) 29 = some w29 → fldI (f9 o0) 29 = some z29 → z29.toInt = w29.toInt) ∧ (srel kd 592 f9 o0)) (qP (dC, dI) cI cL cZ cR cG cH L) (fun q => q ∈ L)) [.ref o0, .int p1, .int p2].toArray s 0 0 (fun q => q ∈ L)) (F0 m 175 ls []) := by
                                intro n
                                induction n with
                                | zero => intro y_543 by_543 f_545 hG H locs hP hS hD hfr0 hrA12 hfA12 hfo_546 hfo_547 hTc_526 hmuhloop_542 ls hl; exfalso; omega
                                | succ n ih_hloop_542 =>
                                  intro y_543 by_543 f_545 hG H locs hP hS hD hfr0 hrA12 hfA12 hfo_546 hfo_547 hTc_526 hmuhloop_542 ls hl
                                  refine lv_iload hx hb dX12_orders_175 (lv_at hl 0 rfl) ?_
                                  refine lv_aload_n hx hb dX12_orders_177 rfl (lv_at hl 3 rfl) ?_
                                  refine tk_getP (D := (dC, dI)) (ci := 12) (v := .int v_532) (C := RX12) (T := TX12) (N := 56) hx hb hU inlX12 hown hK hP mo0 hfo_547 rfl 32 (by decide) (hU _ wd_921) (fun _ h9 => h9) rfl dX12_orders_178 ?_
                                  refine lv_icmp_ge (tgt := 218) hx hb dX12_orders_181 (by decide) (fun c_548 => ?_) (fun c_548 => ?_)
                                  · skip
                                    rw [Int32.le_iff_toInt_le] at c_548
                                    obtain ⟨x_549, ex_549⟩ : ∃ y : Int32, y_364 + 1 = y := ⟨_, rfl⟩
                                    have hx_549 : x_549.toInt = y_364.toInt + 1 := by rw [← ex_549, ad_I (by rw [ti_1]; omega) (by rw [ti_1]; omega), ti_1]
                                    have bx_549 : (1 ≤ x_549.toInt ∧ x_549.toInt ≤ 72) := by constructor <;> omega
                                    refine lv_iinc (v := x_549) (lv' := [(4, .int x_549), (5, .int y_543), (3, .int x_342), (0, .ref o0), (1, .int p1), (2, .int p2)]) hx hb dX12_orders_218 hl (k := 1) rfl ex_549 (by decide) rfl (fun ls hl => ?_)
                                    refine lv_goto (tgt := 122) hx hb dX12_orders_221 (by decide) ?_
                                    exact ih_hloop_363 x_549 (by constructor <;> omega) f_545 hG _ _ hP hS hD hfr0 hrA12 hfA12 hfo_546 hTc_526 v_531 (by rw [hfo_547]; rfl) (by omega) (by omega) (by omega) ls (lv_sub hl [0, 2, 3, 4, 5] rfl)
                                  · skip
                                    rw [Int32.le_iff_toInt_le] at c_548
                                    refine lv_aload_n hx hb dX12_orders_184 rfl (lv_at hl 3 rfl) ?_
                                    refine tk_getP (D := (dC, dI)) (ci := 12) (v := .ref a_32) (C := RX12) (T := TX12) (N := 56) hx hb hU inlX12 hown hK hP mo0 hfo_547 rfl 31 (by decide) (hU _ wd_185) (fun _ h9 => h9) rfl dX12_orders_185 ?_
                                    refine lv_iload hx hb dX12_orders_188 (lv_at hl 0 rfl) ?_
                                    obtain ⟨g_551, hfo_550, hbg_551⟩ := un_593 (hG _ ma_32) ka_32
                                    refine tk_ildP hx hb hK hP 0 ma_32 hfo_550 rfl (vp_in_iff.mpr (by constructor <;> omega)) dX12_orders_190 ?_
                                    refine lv_topi (fun x_552 ex_552 => ?_)
                                    have bx_552 : (0 ≤ x_552.toInt ∧ x_552.toInt ≤ 6560) := by rw [ex_552]; exact hbg_551 _
                                    refine lv_bipush (v := 90) hx hb dX12_orders_191 (by decide) ?_
                                    have hcut_558 : ∀ (f_554 : Nat → va_E), GI (okc cI cL cZ cR cG cH L kd) kd L f_554 → ∀ (H : Heap) (locs : List Loc), va_P (dC, dI) vwCl (va_pl L f_554) H → va_S (fun q => q ∈ L) s.heap H locs → va_D (fun q => q ∈ L) (va_pl L f_554) → (∀ b, kd b ≠ 12 → kd b ≠ 579 → kd b ≠ 581 → kd b ≠ 583 → kd b ≠ 585 → kd b ≠ 587 → kd b ≠ 588 → kd b ≠ 589 → kd b ≠ 590 → kd b ≠ 591 → kd b ≠ 592 → kd b ≠ 593 → kd b ≠ 597 → kd b ≠ 598 → kd b ≠ 599 → kd b ≠ 603 → kd b ≠ 604 → kd b ≠ 606 → kd b ≠ 607 → kd b ≠ 608 → kd b ≠ 609 → kd b ≠ 610 → f_554 b = f b) → (∀ b, kd b = 12 → ∀ j, fldR (f_554 b) j = fldR (f b) j) → (∀ b, kd b = 12 → ∀ j, j ≠ 23 → j ≠ 25 → j ≠ 27 → j ≠ 29 → j ≠ 32 → j ≠ 33 → j ≠ 43 → j ≠ 53 → j ≠ 54 → fldI (f_554 b) j = fldI (f b) j) → (f_554 a_1 = .inl (cI, 1560, .inl g_60)) → (f_554 o0 = .inr (12, [.ref a_1, .ref a_2, .ref a_3, .int v_4, .ref a_5, .int v_6, .int v_7, .int v_8, .int v_9, .int v_10, .int v_11, .int v_12, .int v_13, .int v_14, .int v_15, .ref a_16, .ref a_17, .ref a_18, .ref a_19, .ref a_20, .ref a_21, .ref a_22, .ref a_23, .int v_516, .int v_25, .int v_529, .int v_27, .int v_530, .ref a_29, .int v_531, .ref a_31, .ref a_32, .int v_532, .int v_533, .ref a_35, .int v_36, .ref a_37, .ref a_38, .int v_39, .int v_40, .ref a_41, .ref a_42, .ref a_43, .int v_374, .ref a_45, .ref a_46, .ref a_47, .ref a_48, .ref a_49, .ref a_50, .ref a_51, .ref a_52, .ref a_53, .int v_375, .int v_376, .ref a_56])) → (f_554 a_32 = .inl (cI, 6561, .inl g_551)) → srel kd 592 f_554 o0 → ∀ (ls : Array Slot), lv_has ls 6 [(5, .int y_543), (4, .int y_364), (3, .int x_342), (0, .ref o0), (1, .int p1), (2, .int p2)] → W p l e (headSpec (wU yX12_orders cX12_orders 6 (some .int)) { frames := 24, cells := 0, slots := 0, locals := 676 }).room s m [.ref o0, .int p1, .int p2].toArray below meth c H locs 0 0 (MQ below (va_Qi (fun (r : Int32) (f9 : Nat → va_E) => GI (okc cI cL cZ cR cG cH L kd) kd L f9 ∧ ((-2147483648) ≤ r.toInt ∧ r.toInt ≤ 2147483647) ∧ (∀ b, kd b ≠ 12 → kd b ≠ 579 → kd b ≠ 581 → kd b ≠ 583 → kd b ≠ 585 → kd b ≠ 587 → kd b ≠ 588 → kd b ≠ 589 → kd b ≠ 590 → kd b ≠ 591 → kd b ≠ 592 → kd b ≠ 593 → kd b ≠ 597 → kd b ≠ 598 → kd b ≠ 599 → kd b ≠ 603 → kd b ≠ 604 → kd b ≠ 606 → kd b ≠ 607 → kd b ≠ 608 → kd b ≠ 609 → kd b ≠ 610 → f9 b = f b) ∧ (∀ b, kd b = 12 → ∀ j, fldR (f9 b) j = fldR (f b) j) ∧ (∀ b, kd b = 12 → ∀ j, j ≠ 23 → j ≠ 25 → j ≠ 27 → j ≠ 29 → j ≠ 32 → j ≠ 33 → j ≠ 43 → j ≠ 53 → j ≠ 54 → fldI (f9 b) j = fldI (f b) j) ∧ (∀ (w29 z29 : Int32), fldI (f o0) 29 = some w29 → fldI (f9 o0) 29 = some z29 → z29.toInt = w29.toInt) ∧ (srel kd 592 f9 o0)) (qP (dC, dI) cI cL cZ cR cG cH L) (fun q => q ∈ L)) [.ref o0, .int p1, .int p2].toArray s 0 0 (fun q => q ∈ L)) (F0 m 212 ls []) := by
                                      intro f_554 hG H locs hP hS hD hfr0 hrA12 hfA12 hfo_555 hfo_556 hfo_557 hTc_526 ls hl
                                      obtain ⟨x_559, ex_559⟩ : ∃ y : Int32, y_543 + 1 = y := ⟨_, rfl⟩
                                      have hx_559 : x_559.toInt = y_543.toInt + 1 := by rw [← ex_559, ad_I (by rw [ti_1]; omega) (by rw [ti_1]; omega), ti_1]
                                      have bx_559 : (1 ≤ x_559.toInt ∧ x_559.toInt ≤ 6561) := by constructor <;> omega
                                      refine lv_iinc (v := x_559) (lv' := [(5, .int x_559), (4, .int y_364), (3, .int x_342), (0, .ref o0), (1, .int p1), (2, .int p2)]) hx hb dX12_orders_212 hl (k := 0) rfl ex_559 (by decide) rfl (fun ls hl => ?_)
                                      refine lv_goto (tgt := 175) hx hb dX12_orders_215 (by decide) ?_
                                      exact ih_hloop_542 x_559 (by constructor <;> omega) f_554 hG _ _ hP hS hD hfr0 hrA12 hfA12 hfo_555 hfo_556 hTc_526 (by omega) ls (lv_sub hl [0, 1, 2, 3, 4, 5] rfl)
                                    refine lv_icmp_ge (tgt := 212) hx hb dX12_orders_193 (by decide) (fun c_560 => ?_) (fun c_560 => ?_)
                                    · skip
                                      rw [Int32.le_iff_toInt_le, ti_90] at c_560
                                      exact hcut_558 f_545 hG _ _ hP hS hD hfr0 hrA12 hfA12 hfo_546 hfo_547 hfo_550 hTc_526 ls (lv_sub hl [0, 1, 2, 3, 4, 5] rfl)
                                    · skip
                                      rw [Int32.le_iff_toInt_le, ti_90] at c_560
                                      refine lv_aload_n hx hb dX12_orders_196 rfl (lv_at hl 3 rfl) ?_
                                      refine tk_getP (D := (dC, dI)) (ci := 12) (v := .ref a_49) (C := RX12) (T := TX12) (N := 56) hx hb hU inlX12 hown hK hP mo0 hfo_547 rfl 48 (by decide) (hU _ wd_199) (fun _ h9 => h9) rfl dX12_orders_197 ?_
                                      refine lv_iload hx hb dX12_orders_200 (lv_at hl 1 rfl) ?_
                                      obtain ⟨g_562, hfo_561, hbg_562⟩ := un_605 (hG _ ma_49) ka_49
                                      obtain ⟨a_563, hga_563, ma_563, ka_563⟩ := hbg_562 (Int32.toNatClampNeg y_364) (in_lt (vp_in_iff.mpr (by constructor <;> omega)))
                                      refine tk_aldA hx hb hK hP 5 ma_49 hfo_561 rfl (vp_in_iff.mpr (by constructor <;> omega)) hga_563 dX12_orders_202 ?_
                                      refine lv_aload_n hx hb dX12_orders_203 rfl (lv_at hl 3 rfl) ?_
                                      refine tk_getP (D := (dC, dI)) (ci := 12) (v := .ref a_32) (C := RX12) (T := TX12) (N := 56) hx hb hU inlX12 hown hK hP mo0 hfo_547 rfl 31 (by decide) (hU _ wd_185) (fun _ h9 => h9) rfl dX12_orders_204 ?_
                                      refine lv_iload hx hb dX12_orders_207 (lv_at hl 0 rfl) ?_
                                      refine tk_ildP hx hb hK hP 0 ma_32 hfo_550 rfl (vp_in_iff.mpr (by constructor <;> omega)) dX12_orders_209 ?_
                                      refine tk_topi (y := x_552) ex_552.symm ?_
                                      refine lv_iconst (v := 1) hx hb dX12_orders_210 (by decide) ?_
                                      obtain ⟨g_565, hfo_564, hbg_565⟩ := un_604 (hG _ ma_563) ka_563
                                      refine tk_zstP hx hb hK hP hD hS 2 ma_563 hfo_564 rfl (vp_in_iff.mpr (by constructor <;> omega)) (bt_n (by decide)) dX12_orders_211 (fun H locs hP hD hS => ?_)
                                      obtain ⟨f_567, ef_567⟩ : ∃ y : Nat → va_E, y = va_up f_545 a_563 (.inl (cZ, 90, .inl (upd g_565 (Int32.toNatClampNeg x_552) 1))) := ⟨_, rfl⟩
                                      have hP : va_P (dC, dI) vwCl (va_pl L f_567) H := by rw [ef_567]; exact hP
                                      have hD : va_D (fun q => q ∈ L) (va_pl L f_567) := by rw [ef_567]; exact hD
                                      have hG : GI (okc cI cL cZ cR cG cH L kd) kd L f_567 := by rw [ef_567]; exact hG.set a_563 (mk_604 ka_563 ⟨_, rfl, okI_up hbg_565 (by decide) _⟩)
                                      have hfo_568 : f_567 a_1 = .inl (cI, 1560, .inl g_60) := by rw [ef_567, up_ne (kd_ne ka_563 ka_1 (by decide))]; exact hfo_546
                                      have hfo_569 : f_567 o0 = .inr (12, [.ref a_1, .ref a_2, .ref a_3, .int v_4, .ref a_5, .int v_6, .int v_7, .int v_8, .int v_9, .int v_10, .int v_11, .int v_12, .int v_13, .int v_14, .int v_15, .ref a_16, .ref a_17, .ref a_18, .ref a_19, .ref a_20, .ref a_21, .ref a_22, .ref a_23, .int v_516, .int v_25, .int v_529, .int v_27, .int v_530, .ref a_29, .int v_531, .ref a_31, .ref a_32, .int v_532, .int v_533, .ref a_35, .int v_36, .ref a_37, .ref a_38, .int v_39, .int v_40, .ref a_41, .ref a_42, .ref a_43, .int v_374, .ref a_45, .ref a_46, .ref a_47, .ref a_48, .ref a_49, .ref a_50, .ref a_51, .ref a_52, .ref a_53, .int v_375, .int v_376, .ref a_56]) := by rw [ef_567, up_ne (kd_ne ka_563 ko0 (by decide))]; exact hfo_547
                                      have hfo_570 : f_567 a_32 = .inl (cI, 6561, .inl g_551) := by rw [ef_567, up_ne (kd_ne ka_563 ka_32 (by decide))]; exact hfo_550
                                      have hfo_571 : f_567 a_49 = .inl (cH, 72, .inr (.inr (.inr (.inr g_562)))) := by rw [ef_567, up_ne (kd_ne ka_563 ka_49 (by decide))]; exact hfo_561
                                      have hfr0 : ∀ b, kd b ≠ 12 → kd b ≠ 579 → kd b ≠ 581 → kd b ≠ 583 → kd b ≠ 585 → kd b ≠ 587 → kd b ≠ 588 → kd b ≠ 589 → kd b ≠ 590 → kd b ≠ 591 → kd b ≠ 592 → kd b ≠ 593 → kd b ≠ 597 → kd b ≠ 598 → kd b ≠ 599 → kd b ≠ 603 → kd b ≠ 604 → kd b ≠ 606 → kd b ≠ 607 → kd b ≠ 608 → kd b ≠ 609 → kd b ≠ 610 → f_567 b = f b := fun b q12 q579 q581 q583 q585 q587 q588 q589 q590 q591 q592 q593 q597 q598 q599 q603 q604 q606 q607 q608 q609 q610 => (congrFun ef_567 b).trans ((up_ne (fun e9 => q604 (by rw [e9]; exact ka_563))).trans (hfr0 b q12 q579 q581 q583 q585 q587 q588 q589 q590 q591 q592 q593 q597 q598 q599 q603 q604 q606 q607 q608 q609 q610))
                                      have hrA12 : ∀ b, kd b = 12 → ∀ j, fldR (f_567 b) j = fldR (f b) j := fun b kb j => (congrArg (fun x => fldR x j) ((congrFun ef_567 b).trans (up_ne (kd_ne ka_563 kb (by decide))))).trans (hrA12 b kb j)
                                      have hfA12 : ∀ b, kd b = 12 → ∀ j, j ≠ 23 → j ≠ 25 → j ≠ 27 → j ≠ 29 → j ≠ 32 → j ≠ 33 → j ≠ 43 → j ≠ 53 → j ≠ 54 → fldI (f_567 b) j = fldI (f b) j := fun b kb j n23 n25 n27 n29 n32 n33 n43 n53 n54 => (congrArg (fun x => fldI x j) ((congrFun ef_567 b).trans (up_ne (kd_ne ka_563 kb (by decide))))).trans (hfA12 b kb j n23 n25 n27 n29 n32 n33 n43 n53 n54)
                                      have hTc_526 : srel kd 592 f_567 o0 := by rw [ef_567]; exact hTc_526.keep (fun b q => congrArg (fun x => fldR x 30) (up_ne (kd_ne ka_563 q (by decide)))) (fun b q => congrArg (fun x => fldI x 32) (up_ne (kd_ne ka_563 q (by decide)))) (fun b q => congrArg (fun x => fldI x 33) (up_ne (kd_ne ka_563 q (by decide)))) (fun b q => up_ne (kd_ne ka_563 q (by decide)))
                                      have hfo_572 : f_567 a_563 = .inl (cZ, 90, .inl (upd g_565 (Int32.toNatClampNeg x_552) 1)) := by rw [ef_567]; exact up_self
                                      exact hcut_558 f_567 hG _ _ hP hS hD hfr0 hrA12 hfA12 hfo_568 hfo_569 hfo_570 hTc_526 ls (lv_sub hl [0, 1, 2, 3, 4, 5] rfl)
                              exact hloop_542 6562 0 (by decide) f_521 hG _ _ hP hS hD hfr0 hrA12 hfA12 hfo_528 hfo_534 hTc_526 (by (try rw [ti_0]) <;> omega) ls hl
                            · skip
                              rw [Int32.le_iff_toInt_le, ti_90] at c_506
                              refine lv_aload_n hx hb dX12_orders_138 rfl (lv_at hl 3 rfl) ?_
                              refine tk_getP (D := (dC, dI)) (ci := 12) (v := .ref a_49) (C := RX12) (T := TX12) (N := 56) hx hb hU inlX12 hown hK hP mo0 hfo_505 rfl 48 (by decide) (hU _ wd_199) (fun _ h9 => h9) rfl dX12_orders_139 ?_
                              refine lv_iload hx hb dX12_orders_142 (lv_at hl 1 rfl) ?_
                              obtain ⟨g_574, hfo_573, hbg_574⟩ := un_605 (hG _ ma_49) ka_49
                              obtain ⟨a_575, hga_575, ma_575, ka_575⟩ := hbg_574 (Int32.toNatClampNeg y_364) (in_lt (vp_in_iff.mpr (by constructor <;> omega)))
                              refine tk_aldA hx hb hK hP 5 ma_49 hfo_573 rfl (vp_in_iff.mpr (by constructor <;> omega)) hga_575 dX12_orders_144 ?_
                              refine lv_iload hx hb dX12_orders_145 (lv_at hl 0 rfl) ?_
                              refine lv_iconst (v := 0) hx hb dX12_orders_147 (by decide) ?_
                              obtain ⟨g_577, hfo_576, hbg_577⟩ := un_604 (hG _ ma_575) ka_575
                              refine tk_zstP hx hb hK hP hD hS 2 ma_575 hfo_576 rfl (vp_in_iff.mpr (by constructor <;> omega)) (bt_n (by decide)) dX12_orders_148 (fun H locs hP hD hS => ?_)
                              obtain ⟨f_579, ef_579⟩ : ∃ y : Nat → va_E, y = va_up f_503 a_575 (.inl (cZ, 90, .inl (upd g_577 (Int32.toNatClampNeg y_501) 0))) := ⟨_, rfl⟩
                              have hP : va_P (dC, dI) vwCl (va_pl L f_579) H := by rw [ef_579]; exact hP
                              have hD : va_D (fun q => q ∈ L) (va_pl L f_579) := by rw [ef_579]; exact hD
                              have hG : GI (okc cI cL cZ cR cG cH L kd) kd L f_579 := by rw [ef_579]; exact hG.set a_575 (mk_604 ka_575 ⟨_, rfl, okI_up hbg_577 (by decide) _⟩)
                              have hfo_580 : f_579 a_1 = .inl (cI, 1560, .inl g_60) := by rw [ef_579, up_ne (kd_ne ka_575 ka_1 (by decide))]; exact hfo_504
                              have hfo_581 : f_579 o0 = .inr (12, [.ref a_1, .ref a_2, .ref a_3, .int v_4, .ref a_5, .int v_6, .int v_7, .int v_8, .int v_9, .int v_10, .int v_11, .int v_12, .int v_13, .int v_14, .int v_15, .ref a_16, .ref a_17, .ref a_18, .ref a_19, .ref a_20, .ref a_21, .ref a_22, .ref a_23, .int v_368, .int v_25, .int v_369, .int v_27, .int v_370, .ref a_29, .int v_371, .ref a_31, .ref a_32, .int v_372, .int v_373, .ref a_35, .int v_36, .ref a_37, .ref a_38, .int v_39, .int v_40, .ref a_41, .ref a_42, .ref a_43, .int v_374, .ref a_45, .ref a_46, .ref a_47, .ref a_48, .ref a_49, .ref a_50, .ref a_51, .ref a_52, .ref a_53, .int v_375, .int v_376, .ref a_56]) := by rw [ef_579, up_ne (kd_ne ka_575 ko0 (by decide))]; exact hfo_505
                              have hfo_582 : f_579 a_49 = .inl (cH, 72, .inr (.inr (.inr (.inr g_574)))) := by rw [ef_579, up_ne (kd_ne ka_575 ka_49 (by decide))]; exact hfo_573
                              have hfr0 : ∀ b, kd b ≠ 12 → kd b ≠ 579 → kd b ≠ 581 → kd b ≠ 583 → kd b ≠ 585 → kd b ≠ 587 → kd b ≠ 588 → kd b ≠ 589 → kd b ≠ 590 → kd b ≠ 591 → kd b ≠ 592 → kd b ≠ 593 → kd b ≠ 597 → kd b ≠ 598 → kd b ≠ 599 → kd b ≠ 603 → kd b ≠ 604 → kd b ≠ 606 → kd b ≠ 607 → kd b ≠ 608 → kd b ≠ 609 → kd b ≠ 610 → f_579 b = f b := fun b q12 q579 q581 q583 q585 q587 q588 q589 q590 q591 q592 q593 q597 q598 q599 q603 q604 q606 q607 q608 q609 q610 => (congrFun ef_579 b).trans ((up_ne (fun e9 => q604 (by rw [e9]; exact ka_575))).trans (hfr0 b q12 q579 q581 q583 q585 q587 q588 q589 q590 q591 q592 q593 q597 q598 q599 q603 q604 q606 q607 q608 q609 q610))
                              have hrA12 : ∀ b, kd b = 12 → ∀ j, fldR (f_579 b) j = fldR (f b) j := fun b kb j => (congrArg (fun x => fldR x j) ((congrFun ef_579 b).trans (up_ne (kd_ne ka_575 kb (by decide))))).trans (hrA12 b kb j)
                              have hfA12 : ∀ b, kd b = 12 → ∀ j, j ≠ 23 → j ≠ 25 → j ≠ 27 → j ≠ 29 → j ≠ 32 → j ≠ 33 → j ≠ 43 → j ≠ 53 → j ≠ 54 → fldI (f_579 b) j = fldI (f b) j := fun b kb j n23 n25 n27 n29 n32 n33 n43 n53 n54 => (congrArg (fun x => fldI x j) ((congrFun ef_579 b).trans (up_ne (kd_ne ka_575 kb (by decide))))).trans (hfA12 b kb j n23 n25 n27 n29 n32 n33 n43 n53 n54)
                              have hT0 : srel kd 592 f_579 o0 := by rw [ef_579]; exact hT0.keep (fun b q => congrArg (fun x => fldR x 30) (up_ne (kd_ne ka_575 q (by decide)))) (fun b q => congrArg (fun x => fldI x 32) (up_ne (kd_ne ka_575 q (by decide)))) (fun b q => congrArg (fun x => fldI x 33) (up_ne (kd_ne ka_575 q (by decide)))) (fun b q => up_ne (kd_ne ka_575 q (by decide)))
                              have hfo_583 : f_579 a_575 = .inl (cZ, 90, .inl (upd g_577 (Int32.toNatClampNeg y_501) 0)) := by rw [ef_579]; exact up_self
                              obtain ⟨x_584, ex_584⟩ : ∃ y : Int32, y_501 + 1 = y := ⟨_, rfl⟩
                              have hx_584 : x_584.toInt = y_501.toInt + 1 := by rw [← ex_584, ad_I (by rw [ti_1]; omega) (by rw [ti_1]; omega), ti_1]
                              have bx_584 : (1 ≤ x_584.toInt ∧ x_584.toInt ≤ 90) := by constructor <;> omega
                              refine lv_iinc (v := x_584) (lv' := [(5, .int x_584), (4, .int y_364), (3, .int x_342), (0, .ref o0), (1, .int p1), (2, .int p2)]) hx hb dX12_orders_149 hl (k := 0) rfl ex_584 (by decide) rfl (fun ls hl => ?_)
                              refine lv_goto (tgt := 131) hx hb dX12_orders_152 (by decide) ?_
                              exact ih_hloop_500 x_584 (by constructor <;> omega) f_579 hG _ _ hP hS hD hfr0 hrA12 hfA12 hfo_580 hfo_581 hT0 (by omega) ls (lv_sub hl [0, 1, 2, 3, 4, 5] rfl)
                        exact hloop_500 91 0 (by decide) f_366 hG _ _ hP hS hD hfr0 hrA12 hfA12 hfo_367 hfo_377 hT0 (by (try rw [ti_0]) <;> omega) ls hl
                  exact hloop_363 73 0 (by decide) f_75 hG _ _ hP hS hD hfr0 hrA12 hfA12 hfo_76 hT0 v_80 (by rw [hfo_86]; rfl) (by (try rw [ti_0]) <;> omega) (by (try rw [ti_0]) <;> omega) (by (try rw [ti_0]) <;> omega) ls hl
                · skip
                  rw [← Int32.toInt_inj, ti_1] at c_346
                  exfalso
                  omega
              · skip
                rw [← Int32.toInt_inj, ti_0] at c_341
                refine lv_iconst (v := (-1)) hx hb dX12_orders_104 (by decide) ?_
                exact W.iret (v := (-1)) hx hb hr (fun t ht hW => ⟨⟨(-1), f_75, rfl, ⟨hG, (by decide), hfr0, hrA12, hfA12, (by intro w29 z29 e29 d29; rw [hfo_57] at e29; rw [hfo_86] at d29; obtain rfl := Option.some.inj e29; obtain rfl := Option.some.inj d29; (try rw [ti_m1]) <;> omega), hT0⟩, by rw [ht]; exact hP, va_K.moved hW.alike hK, pl_in hD⟩, hS.F ht⟩) hS.2.2 dX12_orders_105
      · skip
        rw [Int32.le_iff_toInt_le] at c_89
        refine lv_aload_n hx hb dX12_orders_18 rfl (lv_at hl 1 rfl) ?_
        refine tk_getP (D := (dC, dI)) (ci := 12) (v := .ref a_1) (C := RX12) (T := TX12) (N := 56) hx hb hU inlX12 hown hK hP mo0 hfo_86 rfl 0 (by decide) (hU _ wd_169) (fun _ h9 => h9) rfl dX12_orders_19 ?_
        refine lv_bipush (v := 40) hx hb dX12_orders_22 (by decide) ?_
        refine tk_ildP hx hb hK hP 0 ma_1 hfo_76 rfl (vp_in_nI (n := 40) (by decide) (by decide)) dX12_orders_24 ?_
        refine lv_topi (fun x_585 ex_585 => ?_)
        have bx_585 : (0 ≤ x_585.toInt ∧ x_585.toInt ≤ 255) := by rw [ex_585]; exact hbg_60.2.2.2.2.2.2.1 _ (by decide) (by decide) (by decide)
        refine lv_iload_n hx hb dX12_orders_25 rfl (lv_at hl 0 rfl) ?_
        refine lv_ishr hx hb dX12_orders_26 ?_
        refine lv_topi (fun x_586 ex_586 => ?_)
        have bx_586 : ((-2147483648) ≤ x_586.toInt ∧ x_586.toInt ≤ 2147483647) := ⟨i32_lo _, i32_hi _⟩
        refine lv_iconst (v := 1) hx hb dX12_orders_27 (by decide) ?_
        refine lv_iand hx hb dX12_orders_28 ?_
        refine lv_topi (fun x_587 ex_587 => ?_)
        have bx_587 : (0 ≤ x_587.toInt ∧ x_587.toInt ≤ 1) := by rw [ex_587]; have h8 := an_C x_586 (m := 1) (by decide); rw [ti_1] at h8; exact h8
        have hcut_591 : ∀ (f_589 : Nat → va_E), GI (okc cI cL cZ cR cG cH L kd) kd L f_589 → ∀ (H : Heap) (locs : List Loc), va_P (dC, dI) vwCl (va_pl L f_589) H → va_S (fun q => q ∈ L) s.heap H locs → va_D (fun q => q ∈ L) (va_pl L f_589) → (∀ b, kd b ≠ 12 → kd b ≠ 579 → kd b ≠ 581 → kd b ≠ 583 → kd b ≠ 585 → kd b ≠ 587 → kd b ≠ 588 → kd b ≠ 589 → kd b ≠ 590 → kd b ≠ 591 → kd b ≠ 592 → kd b ≠ 593 → kd b ≠ 597 → kd b ≠ 598 → kd b ≠ 599 → kd b ≠ 603 → kd b ≠ 604 → kd b ≠ 606 → kd b ≠ 607 → kd b ≠ 608 → kd b ≠ 609 → kd b ≠ 610 → f_589 b = f b) → (∀ b, kd b = 12 → ∀ j, fldR (f_589 b) j = fldR (f b) j) → (∀ b, kd b = 12 → ∀ j, j ≠ 23 → j ≠ 25 → j ≠ 27 → j ≠ 29 → j ≠ 32 → j ≠ 33 → j ≠ 43 → j ≠ 53 → j ≠ 54 → fldI (f_589 b) j = fldI (f b) j) → (f_589 a_1 = .inl (cI, 1560, .inl g_60)) → srel kd 592 f_589 o0 → ∀ (whcut_591_0_53 : Int32), fldI (f_589 o0) 53 = some whcut_591_0_53 → ∀ (whcut_591_0_29 : Int32), fldI (f_589 o0) 29 = some whcut_591_0_29 → (whcut_591_0_53.toInt ≤ y_73.toInt + 1 ∧ whcut_591_0_29.toInt = v_30.toInt) → ∀ (ls : Array Slot), lv_has ls 6 [(3, .int y_73), (0, .ref o0), (1, .int p1), (2, .int p2)] → W p l e (headSpec (wU yX12_orders cX12_orders 6 (some .int)) { frames := 24, cells := 0, slots := 0, locals := 676 }).room s m [.ref o0, .int p1, .int p2].toArray below meth c H locs 0 0 (MQ below (va_Qi (fun (r : Int32) (f9 : Nat → va_E) => GI (okc cI cL cZ cR cG cH L kd) kd L f9 ∧ ((-2147483648) ≤ r.toInt ∧ r.toInt ≤ 2147483647) ∧ (∀ b, kd b ≠ 12 → kd b ≠ 579 → kd b ≠ 581 → kd b ≠ 583 → kd b ≠ 585 → kd b ≠ 587 → kd b ≠ 588 → kd b ≠ 589 → kd b ≠ 590 → kd b ≠ 591 → kd b ≠ 592 → kd b ≠ 593 → kd b ≠ 597 → kd b ≠ 598 → kd b ≠ 599 → kd b ≠ 603 → kd b ≠ 604 → kd b ≠ 606 → kd b ≠ 607 → kd b ≠ 608 → kd b ≠ 609 → kd b ≠ 610 → f9 b = f b) ∧ (∀ b, kd b = 12 → ∀ j, fldR (f9 b) j = fldR (f b) j) ∧ (∀ b, kd b = 12 → ∀ j, j ≠ 23 → j ≠ 25 → j ≠ 27 → j ≠ 29 → j ≠ 32 → j ≠ 33 → j ≠ 43 → j ≠ 53 → j ≠ 54 → fldI (f9 b) j = fldI (f b) j) ∧ (∀ (w29 z29 : Int32), fldI (f o0) 29 = some w29 → fldI (f9 o0) 29 = some z29 → z29.toInt = w29.toInt) ∧ (srel kd 592 f9 o0)) (qP (dC, dI) cI cL cZ cR cG cH L) (fun q => q ∈ L)) [.ref o0, .int p1, .int p2].toArray s 0 0 (fun q => q ∈ L)) (F0 m 55 ls []) := by
          intro f_589 hG H locs hP hS hD hfr0 hrA12 hfA12 hfo_590 hT0 whcut_591_0_53 hghcut_591_0_53 whcut_591_0_29 hghcut_591_0_29 hjhcut_591_0 ls hl
          obtain ⟨v_592, v_593, v_594, v_595, v_596, v_597, v_598, v_599, v_600, hfo_601, fa_602⟩ := op12_23_25_27_29_32_33_43_53_54 hfo_57 (hG _ mo0) ko0 (hrA12 o0 ko0) (hfA12 o0 ko0)
          have bv_592 : (0 ≤ v_592.toInt ∧ v_592.toInt ≤ 12) := fa12_23 fa_602
          have bv_593 : (0 ≤ v_593.toInt ∧ v_593.toInt ≤ 4) := fa12_25 fa_602
          have bv_594 : (0 ≤ v_594.toInt ∧ v_594.toInt ≤ 1) := fa12_27 fa_602
          have bv_595 : (0 ≤ v_595.toInt ∧ v_595.toInt ≤ 201) := fa12_29 fa_602
          have bv_596 : (0 ≤ v_596.toInt ∧ v_596.toInt ≤ 6561) := fa12_32 fa_602
          have bv_597 : ((-2147483648) ≤ v_597.toInt ∧ v_597.toInt ≤ 2147483647) := ⟨i32_lo _, i32_hi _⟩
          have bv_598 : (0 ≤ v_598.toInt ∧ v_598.toInt ≤ 8) := fa12_43 fa_602
          have bv_599 : (0 ≤ v_599.toInt ∧ v_599.toInt ≤ 8) := fa12_53 fa_602
          have bv_600 : ((-2147483648) ≤ v_600.toInt ∧ v_600.toInt ≤ 2147483647) := ⟨i32_lo _, i32_hi _⟩
          obtain rfl : v_599 = whcut_591_0_53 := by rw [hfo_601] at hghcut_591_0_53; exact Option.some.inj hghcut_591_0_53
          obtain rfl : v_595 = whcut_591_0_29 := by rw [hfo_601] at hghcut_591_0_29; exact Option.some.inj hghcut_591_0_29
          obtain ⟨x_603, ex_603⟩ : ∃ y : Int32, y_73 + 1 = y := ⟨_, rfl⟩
          have hx_603 : x_603.toInt = y_73.toInt + 1 := by rw [← ex_603, ad_I (by rw [ti_1]; omega) (by rw [ti_1]; omega), ti_1]
          have bx_603 : (1 ≤ x_603.toInt ∧ x_603.toInt ≤ 8) := by constructor <;> omega
          refine lv_iinc (v := x_603) (lv' := [(3, .int x_603), (0, .ref o0), (1, .int p1), (2, .int p2)]) hx hb dX12_orders_55 hl (k := 0) rfl ex_603 (by decide) rfl (fun ls hl => ?_)
          refine lv_goto (tgt := 7) hx hb dX12_orders_58 (by decide) ?_
          exact ih_hloop_72 x_603 (by constructor <;> omega) f_589 hG _ _ hP hS hD hfr0 hrA12 hfA12 hfo_590 hT0 v_599 (by rw [hfo_601]; rfl) v_595 (by rw [hfo_601]; rfl) (by omega) (by omega) (by omega) (by omega) (by omega) ls (lv_sub hl [0, 1, 2, 3] rfl)
        refine lv_if_ne (tgt := 35) hx hb dX12_orders_29 (by decide) (fun c_604 => ?_) (fun c_604 => ?_)
        · skip
          rw [← Int32.toInt_inj, ti_0] at c_604
          have hclc_605 : (0 ≤ v_84.toInt ∧ v_84.toInt ≤ 7) := by constructor <;> omega
          refine lv_aload_n hx hb dX12_orders_35 rfl (lv_at hl 1 rfl) ?_
          refine tk_getP (D := (dC, dI)) (ci := 12) (v := .ref a_50) (C := RX12) (T := TX12) (N := 56) hx hb hU inlX12 hown hK hP mo0 hfo_86 rfl 49 (by decide) (hU _ wd_200) (fun _ h9 => h9) rfl dX12_orders_36 ?_
          refine lv_aload_n hx hb dX12_orders_39 rfl (lv_at hl 1 rfl) ?_
          refine tk_getP (D := (dC, dI)) (ci := 12) (v := .int v_84) (C := RX12) (T := TX12) (N := 56) hx hb hU inlX12 hown hK hP mo0 hfo_86 rfl 53 (by decide) (hU _ wd_1241) (fun _ h9 => h9) rfl dX12_orders_40 ?_
          refine lv_iload_n hx hb dX12_orders_43 rfl (lv_at hl 0 rfl) ?_
          obtain ⟨g_607, hfo_606, hbg_607⟩ := un_606 (hG _ ma_50) ka_50
          refine tk_istP hx hb hK hP hD hS 0 ma_50 hfo_606 rfl (vp_in_iff.mpr (by constructor <;> omega)) dX12_orders_44 (fun H locs hP hD hS => ?_)
          obtain ⟨f_609, ef_609⟩ : ∃ y : Nat → va_E, y = va_up f_75 a_50 (.inl (cI, 8, .inl (upd g_607 (Int32.toNatClampNeg v_84) y_73))) := ⟨_, rfl⟩
          have hP : va_P (dC, dI) vwCl (va_pl L f_609) H := by rw [ef_609]; exact hP
          have hD : va_D (fun q => q ∈ L) (va_pl L f_609) := by rw [ef_609]; exact hD
          have hG : GI (okc cI cL cZ cR cG cH L kd) kd L f_609 := by rw [ef_609]; exact hG.set a_50 (mk_606 ka_50 ⟨_, rfl, okI_up hbg_607 (by constructor <;> omega) _⟩)
          have hfo_610 : f_609 a_1 = .inl (cI, 1560, .inl g_60) := by rw [ef_609, up_ne (kd_ne ka_50 ka_1 (by decide))]; exact hfo_76
          have hfo_611 : f_609 o0 = .inr (12, [.ref a_1, .ref a_2, .ref a_3, .int v_4, .ref a_5, .int v_6, .int v_7, .int v_8, .int v_9, .int v_10, .int v_11, .int v_12, .int v_13, .int v_14, .int v_15, .ref a_16, .ref a_17, .ref a_18, .ref a_19, .ref a_20, .ref a_21, .ref a_22, .ref a_23, .int v_77, .int v_25, .int v_78, .int v_27, .int v_79, .ref a_29, .int v_80, .ref a_31, .ref a_32, .int v_81, .int v_82, .ref a_35, .int v_36, .ref a_37, .ref a_38, .int v_39, .int v_40, .ref a_41, .ref a_42, .ref a_43, .int v_83, .ref a_45, .ref a_46, .ref a_47, .ref a_48, .ref a_49, .ref a_50, .ref a_51, .ref a_52, .ref a_53, .int v_84, .int v_85, .ref a_56]) := by rw [ef_609, up_ne (kd_ne ka_50 ko0 (by decide))]; exact hfo_86
          have hfr0 : ∀ b, kd b ≠ 12 → kd b ≠ 579 → kd b ≠ 581 → kd b ≠ 583 → kd b ≠ 585 → kd b ≠ 587 → kd b ≠ 588 → kd b ≠ 589 → kd b ≠ 590 → kd b ≠ 591 → kd b ≠ 592 → kd b ≠ 593 → kd b ≠ 597 → kd b ≠ 598 → kd b ≠ 599 → kd b ≠ 603 → kd b ≠ 604 → kd b ≠ 606 → kd b ≠ 607 → kd b ≠ 608 → kd b ≠ 609 → kd b ≠ 610 → f_609 b = f b := fun b q12 q579 q581 q583 q585 q587 q588 q589 q590 q591 q592 q593 q597 q598 q599 q603 q604 q606 q607 q608 q609 q610 => (congrFun ef_609 b).trans ((up_ne (fun e9 => q606 (by rw [e9]; exact ka_50))).trans (hfr0 b q12 q579 q581 q583 q585 q587 q588 q589 q590 q591 q592 q593 q597 q598 q599 q603 q604 q606 q607 q608 q609 q610))
          have hrA12 : ∀ b, kd b = 12 → ∀ j, fldR (f_609 b) j = fldR (f b) j := fun b kb j => (congrArg (fun x => fldR x j) ((congrFun ef_609 b).trans (up_ne (kd_ne ka_50 kb (by decide))))).trans (hrA12 b kb j)
          have hfA12 : ∀ b, kd b = 12 → ∀ j, j ≠ 23 → j ≠ 25 → j ≠ 27 → j ≠ 29 → j ≠ 32 → j ≠ 33 → j ≠ 43 → j ≠ 53 → j ≠ 54 → fldI (f_609 b) j = fldI (f b) j := fun b kb j n23 n25 n27 n29 n32 n33 n43 n53 n54 => (congrArg (fun x => fldI x j) ((congrFun ef_609 b).trans (up_ne (kd_ne ka_50 kb (by decide))))).trans (hfA12 b kb j n23 n25 n27 n29 n32 n33 n43 n53 n54)
          have hT0 : srel kd 592 f_609 o0 := by rw [ef_609]; exact hT0.keep (fun b q => congrArg (fun x => fldR x 30) (up_ne (kd_ne ka_50 q (by decide)))) (fun b q => congrArg (fun x => fldI x 32) (up_ne (kd_ne ka_50 q (by decide)))) (fun b q => congrArg (fun x => fldI x 33) (up_ne (kd_ne ka_50 q (by decide)))) (fun b q => up_ne (kd_ne ka_50 q (by decide)))
          have hfo_612 : f_609 a_50 = .inl (cI, 8, .inl (upd g_607 (Int32.toNatClampNeg v_84) y_73)) := by rw [ef_609]; exact up_self
          refine lv_aload_n hx hb dX12_orders_45 rfl (lv_at hl 1 rfl) ?_
          refine lv_dup hx hb dX12_orders_46 rfl ?_
          refine tk_getP (D := (dC, dI)) (ci := 12) (v := .int v_84) (C := RX12) (T := TX12) (N := 56) hx hb hU inlX12 hown hK hP mo0 hfo_611 rfl 53 (by decide) (hU _ wd_1241) (fun _ h9 => h9) rfl dX12_orders_47 ?_
          refine lv_iconst (v := 1) hx hb dX12_orders_50 (by decide) ?_
          refine lv_iadd hx hb dX12_orders_51 ?_
          refine lv_topi (fun x_613 ex_613 => ?_)
          have hx_613 : x_613.toInt = v_84.toInt + 1 := by rw [ex_613, ad_I (by rw [ti_1]; omega) (by rw [ti_1]; omega), ti_1]
          have bx_613 : (1 ≤ x_613.toInt ∧ x_613.toInt ≤ 8) := by constructor <;> omega
          refine tk_putP (D := (dC, dI)) (ci := 12) (v := .int x_613) (ty := .int) (C := RX12) (T := TX12) (N := 56) hx hb hU inlX12 tyX12 tyX12_ok nmX12 hown hK hP hD hS mo0 hfo_611 rfl 53 (by decide) (hU _ wd_1241) (fun _ h9 => h9) rfl (by decide +kernel) rfl rfl (Nat.le_of_ble_eq_true rfl) dX12_orders_52 (fun H locs hP hD hS => ?_)
          have fa_614 := fu12_53 (y := x_613) fa_87 (by constructor <;> omega)
          obtain ⟨f_616, ef_616⟩ : ∃ y : Nat → va_E, y = va_up f_609 o0 (.inr (12, [.ref a_1, .ref a_2, .ref a_3, .int v_4, .ref a_5, .int v_6, .int v_7, .int v_8, .int v_9, .int v_10, .int v_11, .int v_12, .int v_13, .int v_14, .int v_15, .ref a_16, .ref a_17, .ref a_18, .ref a_19, .ref a_20, .ref a_21, .ref a_22, .ref a_23, .int v_77, .int v_25, .int v_78, .int v_27, .int v_79, .ref a_29, .int v_80, .ref a_31, .ref a_32, .int v_81, .int v_82, .ref a_35, .int v_36, .ref a_37, .ref a_38, .int v_39, .int v_40, .ref a_41, .ref a_42, .ref a_43, .int v_83, .ref a_45, .ref a_46, .ref a_47, .ref a_48, .ref a_49, .ref a_50, .ref a_51, .ref a_52, .ref a_53, .int x_613, .int v_85, .ref a_56])) := ⟨_, rfl⟩
          have hP : va_P (dC, dI) vwCl (va_pl L f_616) H := by rw [ef_616]; exact hP
          have hD : va_D (fun q => q ∈ L) (va_pl L f_616) := by rw [ef_616]; exact hD
          have hG : GI (okc cI cL cZ cR cG cH L kd) kd L f_616 := by rw [ef_616]; exact hG.set o0 (mk_12 ko0 (fo12 fa_614))
          have hfo_617 : f_616 a_1 = .inl (cI, 1560, .inl g_60) := by rw [ef_616, up_ne (kd_ne ko0 ka_1 (by decide))]; exact hfo_610
          have hfr0 : ∀ b, kd b ≠ 12 → kd b ≠ 579 → kd b ≠ 581 → kd b ≠ 583 → kd b ≠ 585 → kd b ≠ 587 → kd b ≠ 588 → kd b ≠ 589 → kd b ≠ 590 → kd b ≠ 591 → kd b ≠ 592 → kd b ≠ 593 → kd b ≠ 597 → kd b ≠ 598 → kd b ≠ 599 → kd b ≠ 603 → kd b ≠ 604 → kd b ≠ 606 → kd b ≠ 607 → kd b ≠ 608 → kd b ≠ 609 → kd b ≠ 610 → f_616 b = f b := fun b q12 q579 q581 q583 q585 q587 q588 q589 q590 q591 q592 q593 q597 q598 q599 q603 q604 q606 q607 q608 q609 q610 => (congrFun ef_616 b).trans ((up_ne (fun e9 => q12 (by rw [e9]; exact ko0))).trans (hfr0 b q12 q579 q581 q583 q585 q587 q588 q589 q590 q591 q592 q593 q597 q598 q599 q603 q604 q606 q607 q608 q609 q610))
          have hrA12 : ∀ b, kd b = 12 → ∀ j, fldR (f_616 b) j = fldR (f b) j := fun b kb j => ((congrArg (fun x => fldR x j) (congrFun ef_616 b)).trans (fra_up (fun j => by rw [hfo_611]; exact fr_set (k := 53) rfl rfl) j b)).trans (hrA12 b kb j)
          have hfA12 : ∀ b, kd b = 12 → ∀ j, j ≠ 23 → j ≠ 25 → j ≠ 27 → j ≠ 29 → j ≠ 32 → j ≠ 33 → j ≠ 43 → j ≠ 53 → j ≠ 54 → fldI (f_616 b) j = fldI (f b) j := fun b kb j n23 n25 n27 n29 n32 n33 n43 n53 n54 => ((congrArg (fun x => fldI x j) (congrFun ef_616 b)).trans (fia_up (fun h9 => by rw [hfo_611]; exact fi_set (k := 53) rfl h9) n53 b)).trans (hfA12 b kb j n23 n25 n27 n29 n32 n33 n43 n53 n54)
          have hT0 : srel kd 592 f_616 o0 := by rw [ef_616]; exact hT0.keep (fun b _ => fr_up (by rw [hfo_611]; rfl) b) (fun b _ => fk_up (by rw [hfo_611]; rfl) b) (fun b _ => fk_up (by rw [hfo_611]; rfl) b) (fun b q => up_ne (kd_ne ko0 q (by decide)))
          have hfo_618 : f_616 o0 = .inr (12, [.ref a_1, .ref a_2, .ref a_3, .int v_4, .ref a_5, .int v_6, .int v_7, .int v_8, .int v_9, .int v_10, .int v_11, .int v_12, .int v_13, .int v_14, .int v_15, .ref a_16, .ref a_17, .ref a_18, .ref a_19, .ref a_20, .ref a_21, .ref a_22, .ref a_23, .int v_77, .int v_25, .int v_78, .int v_27, .int v_79, .ref a_29, .int v_80, .ref a_31, .ref a_32, .int v_81, .int v_82, .ref a_35, .int v_36, .ref a_37, .ref a_38, .int v_39, .int v_40, .ref a_41, .ref a_42, .ref a_43, .int v_83, .ref a_45, .ref a_46, .ref a_47, .ref a_48, .ref a_49, .ref a_50, .ref a_51, .ref a_52, .ref a_53, .int x_613, .int v_85, .ref a_56]) := by rw [ef_616]; exact up_self
          exact hcut_591 f_616 hG _ _ hP hS hD hfr0 hrA12 hfA12 hfo_617 hT0 x_613 (by rw [hfo_618]; rfl) v_80 (by rw [hfo_618]; rfl) (by omega) ls (lv_sub hl [0, 1, 2, 3] rfl)
        · skip
          rw [← Int32.toInt_inj, ti_0] at c_604
          refine lv_goto (tgt := 55) hx hb dX12_orders_32 (by decide) ?_
          exact hcut_591 f_75 hG _ _ hP hS hD hfr0 hrA12 hfA12 hfo_76 hT0 v_84 (by rw [hfo_86]; rfl) v_80 (by rw [hfo_86]; rfl) (by omega) ls (lv_sub hl [0, 1, 2, 3] rfl)
  exact hloop_72 9 0 (by decide) f_63 hG _ _ hP hS hD hfr0 hrA12 hfA12 hfo_64 hT0 0 (by rw [hfo_65]; rfl) v_30 (by rw [hfo_65]; rfl) (by (try rw [ti_0]) <;> omega) (by (try rw [ti_0]) <;> omega) (by (try rw [ti_0]) <;> omega) (by (try rw [ti_0]) <;> omega) (by (try rw [ti_0]) <;> omega) ls hl
