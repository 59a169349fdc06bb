set_option maxHeartbeats 8000000 in
set_option maxRecDepth 100000 in
theorem s_X12_text_k12 (l : Launch) (D : va_G) (cI cL cZ cR cG cH : ClassId) (Z : zT) (kd : Nat → Nat) (L : List Nat) (f : Nat → va_E) (hG : GI (okc cI cL cZ cR cG cH L kd) kd L f) (o0 : Nat) (mo0 : o0 ∈ L) (ko0 : kd o0 = 12) : mPI l D cI cL cZ cR cG cH Z yX12_text cX12_text 3 (some .int) 9 197 [.ref o0] L f (fun (r : Int32) (f9 : Nat → va_E) => GI (okc cI cL cZ cR cG cH L kd) kd L f9 ∧ ((-2147483648) ≤ r.toInt ∧ r.toInt ≤ 2147483647) ∧ (∀ b, kd b ≠ 12 → kd b ≠ 575 → kd b ≠ 576 → f9 b = f b) ∧ (∀ b, kd b = 12 → ∀ j, fldR (f9 b) j = fldR (f b) j) ∧ (∀ b, kd b = 12 → ∀ j, j ≠ 5 → j ≠ 6 → j ≠ 7 → j ≠ 8 → j ≠ 9 → j ≠ 10 → j ≠ 11 → j ≠ 12 → j ≠ 13 → j ≠ 14 → j ≠ 29 → j ≠ 38 → j ≠ 39 → j ≠ 43 → fldI (f9 b) j = fldI (f b) j) ∧ (∀ (w5 z5 : Int32) (w29 z29 : Int32), fldI (f o0) 5 = some w5 → fldI (f o0) 29 = some w29 → fldI (f9 o0) 5 = some z5 → fldI (f9 o0) 29 = some z29 → z5.toInt = 0 ∧ (w29.toInt ≤ 200 → z29.toInt ≤ 200))) := by
  obtain ⟨dC, dI⟩ := D
  refine Met.ofW (cc := cX12_text) (maxL := 3) (ret := (some .int)) (by decide) rfl ?_
  intro p e s m args below meth c s₁ B hml hv
  obtain ⟨rfl, hP, hK, hD0, hN, hZ⟩ := hv
  have hx := B.exec
  have hb := B.bytes
  have hr := B.returns
  have hU : ∀ w ∈ wsU, w.before _ s = true := fun w h => atoms_spec (ws := wU yX12_text cX12_text 3 (some .int)) B.pre w (List.mem_cons_of_mem _ h)
  have hown : s.vm.findClass RX12 = some m.cls := findClass_of_methodNamed B.named
  have hlocks := B.notSynchronized
  have hD := pl_in hD0
  have hS : va_S (fun q => q ∈ L) s.heap s.heap [] := va_S.rf
  have hl := lv_entry ([.ref o0]) (n := 3) (Nat.le_of_ble_eq_true rfl)
  rw [lg_entry_eq]
  generalize (lg_sl ([.ref o0]) ++ List.replicate (3 - (lg_sl ([.ref o0])).length) Slot.unset).toArray = ls at hl ⊢
  have hl : lv_has ls 3 [(0, .ref o0)] := hl
  have hfr0 : ∀ b, kd b ≠ 12 → kd b ≠ 575 → kd b ≠ 576 → f b = f b := fun _ _ _ _ => rfl
  have hrA12 : ∀ b, kd b = 12 → ∀ j, fldR (f b) j = fldR (f b) j := fun _ _ _ => rfl
  have hfA12 : ∀ b, kd b = 12 → ∀ j, j ≠ 5 → j ≠ 6 → j ≠ 7 → j ≠ 8 → j ≠ 9 → j ≠ 10 → j ≠ 11 → j ≠ 12 → j ≠ 13 → j ≠ 14 → j ≠ 29 → j ≠ 38 → j ≠ 39 → j ≠ 43 → fldI (f b) j = fldI (f b) j := fun _ _ _ _ _ _ _ _ _ _ _ _ _ _ _ _ _ => rfl
  obtain ⟨a_1, a_2, a_3, v_4, a_5, v_6, v_7, v_8, v_9, v_10, v_11, v_12, v_13, v_14, v_15, a_16, a_17, a_18, a_19, a_20, a_21, a_22, a_23, v_24, v_25, v_26, v_27, v_28, a_29, v_30, a_31, a_32, v_33, v_34, a_35, v_36, a_37, a_38, v_39, v_40, a_41, a_42, a_43, v_44, a_45, a_46, a_47, a_48, a_49, a_50, a_51, a_52, a_53, v_54, v_55, a_56, hfo_57, fa_58⟩ := un12 (hG _ mo0) ko0
  obtain ⟨ma_1, ka_1⟩ := fa12_0 fa_58
  obtain ⟨ma_2, ka_2⟩ := fa12_1 fa_58
  have bv_30 : (0 ≤ v_30.toInt ∧ v_30.toInt ≤ 201) := fa12_29 fa_58
  refine lv_iconst (v := 0) hx hb dX12_text_0 (by decide) ?_
  refine lv_istore_n (lv' := [(1, .int 0), (0, .ref o0)]) hx hb dX12_text_1 rfl hl (by decide) rfl (fun ls hl => ?_)
  have hloop_74 : ∀ (n : Nat), ∀ (y_75 : Int32), (0 ≤ y_75.toInt ∧ y_75.toInt ≤ 1560) → ∀ (f_77 : Nat → va_E), GI (okc cI cL cZ cR cG cH L kd) kd L f_77 → ∀ (H : Heap) (locs : List Loc), va_P (dC, dI) vwCl (va_pl L f_77) H → va_S (fun q => q ∈ L) s.heap H locs → va_D (fun q => q ∈ L) (va_pl L f_77) → (∀ b, kd b ≠ 12 → kd b ≠ 575 → kd b ≠ 576 → f_77 b = f b) → (∀ b, kd b = 12 → ∀ j, fldR (f_77 b) j = fldR (f b) j) → (∀ b, kd b = 12 → ∀ j, j ≠ 5 → j ≠ 6 → j ≠ 7 → j ≠ 8 → j ≠ 9 → j ≠ 10 → j ≠ 11 → j ≠ 12 → j ≠ 13 → j ≠ 14 → j ≠ 29 → j ≠ 38 → j ≠ 39 → j ≠ 43 → fldI (f_77 b) j = fldI (f b) j) → (f_77 o0 = .inr (12, [.ref a_1, .ref a_2, .ref a_3, .int v_4, .ref a_5, .int v_6, .int v_7, .int v_8, .int v_9, .int v_10, .int v_11, .int v_12, .int v_13, .int v_14, .int v_15, .ref a_16, .ref a_17, .ref a_18, .ref a_19, .ref a_20, .ref a_21, .ref a_22, .ref a_23, .int v_24, .int v_25, .int v_26, .int v_27, .int v_28, .ref a_29, .int v_30, .ref a_31, .ref a_32, .int v_33, .int v_34, .ref a_35, .int v_36, .ref a_37, .ref a_38, .int v_39, .int v_40, .ref a_41, .ref a_42, .ref a_43, .int v_44, .ref a_45, .ref a_46, .ref a_47, .ref a_48, .ref a_49, .ref a_50, .ref a_51, .ref a_52, .ref a_53, .int v_54, .int v_55, .ref a_56])) → (∀ g9, f_77 a_2 = .inl (cI, 1560, .inl g9) → ∀ j : Nat, (j : Int) < y_75.toInt → g9 j = 0) → 1560 - y_75.toInt < (n : Int) → ∀ (ls : Array Slot), lv_has ls 3 [(1, .int y_75), (0, .ref o0)] → W p l e (headSpec (wU yX12_text cX12_text 3 (some .int)) { frames := 9, cells := 0, slots := 0, locals := 197 }).room s m [.ref o0].toArray below meth c H locs 0 0 (MQ below (va_Qi (fun (r : Int32) (f9 : Nat → va_E) => GI (okc cI cL cZ cR cG cH L kd) kd L f9 ∧ ((-2147483648) ≤ r.toInt ∧ r.toInt ≤ 2147483647) ∧ (∀ b, kd b ≠ 12 → kd b ≠ 575 → kd b ≠ 576 → f9 b = f b) ∧ (∀ b, kd b = 12 → ∀ j, fldR (f9 b) j = fldR (f b) j) ∧ (∀ b, kd b = 12 → ∀ j, j ≠ 5 → j ≠ 6 → j ≠ 7 → j ≠ 8 → j ≠ 9 → j ≠ 10 → j ≠ 11 → j ≠ 12 → j ≠ 13 → j ≠ 14 → j ≠ 29 → j ≠ 38 → j ≠ 39 → j ≠ 43 → fldI (f9 b) j = fldI (f b) j) ∧ (∀ (w5 z5 : Int32) (w29 z29 : Int32), fldI (f o0) 5 = some w5 → fldI (f o0) 29 = some w29 → fldI (f9 o0) 5 = some z5 → fldI (f9 o0) 29 = some z29 → z5.toInt = 0 ∧ (w29.toInt ≤ 200 → z29.toInt ≤ 200))) (qP (dC, dI) cI cL cZ cR cG cH L) (fun q => q ∈ L)) [.ref o0].toArray s 0 0 (fun q => q ∈ L)) (F0 m 2 ls []) := by
    intro n
    induction n with
    | zero => intro y_75 by_75 f_77 hG H locs hP hS hD hfr0 hrA12 hfA12 hfo_78 hxz hmuhloop_74 ls hl; exfalso; omega
    | succ n ih_hloop_74 =>
      intro y_75 by_75 f_77 hG H locs hP hS hD hfr0 hrA12 hfA12 hfo_78 hxz hmuhloop_74 ls hl
      refine lv_iload_n hx hb dX12_text_2 rfl (lv_at hl 0 rfl) ?_
      refine lv_sipush (v := 1560) hx hb dX12_text_3 (by decide) ?_
      refine lv_icmp_ge (tgt := 22) hx hb dX12_text_6 (by decide) (fun c_79 => ?_) (fun c_79 => ?_)
      · skip
        rw [Int32.le_iff_toInt_le, ti_1560] at c_79
        obtain ⟨g_81, hfo_80, hbg_81⟩ := un_576 (hG _ ma_2) ka_2
        have hTt_82 : frel kd 576 8 f_77 a_2 := frel.mk ka_2 hfo_80 (fOK.zero (fun j hj => hxz g_81 hfo_80 j (by omega)))
        refine lv_aload_n hx hb dX12_text_22 rfl (lv_at hl 1 rfl) ?_
        refine lv_iconst (v := 0) hx hb dX12_text_23 (by decide) ?_
        refine tk_putP (D := (dC, dI)) (ci := 12) (v := .int 0) (ty := .int) (C := RX12) (T := TX12) (N := 56) hx hb hU inlX12 tyX12 tyX12_ok nmX12 hown hK hP hD hS mo0 hfo_78 rfl 6 (by decide) (hU _ wd_566) (fun _ h9 => h9) rfl (by decide +kernel) rfl rfl (Nat.le_of_ble_eq_true rfl) dX12_text_24 (fun H locs hP hD hS => ?_)
        have fa_83 := fu12_6 (y := 0) fa_58 (by decide)
        obtain ⟨f_85, ef_85⟩ : ∃ y : Nat → va_E, y = va_up f_77 o0 (.inr (12, [.ref a_1, .ref a_2, .ref a_3, .int v_4, .ref a_5, .int v_6, .int 0, .int v_8, .int v_9, .int v_10, .int v_11, .int v_12, .int v_13, .int v_14, .int v_15, .ref a_16, .ref a_17, .ref a_18, .ref a_19, .ref a_20, .ref a_21, .ref a_22, .ref a_23, .int v_24, .int v_25, .int v_26, .int v_27, .int v_28, .ref a_29, .int v_30, .ref a_31, .ref a_32, .int v_33, .int v_34, .ref a_35, .int v_36, .ref a_37, .ref a_38, .int v_39, .int v_40, .ref a_41, .ref a_42, .ref a_43, .int v_44, .ref a_45, .ref a_46, .ref a_47, .ref a_48, .ref a_49, .ref a_50, .ref a_51, .ref a_52, .ref a_53, .int v_54, .int v_55, .ref a_56])) := ⟨_, rfl⟩
        have hP : va_P (dC, dI) vwCl (va_pl L f_85) H := by rw [ef_85]; exact hP
        have hD : va_D (fun q => q ∈ L) (va_pl L f_85) := by rw [ef_85]; exact hD
        have hG : GI (okc cI cL cZ cR cG cH L kd) kd L f_85 := by rw [ef_85]; exact hG.set o0 (mk_12 ko0 (fo12 fa_83))
        have hfo_86 : f_85 a_2 = .inl (cI, 1560, .inl g_81) := by rw [ef_85, up_ne (kd_ne ko0 ka_2 (by decide))]; exact hfo_80
        have hfr0 : ∀ b, kd b ≠ 12 → kd b ≠ 575 → kd b ≠ 576 → f_85 b = f b := fun b q12 q575 q576 => (congrFun ef_85 b).trans ((up_ne (fun e9 => q12 (by rw [e9]; exact ko0))).trans (hfr0 b q12 q575 q576))
        have hrA12 : ∀ b, kd b = 12 → ∀ j, fldR (f_85 b) j = fldR (f b) j := fun b kb j => ((congrArg (fun x => fldR x j) (congrFun ef_85 b)).trans (fra_up (fun j => by rw [hfo_78]; exact fr_set (k := 6) rfl rfl) j b)).trans (hrA12 b kb j)
        have hfA12 : ∀ b, kd b = 12 → ∀ j, j ≠ 5 → j ≠ 6 → j ≠ 7 → j ≠ 8 → j ≠ 9 → j ≠ 10 → j ≠ 11 → j ≠ 12 → j ≠ 13 → j ≠ 14 → j ≠ 29 → j ≠ 38 → j ≠ 39 → j ≠ 43 → fldI (f_85 b) j = fldI (f b) j := fun b kb j n5 n6 n7 n8 n9 n10 n11 n12 n13 n14 n29 n38 n39 n43 => ((congrArg (fun x => fldI x j) (congrFun ef_85 b)).trans (fia_up (fun h9 => by rw [hfo_78]; exact fi_set (k := 6) rfl h9) n6 b)).trans (hfA12 b kb j n5 n6 n7 n8 n9 n10 n11 n12 n13 n14 n29 n38 n39 n43)
        have hTt_82 : frel kd 576 8 f_85 a_2 := by rw [ef_85]; exact hTt_82.keep (fun b q => up_ne (kd_ne ko0 q (by decide)))
        have hfo_87 : f_85 o0 = .inr (12, [.ref a_1, .ref a_2, .ref a_3, .int v_4, .ref a_5, .int v_6, .int 0, .int v_8, .int v_9, .int v_10, .int v_11, .int v_12, .int v_13, .int v_14, .int v_15, .ref a_16, .ref a_17, .ref a_18, .ref a_19, .ref a_20, .ref a_21, .ref a_22, .ref a_23, .int v_24, .int v_25, .int v_26, .int v_27, .int v_28, .ref a_29, .int v_30, .ref a_31, .ref a_32, .int v_33, .int v_34, .ref a_35, .int v_36, .ref a_37, .ref a_38, .int v_39, .int v_40, .ref a_41, .ref a_42, .ref a_43, .int v_44, .ref a_45, .ref a_46, .ref a_47, .ref a_48, .ref a_49, .ref a_50, .ref a_51, .ref a_52, .ref a_53, .int v_54, .int v_55, .ref a_56]) := by rw [ef_85]; exact up_self
        refine lv_aload_n hx hb dX12_text_27 rfl (lv_at hl 1 rfl) ?_
        refine lv_iconst (v := 0) hx hb dX12_text_28 (by decide) ?_
        refine tk_putP (D := (dC, dI)) (ci := 12) (v := .int 0) (ty := .int) (C := RX12) (T := TX12) (N := 56) hx hb hU inlX12 tyX12 tyX12_ok nmX12 hown hK hP hD hS mo0 hfo_87 rfl 7 (by decide) (hU _ wd_567) (fun _ h9 => h9) rfl (by decide +kernel) rfl rfl (Nat.le_of_ble_eq_true rfl) dX12_text_29 (fun H locs hP hD hS => ?_)
        have fa_88 := fu12_7 (y := 0) fa_83
        obtain ⟨f_90, ef_90⟩ : ∃ y : Nat → va_E, y = va_up f_85 o0 (.inr (12, [.ref a_1, .ref a_2, .ref a_3, .int v_4, .ref a_5, .int v_6, .int 0, .int 0, .int v_9, .int v_10, .int v_11, .int v_12, .int v_13, .int v_14, .int v_15, .ref a_16, .ref a_17, .ref a_18, .ref a_19, .ref a_20, .ref a_21, .ref a_22, .ref a_23, .int v_24, .int v_25, .int v_26, .int v_27, .int v_28, .ref a_29, .int v_30, .ref a_31, .ref a_32, .int v_33, .int v_34, .ref a_35, .int v_36, .ref a_37, .ref a_38, .int v_39, .int v_40, .ref a_41, .ref a_42, .ref a_43, .int v_44, .ref a_45, .ref a_46, .ref a_47, .ref a_48, .ref a_49, .ref a_50, .ref a_51, .ref a_52, .ref a_53, .int v_54, .int v_55, .ref a_56])) := ⟨_, rfl⟩
        have hP : va_P (dC, dI) vwCl (va_pl L f_90) H := by rw [ef_90]; exact hP
        have hD : va_D (fun q => q ∈ L) (va_pl L f_90) := by rw [ef_90]; exact hD
        have hG : GI (okc cI cL cZ cR cG cH L kd) kd L f_90 := by rw [ef_90]; exact hG.set o0 (mk_12 ko0 (fo12 fa_88))
        have hfo_91 : f_90 a_2 = .inl (cI, 1560, .inl g_81) := by rw [ef_90, up_ne (kd_ne ko0 ka_2 (by decide))]; exact hfo_86
        have hfr0 : ∀ b, kd b ≠ 12 → kd b ≠ 575 → kd b ≠ 576 → f_90 b = f b := fun b q12 q575 q576 => (congrFun ef_90 b).trans ((up_ne (fun e9 => q12 (by rw [e9]; exact ko0))).trans (hfr0 b q12 q575 q576))
        have hrA12 : ∀ b, kd b = 12 → ∀ j, fldR (f_90 b) j = fldR (f b) j := fun b kb j => ((congrArg (fun x => fldR x j) (congrFun ef_90 b)).trans (fra_up (fun j => by rw [hfo_87]; exact fr_set (k := 7) rfl rfl) j b)).trans (hrA12 b kb j)
        have hfA12 : ∀ b, kd b = 12 → ∀ j, j ≠ 5 → j ≠ 6 → j ≠ 7 → j ≠ 8 → j ≠ 9 → j ≠ 10 → j ≠ 11 → j ≠ 12 → j ≠ 13 → j ≠ 14 → j ≠ 29 → j ≠ 38 → j ≠ 39 → j ≠ 43 → fldI (f_90 b) j = fldI (f b) j := fun b kb j n5 n6 n7 n8 n9 n10 n11 n12 n13 n14 n29 n38 n39 n43 => ((congrArg (fun x => fldI x j) (congrFun ef_90 b)).trans (fia_up (fun h9 => by rw [hfo_87]; exact fi_set (k := 7) rfl h9) n7 b)).trans (hfA12 b kb j n5 n6 n7 n8 n9 n10 n11 n12 n13 n14 n29 n38 n39 n43)
        have hTt_82 : frel kd 576 8 f_90 a_2 := by rw [ef_90]; exact hTt_82.keep (fun b q => up_ne (kd_ne ko0 q (by decide)))
        have hfo_92 : f_90 o0 = .inr (12, [.ref a_1, .ref a_2, .ref a_3, .int v_4, .ref a_5, .int v_6, .int 0, .int 0, .int v_9, .int v_10, .int v_11, .int v_12, .int v_13, .int v_14, .int v_15, .ref a_16, .ref a_17, .ref a_18, .ref a_19, .ref a_20, .ref a_21, .ref a_22, .ref a_23, .int v_24, .int v_25, .int v_26, .int v_27, .int v_28, .ref a_29, .int v_30, .ref a_31, .ref a_32, .int v_33, .int v_34, .ref a_35, .int v_36, .ref a_37, .ref a_38, .int v_39, .int v_40, .ref a_41, .ref a_42, .ref a_43, .int v_44, .ref a_45, .ref a_46, .ref a_47, .ref a_48, .ref a_49, .ref a_50, .ref a_51, .ref a_52, .ref a_53, .int v_54, .int v_55, .ref a_56]) := by rw [ef_90]; exact up_self
        refine lv_iconst (v := 1) hx hb dX12_text_32 (by decide) ?_
        refine lv_istore_n (lv' := [(1, .int 1), (0, .ref o0)]) hx hb dX12_text_33 rfl hl (by decide) rfl (fun ls hl => ?_)
        have hloop_113 : ∀ (n : Nat), ∀ (y_114 : Int32), (0 ≤ y_114.toInt ∧ y_114.toInt ≤ 1) → ∀ (f_116 : Nat → va_E), GI (okc cI cL cZ cR cG cH L kd) kd L f_116 → ∀ (H : Heap) (locs : List Loc), va_P (dC, dI) vwCl (va_pl L f_116) H → va_S (fun q => q ∈ L) s.heap H locs → va_D (fun q => q ∈ L) (va_pl L f_116) → (∀ b, kd b ≠ 12 → kd b ≠ 575 → kd b ≠ 576 → f_116 b = f b) → (∀ b, kd b = 12 → ∀ j, fldR (f_116 b) j = fldR (f b) j) → (∀ b, kd b = 12 → ∀ j, j ≠ 5 → j ≠ 6 → j ≠ 7 → j ≠ 8 → j ≠ 9 → j ≠ 10 → j ≠ 11 → j ≠ 12 → j ≠ 13 → j ≠ 14 → j ≠ 29 → j ≠ 38 → j ≠ 39 → j ≠ 43 → fldI (f_116 b) j = fldI (f b) j) → frel kd 576 8 f_116 a_2 → ∀ (whloop_113_0_6 : Int32), fldI (f_116 o0) 6 = some whloop_113_0_6 → ∀ (whloop_113_0_29 : Int32), fldI (f_116 o0) 29 = some whloop_113_0_29 → (whloop_113_0_29.toInt = v_30.toInt) → (0 ≤ whloop_113_0_6.toInt ∧ whloop_113_0_6.toInt ≤ 600) → (0 ≤ whloop_113_0_29.toInt ∧ whloop_113_0_29.toInt ≤ 201) → 600 - whloop_113_0_6.toInt + y_114.toInt < (n : Int) → ∀ (ls : Array Slot), lv_has ls 3 [(1, .int y_114), (0, .ref o0)] → W p l e (headSpec (wU yX12_text cX12_text 3 (some .int)) { frames := 9, cells := 0, slots := 0, locals := 197 }).room s m [.ref o0].toArray below meth c H locs 0 0 (MQ below (va_Qi (fun (r : Int32) (f9 : Nat → va_E) => GI (okc cI cL cZ cR cG cH L kd) kd L f9 ∧ ((-2147483648) ≤ r.toInt ∧ r.toInt ≤ 2147483647) ∧ (∀ b, kd b ≠ 12 → kd b ≠ 575 → kd b ≠ 576 → f9 b = f b) ∧ (∀ b, kd b = 12 → ∀ j, fldR (f9 b) j = fldR (f b) j) ∧ (∀ b, kd b = 12 → ∀ j, j ≠ 5 → j ≠ 6 → j ≠ 7 → j ≠ 8 → j ≠ 9 → j ≠ 10 → j ≠ 11 → j ≠ 12 → j ≠ 13 → j ≠ 14 → j ≠ 29 → j ≠ 38 → j ≠ 39 → j ≠ 43 → fldI (f9 b) j = fldI (f b) j) ∧ (∀ (w5 z5 : Int32) (w29 z29 : Int32), fldI (f o0) 5 = some w5 → fldI (f o0) 29 = some w29 → fldI (f9 o0) 5 = some z5 → fldI (f9 o0) 29 = some z29 → z5.toInt = 0 ∧ (w29.toInt ≤ 200 → z29.toInt ≤ 200))) (qP (dC, dI) cI cL cZ cR cG cH L) (fun q => q ∈ L)) [.ref o0].toArray s 0 0 (fun q => q ∈ L)) (F0 m 34 ls []) := by
          intro n
          induction n with
          | zero => intro y_114 by_114 f_116 hG H locs hP hS hD hfr0 hrA12 hfA12 hTt_82 whloop_113_0_6 hghloop_113_0_6 whloop_113_0_29 hghloop_113_0_29 hrelhloop_113_0 hrelhloop_113_1 hrelhloop_113_2 hmuhloop_113 ls hl; exfalso; omega
          | succ n ih_hloop_113 =>
            intro y_114 by_114 f_116 hG H locs hP hS hD hfr0 hrA12 hfA12 hTt_82 whloop_113_0_6 hghloop_113_0_6 whloop_113_0_29 hghloop_113_0_29 hrelhloop_113_0 hrelhloop_113_1 hrelhloop_113_2 hmuhloop_113 ls hl
            obtain ⟨v_117, v_118, v_119, v_120, v_121, v_122, v_123, v_124, v_125, v_126, v_127, v_128, v_129, v_130, hfo_131, fa_132⟩ := op12_5_6_7_8_9_10_11_12_13_14_29_38_39_43 hfo_57 (hG _ mo0) ko0 (hrA12 o0 ko0) (hfA12 o0 ko0)
            have bv_117 : (0 ≤ v_117.toInt ∧ v_117.toInt ≤ 600) := fa12_5 fa_132
            have bv_118 : (0 ≤ v_118.toInt ∧ v_118.toInt ≤ 600) := fa12_6 fa_132
            have bv_119 : ((-2147483648) ≤ v_119.toInt ∧ v_119.toInt ≤ 2147483647) := ⟨i32_lo _, i32_hi _⟩
            have bv_120 : ((-2147483648) ≤ v_120.toInt ∧ v_120.toInt ≤ 2147483647) := ⟨i32_lo _, i32_hi _⟩
            have bv_121 : ((-2147483648) ≤ v_121.toInt ∧ v_121.toInt ≤ 2147483647) := ⟨i32_lo _, i32_hi _⟩
            have bv_122 : ((-2147483648) ≤ v_122.toInt ∧ v_122.toInt ≤ 2147483647) := ⟨i32_lo _, i32_hi _⟩
            have bv_123 : (0 ≤ v_123.toInt ∧ v_123.toInt ≤ 8) := fa12_11 fa_132
            have bv_124 : (0 ≤ v_124.toInt ∧ v_124.toInt ≤ 8) := fa12_12 fa_132
            have bv_125 : (0 ≤ v_125.toInt ∧ v_125.toInt ≤ 8) := fa12_13 fa_132
            have bv_126 : ((-2147483648) ≤ v_126.toInt ∧ v_126.toInt ≤ 2147483647) := ⟨i32_lo _, i32_hi _⟩
            have bv_127 : (0 ≤ v_127.toInt ∧ v_127.toInt ≤ 201) := fa12_29 fa_132
            have bv_128 : (0 ≤ v_128.toInt ∧ v_128.toInt ≤ 96) := fa12_38 fa_132
            have bv_129 : ((-2147483648) ≤ v_129.toInt ∧ v_129.toInt ≤ 2147483647) := ⟨i32_lo _, i32_hi _⟩
            have bv_130 : (0 ≤ v_130.toInt ∧ v_130.toInt ≤ 8) := fa12_43 fa_132
            obtain rfl : v_118 = whloop_113_0_6 := by rw [hfo_131] at hghloop_113_0_6; exact Option.some.inj hghloop_113_0_6
            obtain rfl : v_127 = whloop_113_0_29 := by rw [hfo_131] at hghloop_113_0_29; exact Option.some.inj hghloop_113_0_29
            refine lv_iload_n hx hb dX12_text_34 rfl (lv_at hl 0 rfl) ?_
            refine lv_if_eq (tgt := 71) hx hb dX12_text_35 (by decide) (fun c_133 => ?_) (fun c_133 => ?_)
            · skip
              rw [← Int32.toInt_inj, ti_0] at c_133
              refine lv_aload_n hx hb dX12_text_71 rfl (lv_at hl 1 rfl) ?_
              refine lv_iconst (v := 0) hx hb dX12_text_72 (by decide) ?_
              refine tk_putP (D := (dC, dI)) (ci := 12) (v := .int 0) (ty := .int) (C := RX12) (T := TX12) (N := 56) hx hb hU inlX12 tyX12 tyX12_ok nmX12 hown hK hP hD hS mo0 hfo_131 rfl 5 (by decide) (hU _ wd_218) (fun _ h9 => h9) rfl (by decide +kernel) rfl rfl (Nat.le_of_ble_eq_true rfl) dX12_text_73 (fun H locs hP hD hS => ?_)
              have fa_134 := fu12_5 (y := 0) fa_132 (by decide)
              obtain ⟨f_136, ef_136⟩ : ∃ y : Nat → va_E, y = va_up f_116 o0 (.inr (12, [.ref a_1, .ref a_2, .ref a_3, .int v_4, .ref a_5, .int 0, .int v_118, .int v_119, .int v_120, .int v_121, .int v_122, .int v_123, .int v_124, .int v_125, .int v_126, .ref a_16, .ref a_17, .ref a_18, .ref a_19, .ref a_20, .ref a_21, .ref a_22, .ref a_23, .int v_24, .int v_25, .int v_26, .int v_27, .int v_28, .ref a_29, .int v_127, .ref a_31, .ref a_32, .int v_33, .int v_34, .ref a_35, .int v_36, .ref a_37, .ref a_38, .int v_128, .int v_129, .ref a_41, .ref a_42, .ref a_43, .int v_130, .ref a_45, .ref a_46, .ref a_47, .ref a_48, .ref a_49, .ref a_50, .ref a_51, .ref a_52, .ref a_53, .int v_54, .int v_55, .ref a_56])) := ⟨_, rfl⟩
              have hP : va_P (dC, dI) vwCl (va_pl L f_136) H := by rw [ef_136]; exact hP
              have hD : va_D (fun q => q ∈ L) (va_pl L f_136) := by rw [ef_136]; exact hD
              have hG : GI (okc cI cL cZ cR cG cH L kd) kd L f_136 := by rw [ef_136]; exact hG.set o0 (mk_12 ko0 (fo12 fa_134))
              have hfr0 : ∀ b, kd b ≠ 12 → kd b ≠ 575 → kd b ≠ 576 → f_136 b = f b := fun b q12 q575 q576 => (congrFun ef_136 b).trans ((up_ne (fun e9 => q12 (by rw [e9]; exact ko0))).trans (hfr0 b q12 q575 q576))
              have hrA12 : ∀ b, kd b = 12 → ∀ j, fldR (f_136 b) j = fldR (f b) j := fun b kb j => ((congrArg (fun x => fldR x j) (congrFun ef_136 b)).trans (fra_up (fun j => by rw [hfo_131]; exact fr_set (k := 5) rfl rfl) j b)).trans (hrA12 b kb j)
              have hfA12 : ∀ b, kd b = 12 → ∀ j, j ≠ 5 → j ≠ 6 → j ≠ 7 → j ≠ 8 → j ≠ 9 → j ≠ 10 → j ≠ 11 → j ≠ 12 → j ≠ 13 → j ≠ 14 → j ≠ 29 → j ≠ 38 → j ≠ 39 → j ≠ 43 → fldI (f_136 b) j = fldI (f b) j := fun b kb j n5 n6 n7 n8 n9 n10 n11 n12 n13 n14 n29 n38 n39 n43 => ((congrArg (fun x => fldI x j) (congrFun ef_136 b)).trans (fia_up (fun h9 => by rw [hfo_131]; exact fi_set (k := 5) rfl h9) n5 b)).trans (hfA12 b kb j n5 n6 n7 n8 n9 n10 n11 n12 n13 n14 n29 n38 n39 n43)
              have hTt_82 : frel kd 576 8 f_136 a_2 := by rw [ef_136]; exact hTt_82.keep (fun b q => up_ne (kd_ne ko0 q (by decide)))
              have hfo_137 : f_136 o0 = .inr (12, [.ref a_1, .ref a_2, .ref a_3, .int v_4, .ref a_5, .int 0, .int v_118, .int v_119, .int v_120, .int v_121, .int v_122, .int v_123, .int v_124, .int v_125, .int v_126, .ref a_16, .ref a_17, .ref a_18, .ref a_19, .ref a_20, .ref a_21, .ref a_22, .ref a_23, .int v_24, .int v_25, .int v_26, .int v_27, .int v_28, .ref a_29, .int v_127, .ref a_31, .ref a_32, .int v_33, .int v_34, .ref a_35, .int v_36, .ref a_37, .ref a_38, .int v_128, .int v_129, .ref a_41, .ref a_42, .ref a_43, .int v_130, .ref a_45, .ref a_46, .ref a_47, .ref a_48, .ref a_49, .ref a_50, .ref a_51, .ref a_52, .ref a_53, .int v_54, .int v_55, .ref a_56]) := by rw [ef_136]; exact up_self
              refine lv_aload_n hx hb dX12_text_76 rfl (lv_at hl 1 rfl) ?_
              refine lv_iload_n hx hb dX12_text_77 rfl (lv_at hl 0 rfl) ?_
              refine lv_if_eq (tgt := 85) hx hb dX12_text_78 (by decide) (fun c_138 => ?_) (fun c_138 => ?_)
              · skip
                rw [← Int32.toInt_inj, ti_0] at c_138
                refine lv_aload_n hx hb dX12_text_85 rfl (lv_at hl 1 rfl) ?_
                refine tk_getP (D := (dC, dI)) (ci := 12) (v := .int v_119) (C := RX12) (T := TX12) (N := 56) hx hb hU inlX12 hown hK hP mo0 hfo_137 rfl 7 (by decide) (hU _ wd_567) (fun _ h9 => h9) rfl dX12_text_86 ?_
                refine tk_putP (D := (dC, dI)) (ci := 12) (v := .int v_119) (ty := .int) (C := RX12) (T := TX12) (N := 56) hx hb hU inlX12 tyX12 tyX12_ok nmX12 hown hK hP hD hS mo0 hfo_137 rfl 9 (by decide) (hU _ wd_568) (fun _ h9 => h9) rfl (by decide +kernel) rfl rfl (Nat.le_of_ble_eq_true rfl) dX12_text_89 (fun H locs hP hD hS => ?_)
                have fa_139 := fu12_9 (y := v_119) fa_134
                obtain ⟨f_141, ef_141⟩ : ∃ y : Nat → va_E, y = va_up f_136 o0 (.inr (12, [.ref a_1, .ref a_2, .ref a_3, .int v_4, .ref a_5, .int 0, .int v_118, .int v_119, .int v_120, .int v_119, .int v_122, .int v_123, .int v_124, .int v_125, .int v_126, .ref a_16, .ref a_17, .ref a_18, .ref a_19, .ref a_20, .ref a_21, .ref a_22, .ref a_23, .int v_24, .int v_25, .int v_26, .int v_27, .int v_28, .ref a_29, .int v_127, .ref a_31, .ref a_32, .int v_33, .int v_34, .ref a_35, .int v_36, .ref a_37, .ref a_38, .int v_128, .int v_129, .ref a_41, .ref a_42, .ref a_43, .int v_130, .ref a_45, .ref a_46, .ref a_47, .ref a_48, .ref a_49, .ref a_50, .ref a_51, .ref a_52, .ref a_53, .int v_54, .int v_55, .ref a_56])) := ⟨_, rfl⟩
                have hP : va_P (dC, dI) vwCl (va_pl L f_141) H := by rw [ef_141]; exact hP
                have hD : va_D (fun q => q ∈ L) (va_pl L f_141) := by rw [ef_141]; exact hD
                have hG : GI (okc cI cL cZ cR cG cH L kd) kd L f_141 := by rw [ef_141]; exact hG.set o0 (mk_12 ko0 (fo12 fa_139))
                have hfr0 : ∀ b, kd b ≠ 12 → kd b ≠ 575 → kd b ≠ 576 → f_141 b = f b := fun b q12 q575 q576 => (congrFun ef_141 b).trans ((up_ne (fun e9 => q12 (by rw [e9]; exact ko0))).trans (hfr0 b q12 q575 q576))
                have hrA12 : ∀ b, kd b = 12 → ∀ j, fldR (f_141 b) j = fldR (f b) j := fun b kb j => ((congrArg (fun x => fldR x j) (congrFun ef_141 b)).trans (fra_up (fun j => by rw [hfo_137]; exact fr_set (k := 9) rfl rfl) j b)).trans (hrA12 b kb j)
                have hfA12 : ∀ b, kd b = 12 → ∀ j, j ≠ 5 → j ≠ 6 → j ≠ 7 → j ≠ 8 → j ≠ 9 → j ≠ 10 → j ≠ 11 → j ≠ 12 → j ≠ 13 → j ≠ 14 → j ≠ 29 → j ≠ 38 → j ≠ 39 → j ≠ 43 → fldI (f_141 b) j = fldI (f b) j := fun b kb j n5 n6 n7 n8 n9 n10 n11 n12 n13 n14 n29 n38 n39 n43 => ((congrArg (fun x => fldI x j) (congrFun ef_141 b)).trans (fia_up (fun h9 => by rw [hfo_137]; exact fi_set (k := 9) rfl h9) n9 b)).trans (hfA12 b kb j n5 n6 n7 n8 n9 n10 n11 n12 n13 n14 n29 n38 n39 n43)
                have hTt_82 : frel kd 576 8 f_141 a_2 := by rw [ef_141]; exact hTt_82.keep (fun b q => up_ne (kd_ne ko0 q (by decide)))
                have hfo_142 : f_141 o0 = .inr (12, [.ref a_1, .ref a_2, .ref a_3, .int v_4, .ref a_5, .int 0, .int v_118, .int v_119, .int v_120, .int v_119, .int v_122, .int v_123, .int v_124, .int v_125, .int v_126, .ref a_16, .ref a_17, .ref a_18, .ref a_19, .ref a_20, .ref a_21, .ref a_22, .ref a_23, .int v_24, .int v_25, .int v_26, .int v_27, .int v_28, .ref a_29, .int v_127, .ref a_31, .ref a_32, .int v_33, .int v_34, .ref a_35, .int v_36, .ref a_37, .ref a_38, .int v_128, .int v_129, .ref a_41, .ref a_42, .ref a_43, .int v_130, .ref a_45, .ref a_46, .ref a_47, .ref a_48, .ref a_49, .ref a_50, .ref a_51, .ref a_52, .ref a_53, .int v_54, .int v_55, .ref a_56]) := by rw [ef_141]; exact up_self
                refine lv_aload_n hx hb dX12_text_92 rfl (lv_at hl 1 rfl) ?_
                refine lv_iload_n hx hb dX12_text_93 rfl (lv_at hl 0 rfl) ?_
                refine lv_if_eq (tgt := 101) hx hb dX12_text_94 (by decide) (fun c_143 => ?_) (fun c_143 => ?_)
                · skip
                  rw [← Int32.toInt_inj, ti_0] at c_143
                  refine lv_aload_n hx hb dX12_text_101 rfl (lv_at hl 1 rfl) ?_
                  refine tk_getP (D := (dC, dI)) (ci := 12) (v := .int v_120) (C := RX12) (T := TX12) (N := 56) hx hb hU inlX12 hown hK hP mo0 hfo_142 rfl 8 (by decide) (hU _ wd_569) (fun _ h9 => h9) rfl dX12_text_102 ?_
                  refine tk_putP (D := (dC, dI)) (ci := 12) (v := .int v_120) (ty := .int) (C := RX12) (T := TX12) (N := 56) hx hb hU inlX12 tyX12 tyX12_ok nmX12 hown hK hP hD hS mo0 hfo_142 rfl 10 (by decide) (hU _ wd_173) (fun _ h9 => h9) rfl (by decide +kernel) rfl rfl (Nat.le_of_ble_eq_true rfl) dX12_text_105 (fun H locs hP hD hS => ?_)
                  have fa_144 := fu12_10 (y := v_120) fa_139
                  obtain ⟨f_146, ef_146⟩ : ∃ y : Nat → va_E, y = va_up f_141 o0 (.inr (12, [.ref a_1, .ref a_2, .ref a_3, .int v_4, .ref a_5, .int 0, .int v_118, .int v_119, .int v_120, .int v_119, .int v_120, .int v_123, .int v_124, .int v_125, .int v_126, .ref a_16, .ref a_17, .ref a_18, .ref a_19, .ref a_20, .ref a_21, .ref a_22, .ref a_23, .int v_24, .int v_25, .int v_26, .int v_27, .int v_28, .ref a_29, .int v_127, .ref a_31, .ref a_32, .int v_33, .int v_34, .ref a_35, .int v_36, .ref a_37, .ref a_38, .int v_128, .int v_129, .ref a_41, .ref a_42, .ref a_43, .int v_130, .ref a_45, .ref a_46, .ref a_47, .ref a_48, .ref a_49, .ref a_50, .ref a_51, .ref a_52, .ref a_53, .int v_54, .int v_55, .ref a_56])) := ⟨_, rfl⟩
                  have hP : va_P (dC, dI) vwCl (va_pl L f_146) H := by rw [ef_146]; exact hP
                  have hD : va_D (fun q => q ∈ L) (va_pl L f_146) := by rw [ef_146]; exact hD
                  have hG : GI (okc cI cL cZ cR cG cH L kd) kd L f_146 := by rw [ef_146]; exact hG.set o0 (mk_12 ko0 (fo12 fa_144))
                  have hfr0 : ∀ b, kd b ≠ 12 → kd b ≠ 575 → kd b ≠ 576 → f_146 b = f b := fun b q12 q575 q576 => (congrFun ef_146 b).trans ((up_ne (fun e9 => q12 (by rw [e9]; exact ko0))).trans (hfr0 b q12 q575 q576))
                  have hrA12 : ∀ b, kd b = 12 → ∀ j, fldR (f_146 b) j = fldR (f b) j := fun b kb j => ((congrArg (fun x => fldR x j) (congrFun ef_146 b)).trans (fra_up (fun j => by rw [hfo_142]; exact fr_set (k := 10) rfl rfl) j b)).trans (hrA12 b kb j)
                  have hfA12 : ∀ b, kd b = 12 → ∀ j, j ≠ 5 → j ≠ 6 → j ≠ 7 → j ≠ 8 → j ≠ 9 → j ≠ 10 → j ≠ 11 → j ≠ 12 → j ≠ 13 → j ≠ 14 → j ≠ 29 → j ≠ 38 → j ≠ 39 → j ≠ 43 → fldI (f_146 b) j = fldI (f b) j := fun b kb j n5 n6 n7 n8 n9 n10 n11 n12 n13 n14 n29 n38 n39 n43 => ((congrArg (fun x => fldI x j) (congrFun ef_146 b)).trans (fia_up (fun h9 => by rw [hfo_142]; exact fi_set (k := 10) rfl h9) n10 b)).trans (hfA12 b kb j n5 n6 n7 n8 n9 n10 n11 n12 n13 n14 n29 n38 n39 n43)
                  have hTt_82 : frel kd 576 8 f_146 a_2 := by rw [ef_146]; exact hTt_82.keep (fun b q => up_ne (kd_ne ko0 q (by decide)))
                  have hfo_147 : f_146 o0 = .inr (12, [.ref a_1, .ref a_2, .ref a_3, .int v_4, .ref a_5, .int 0, .int v_118, .int v_119, .int v_120, .int v_119, .int v_120, .int v_123, .int v_124, .int v_125, .int v_126, .ref a_16, .ref a_17, .ref a_18, .ref a_19, .ref a_20, .ref a_21, .ref a_22, .ref a_23, .int v_24, .int v_25, .int v_26, .int v_27, .int v_28, .ref a_29, .int v_127, .ref a_31, .ref a_32, .int v_33, .int v_34, .ref a_35, .int v_36, .ref a_37, .ref a_38, .int v_128, .int v_129, .ref a_41, .ref a_42, .ref a_43, .int v_130, .ref a_45, .ref a_46, .ref a_47, .ref a_48, .ref a_49, .ref a_50, .ref a_51, .ref a_52, .ref a_53, .int v_54, .int v_55, .ref a_56]) := by rw [ef_146]; exact up_self
                  refine lv_iload_n hx hb dX12_text_108 rfl (lv_at hl 0 rfl) ?_
                  refine lv_if_ne (tgt := 114) hx hb dX12_text_109 (by decide) (fun c_148 => ?_) (fun c_148 => ?_)
                  · skip
                    rw [← Int32.toInt_inj, ti_0] at c_148
                    exfalso
                    omega
                  · skip
                    rw [← Int32.toInt_inj, ti_0] at c_148
                    refine lv_iconst (v := (-1)) hx hb dX12_text_112 (by decide) ?_
                    exact W.iret (v := (-1)) hx hb hr (fun t ht hW => ⟨⟨(-1), f_146, rfl, ⟨hG, (by decide), hfr0, hrA12, hfA12, (by intro w5 z5 w29 z29 e5 e29 d5 d29; rw [hfo_57] at e5 e29; rw [hfo_147] at d5 d29; obtain rfl := Option.some.inj e5; obtain rfl := Option.some.inj d5; obtain rfl := Option.some.inj e29; obtain rfl := Option.some.inj d29; (try rw [ti_0]) <;> (try rw [ti_m1]) <;> omega)⟩, by rw [ht]; exact hP, va_K.moved hW.alike hK, pl_in hD⟩, hS.F ht⟩) hS.2.2 dX12_text_113
                · skip
                  rw [← Int32.toInt_inj, ti_0] at c_143
                  exfalso
                  omega
              · skip
                rw [← Int32.toInt_inj, ti_0] at c_138
                exfalso
                omega
            · skip
              rw [← Int32.toInt_inj, ti_0] at c_133
              refine lv_aload_n hx hb dX12_text_38 rfl (lv_at hl 1 rfl) ?_
              refine tk_ViP (As := []) (rest := []) (n := 0) hx hb hml hown hU hN hZ (s_X12_sign_k12 l (dC, dI) cI cL cZ cR cG cH Z kd L f_116 hG o0 mo0 ko0) wd_573 wd_574 wd_575 wd_5 wd_576 (by decide +kernel) ⟨Nat.le_of_ble_eq_true rfl, Nat.le_of_ble_eq_true rfl⟩ hK hP hD hS mo0 hfo_131 12 rfl rfl rfl hl.1 rfl (Nat.le_of_ble_eq_true rfl) dX12_text_39 ⟨Nat.le_of_ble_eq_true rfl, Nat.le_of_ble_eq_true rfl⟩ (fun x_149 f_150 H locs hw hP hD hS => ?_)
              obtain ⟨hG, bx_149, hkc_151, hra_152, hfa_153, hpost_154⟩ := hw
              have hfr0 : ∀ b, kd b ≠ 12 → kd b ≠ 575 → kd b ≠ 576 → f_150 b = f b := fun b q12 q575 q576 => (hkc_151 b q12).trans (hfr0 b q12 q575 q576)
              have hrA12 : ∀ b, kd b = 12 → ∀ j, fldR (f_150 b) j = fldR (f b) j := fun b kb j => (hra_152 b kb j).trans (hrA12 b kb j)
              have hfA12 : ∀ b, kd b = 12 → ∀ j, j ≠ 5 → j ≠ 6 → j ≠ 7 → j ≠ 8 → j ≠ 9 → j ≠ 10 → j ≠ 11 → j ≠ 12 → j ≠ 13 → j ≠ 14 → j ≠ 29 → j ≠ 38 → j ≠ 39 → j ≠ 43 → fldI (f_150 b) j = fldI (f b) j := fun b kb j n5 n6 n7 n8 n9 n10 n11 n12 n13 n14 n29 n38 n39 n43 => (hfa_153 b kb j n6).trans (hfA12 b kb j n5 n6 n7 n8 n9 n10 n11 n12 n13 n14 n29 n38 n39 n43)
              have hTt_82 : frel kd 576 8 f_150 a_2 := hTt_82.keep (fun b q => hkc_151 b (by rw [q]; decide))
              obtain ⟨v_156, hfo_157, fa_158⟩ := op12_6 hfo_131 (hG _ mo0) ko0 (hra_152 o0 ko0) (hfa_153 o0 ko0)
              have bv_156 : (0 ≤ v_156.toInt ∧ v_156.toInt ≤ 600) := fa12_6 fa_158
              have hqhpost_154 := hpost_154 v_118 v_156 (by rw [hfo_131]; rfl) (by rw [hfo_157]; rfl)
              refine lv_iconst (v := (-1)) hx hb dX12_text_42 (by decide) ?_
              refine lv_icmp_eq (tgt := 71) hx hb dX12_text_43 (by decide) (fun c_159 => ?_) (fun c_159 => ?_)
              · skip
                rw [← Int32.toInt_inj, ti_m1] at c_159
                refine lv_aload_n hx hb dX12_text_71 rfl (lv_at hl 1 rfl) ?_
                refine lv_iconst (v := 0) hx hb dX12_text_72 (by decide) ?_
                refine tk_putP (D := (dC, dI)) (ci := 12) (v := .int 0) (ty := .int) (C := RX12) (T := TX12) (N := 56) hx hb hU inlX12 tyX12 tyX12_ok nmX12 hown hK hP hD hS mo0 hfo_157 rfl 5 (by decide) (hU _ wd_218) (fun _ h9 => h9) rfl (by decide +kernel) rfl rfl (Nat.le_of_ble_eq_true rfl) dX12_text_73 (fun H locs hP hD hS => ?_)
                have fa_160 := fu12_5 (y := 0) fa_158 (by decide)
                obtain ⟨f_162, ef_162⟩ : ∃ y : Nat → va_E, y = va_up f_150 o0 (.inr (12, [.ref a_1, .ref a_2, .ref a_3, .int v_4, .ref a_5, .int 0, .int v_156, .int v_119, .int v_120, .int v_121, .int v_122, .int v_123, .int v_124, .int v_125, .int v_126, .ref a_16, .ref a_17, .ref a_18, .ref a_19, .ref a_20, .ref a_21, .ref a_22, .ref a_23, .int v_24, .int v_25, .int v_26, .int v_27, .int v_28, .ref a_29, .int v_127, .ref a_31, .ref a_32, .int v_33, .int v_34, .ref a_35, .int v_36, .ref a_37, .ref a_38, .int v_128, .int v_129, .ref a_41, .ref a_42, .ref a_43, .int v_130, .ref a_45, .ref a_46, .ref a_47, .ref a_48, .ref a_49, .ref a_50, .ref a_51, .ref a_52, .ref a_53, .int v_54, .int v_55, .ref a_56])) := ⟨_, rfl⟩
                have hP : va_P (dC, dI) vwCl (va_pl L f_162) H := by rw [ef_162]; exact hP
                have hD : va_D (fun q => q ∈ L) (va_pl L f_162) := by rw [ef_162]; exact hD
                have hG : GI (okc cI cL cZ cR cG cH L kd) kd L f_162 := by rw [ef_162]; exact hG.set o0 (mk_12 ko0 (fo12 fa_160))
                have hfr0 : ∀ b, kd b ≠ 12 → kd b ≠ 575 → kd b ≠ 576 → f_162 b = f b := fun b q12 q575 q576 => (congrFun ef_162 b).trans ((up_ne (fun e9 => q12 (by rw [e9]; exact ko0))).trans (hfr0 b q12 q575 q576))
                have hrA12 : ∀ b, kd b = 12 → ∀ j, fldR (f_162 b) j = fldR (f b) j := fun b kb j => ((congrArg (fun x => fldR x j) (congrFun ef_162 b)).trans (fra_up (fun j => by rw [hfo_157]; exact fr_set (k := 5) rfl rfl) j b)).trans (hrA12 b kb j)
                have hfA12 : ∀ b, kd b = 12 → ∀ j, j ≠ 5 → j ≠ 6 → j ≠ 7 → j ≠ 8 → j ≠ 9 → j ≠ 10 → j ≠ 11 → j ≠ 12 → j ≠ 13 → j ≠ 14 → j ≠ 29 → j ≠ 38 → j ≠ 39 → j ≠ 43 → fldI (f_162 b) j = fldI (f b) j := fun b kb j n5 n6 n7 n8 n9 n10 n11 n12 n13 n14 n29 n38 n39 n43 => ((congrArg (fun x => fldI x j) (congrFun ef_162 b)).trans (fia_up (fun h9 => by rw [hfo_157]; exact fi_set (k := 5) rfl h9) n5 b)).trans (hfA12 b kb j n5 n6 n7 n8 n9 n10 n11 n12 n13 n14 n29 n38 n39 n43)
                have hTt_82 : frel kd 576 8 f_162 a_2 := by rw [ef_162]; exact hTt_82.keep (fun b q => up_ne (kd_ne ko0 q (by decide)))
                have hfo_163 : f_162 o0 = .inr (12, [.ref a_1, .ref a_2, .ref a_3, .int v_4, .ref a_5, .int 0, .int v_156, .int v_119, .int v_120, .int v_121, .int v_122, .int v_123, .int v_124, .int v_125, .int v_126, .ref a_16, .ref a_17, .ref a_18, .ref a_19, .ref a_20, .ref a_21, .ref a_22, .ref a_23, .int v_24, .int v_25, .int v_26, .int v_27, .int v_28, .ref a_29, .int v_127, .ref a_31, .ref a_32, .int v_33, .int v_34, .ref a_35, .int v_36, .ref a_37, .ref a_38, .int v_128, .int v_129, .ref a_41, .ref a_42, .ref a_43, .int v_130, .ref a_45, .ref a_46, .ref a_47, .ref a_48, .ref a_49, .ref a_50, .ref a_51, .ref a_52, .ref a_53, .int v_54, .int v_55, .ref a_56]) := by rw [ef_162]; exact up_self
                refine lv_aload_n hx hb dX12_text_76 rfl (lv_at hl 1 rfl) ?_
                refine lv_iload_n hx hb dX12_text_77 rfl (lv_at hl 0 rfl) ?_
                refine lv_if_eq (tgt := 85) hx hb dX12_text_78 (by decide) (fun c_164 => ?_) (fun c_164 => ?_)
                · skip
                  rw [← Int32.toInt_inj, ti_0] at c_164
                  exfalso
                  omega
                · skip
                  rw [← Int32.toInt_inj, ti_0] at c_164
                  refine lv_iconst (v := 0) hx hb dX12_text_81 (by decide) ?_
                  refine lv_goto (tgt := 89) hx hb dX12_text_82 (by decide) ?_
                  refine tk_putP (D := (dC, dI)) (ci := 12) (v := .int 0) (ty := .int) (C := RX12) (T := TX12) (N := 56) hx hb hU inlX12 tyX12 tyX12_ok nmX12 hown hK hP hD hS mo0 hfo_163 rfl 9 (by decide) (hU _ wd_568) (fun _ h9 => h9) rfl (by decide +kernel) rfl rfl (Nat.le_of_ble_eq_true rfl) dX12_text_89 (fun H locs hP hD hS => ?_)
                  have fa_165 := fu12_9 (y := 0) fa_160
                  obtain ⟨f_167, ef_167⟩ : ∃ y : Nat → va_E, y = va_up f_162 o0 (.inr (12, [.ref a_1, .ref a_2, .ref a_3, .int v_4, .ref a_5, .int 0, .int v_156, .int v_119, .int v_120, .int 0, .int v_122, .int v_123, .int v_124, .int v_125, .int v_126, .ref a_16, .ref a_17, .ref a_18, .ref a_19, .ref a_20, .ref a_21, .ref a_22, .ref a_23, .int v_24, .int v_25, .int v_26, .int v_27, .int v_28, .ref a_29, .int v_127, .ref a_31, .ref a_32, .int v_33, .int v_34, .ref a_35, .int v_36, .ref a_37, .ref a_38, .int v_128, .int v_129, .ref a_41, .ref a_42, .ref a_43, .int v_130, .ref a_45, .ref a_46, .ref a_47, .ref a_48, .ref a_49, .ref a_50, .ref a_51, .ref a_52, .ref a_53, .int v_54, .int v_55, .ref a_56])) := ⟨_, rfl⟩
                  have hP : va_P (dC, dI) vwCl (va_pl L f_167) H := by rw [ef_167]; exact hP
                  have hD : va_D (fun q => q ∈ L) (va_pl L f_167) := by rw [ef_167]; exact hD
                  have hG : GI (okc cI cL cZ cR cG cH L kd) kd L f_167 := by rw [ef_167]; exact hG.set o0 (mk_12 ko0 (fo12 fa_165))
                  have hfr0 : ∀ b, kd b ≠ 12 → kd b ≠ 575 → kd b ≠ 576 → f_167 b = f b := fun b q12 q575 q576 => (congrFun ef_167 b).trans ((up_ne (fun e9 => q12 (by rw [e9]; exact ko0))).trans (hfr0 b q12 q575 q576))
                  have hrA12 : ∀ b, kd b = 12 → ∀ j, fldR (f_167 b) j = fldR (f b) j := fun b kb j => ((congrArg (fun x => fldR x j) (congrFun ef_167 b)).trans (fra_up (fun j => by rw [hfo_163]; exact fr_set (k := 9) rfl rfl) j b)).trans (hrA12 b kb j)
                  have hfA12 : ∀ b, kd b = 12 → ∀ j, j ≠ 5 → j ≠ 6 → j ≠ 7 → j ≠ 8 → j ≠ 9 → j ≠ 10 → j ≠ 11 → j ≠ 12 → j ≠ 13 → j ≠ 14 → j ≠ 29 → j ≠ 38 → j ≠ 39 → j ≠ 43 → fldI (f_167 b) j = fldI (f b) j := fun b kb j n5 n6 n7 n8 n9 n10 n11 n12 n13 n14 n29 n38 n39 n43 => ((congrArg (fun x => fldI x j) (congrFun ef_167 b)).trans (fia_up (fun h9 => by rw [hfo_163]; exact fi_set (k := 9) rfl h9) n9 b)).trans (hfA12 b kb j n5 n6 n7 n8 n9 n10 n11 n12 n13 n14 n29 n38 n39 n43)
                  have hTt_82 : frel kd 576 8 f_167 a_2 := by rw [ef_167]; exact hTt_82.keep (fun b q => up_ne (kd_ne ko0 q (by decide)))
                  have hfo_168 : f_167 o0 = .inr (12, [.ref a_1, .ref a_2, .ref a_3, .int v_4, .ref a_5, .int 0, .int v_156, .int v_119, .int v_120, .int 0, .int v_122, .int v_123, .int v_124, .int v_125, .int v_126, .ref a_16, .ref a_17, .ref a_18, .ref a_19, .ref a_20, .ref a_21, .ref a_22, .ref a_23, .int v_24, .int v_25, .int v_26, .int v_27, .int v_28, .ref a_29, .int v_127, .ref a_31, .ref a_32, .int v_33, .int v_34, .ref a_35, .int v_36, .ref a_37, .ref a_38, .int v_128, .int v_129, .ref a_41, .ref a_42, .ref a_43, .int v_130, .ref a_45, .ref a_46, .ref a_47, .ref a_48, .ref a_49, .ref a_50, .ref a_51, .ref a_52, .ref a_53, .int v_54, .int v_55, .ref a_56]) := by rw [ef_167]; exact up_self
                  refine lv_aload_n hx hb dX12_text_92 rfl (lv_at hl 1 rfl) ?_
                  refine lv_iload_n hx hb dX12_text_93 rfl (lv_at hl 0 rfl) ?_
                  refine lv_if_eq (tgt := 101) hx hb dX12_text_94 (by decide) (fun c_169 => ?_) (fun c_169 => ?_)
                  · skip
                    rw [← Int32.toInt_inj, ti_0] at c_169
                    exfalso
                    omega
                  · skip
                    rw [← Int32.toInt_inj, ti_0] at c_169
                    refine lv_iconst (v := (-1)) hx hb dX12_text_97 (by decide) ?_
                    refine lv_goto (tgt := 105) hx hb dX12_text_98 (by decide) ?_
                    refine tk_putP (D := (dC, dI)) (ci := 12) (v := .int (-1)) (ty := .int) (C := RX12) (T := TX12) (N := 56) hx hb hU inlX12 tyX12 tyX12_ok nmX12 hown hK hP hD hS mo0 hfo_168 rfl 10 (by decide) (hU _ wd_173) (fun _ h9 => h9) rfl (by decide +kernel) rfl rfl (Nat.le_of_ble_eq_true rfl) dX12_text_105 (fun H locs hP hD hS => ?_)
                    have fa_170 := fu12_10 (y := (-1)) fa_165
                    obtain ⟨f_172, ef_172⟩ : ∃ y : Nat → va_E, y = va_up f_167 o0 (.inr (12, [.ref a_1, .ref a_2, .ref a_3, .int v_4, .ref a_5, .int 0, .int v_156, .int v_119, .int v_120, .int 0, .int (-1), .int v_123, .int v_124, .int v_125, .int v_126, .ref a_16, .ref a_17, .ref a_18, .ref a_19, .ref a_20, .ref a_21, .ref a_22, .ref a_23, .int v_24, .int v_25, .int v_26, .int v_27, .int v_28, .ref a_29, .int v_127, .ref a_31, .ref a_32, .int v_33, .int v_34, .ref a_35, .int v_36, .ref a_37, .ref a_38, .int v_128, .int v_129, .ref a_41, .ref a_42, .ref a_43, .int v_130, .ref a_45, .ref a_46, .ref a_47, .ref a_48, .ref a_49, .ref a_50, .ref a_51, .ref a_52, .ref a_53, .int v_54, .int v_55, .ref a_56])) := ⟨_, rfl⟩
                    have hP : va_P (dC, dI) vwCl (va_pl L f_172) H := by rw [ef_172]; exact hP
                    have hD : va_D (fun q => q ∈ L) (va_pl L f_172) := by rw [ef_172]; exact hD
                    have hG : GI (okc cI cL cZ cR cG cH L kd) kd L f_172 := by rw [ef_172]; exact hG.set o0 (mk_12 ko0 (fo12 fa_170))
                    have hfr0 : ∀ b, kd b ≠ 12 → kd b ≠ 575 → kd b ≠ 576 → f_172 b = f b := fun b q12 q575 q576 => (congrFun ef_172 b).trans ((up_ne (fun e9 => q12 (by rw [e9]; exact ko0))).trans (hfr0 b q12 q575 q576))
                    have hrA12 : ∀ b, kd b = 12 → ∀ j, fldR (f_172 b) j = fldR (f b) j := fun b kb j => ((congrArg (fun x => fldR x j) (congrFun ef_172 b)).trans (fra_up (fun j => by rw [hfo_168]; exact fr_set (k := 10) rfl rfl) j b)).trans (hrA12 b kb j)
                    have hfA12 : ∀ b, kd b = 12 → ∀ j, j ≠ 5 → j ≠ 6 → j ≠ 7 → j ≠ 8 → j ≠ 9 → j ≠ 10 → j ≠ 11 → j ≠ 12 → j ≠ 13 → j ≠ 14 → j ≠ 29 → j ≠ 38 → j ≠ 39 → j ≠ 43 → fldI (f_172 b) j = fldI (f b) j := fun b kb j n5 n6 n7 n8 n9 n10 n11 n12 n13 n14 n29 n38 n39 n43 => ((congrArg (fun x => fldI x j) (congrFun ef_172 b)).trans (fia_up (fun h9 => by rw [hfo_168]; exact fi_set (k := 10) rfl h9) n10 b)).trans (hfA12 b kb j n5 n6 n7 n8 n9 n10 n11 n12 n13 n14 n29 n38 n39 n43)
                    have hTt_82 : frel kd 576 8 f_172 a_2 := by rw [ef_172]; exact hTt_82.keep (fun b q => up_ne (kd_ne ko0 q (by decide)))
                    have hfo_173 : f_172 o0 = .inr (12, [.ref a_1, .ref a_2, .ref a_3, .int v_4, .ref a_5, .int 0, .int v_156, .int v_119, .int v_120, .int 0, .int (-1), .int v_123, .int v_124, .int v_125, .int v_126, .ref a_16, .ref a_17, .ref a_18, .ref a_19, .ref a_20, .ref a_21, .ref a_22, .ref a_23, .int v_24, .int v_25, .int v_26, .int v_27, .int v_28, .ref a_29, .int v_127, .ref a_31, .ref a_32, .int v_33, .int v_34, .ref a_35, .int v_36, .ref a_37, .ref a_38, .int v_128, .int v_129, .ref a_41, .ref a_42, .ref a_43, .int v_130, .ref a_45, .ref a_46, .ref a_47, .ref a_48, .ref a_49, .ref a_50, .ref a_51, .ref a_52, .ref a_53, .int v_54, .int v_55, .ref a_56]) := by rw [ef_172]; exact up_self
                    refine lv_iload_n hx hb dX12_text_108 rfl (lv_at hl 0 rfl) ?_
                    refine lv_if_ne (tgt := 114) hx hb dX12_text_109 (by decide) (fun c_174 => ?_) (fun c_174 => ?_)
                    · skip
                      rw [← Int32.toInt_inj, ti_0] at c_174
                      refine lv_aload_n hx hb dX12_text_114 rfl (lv_at hl 1 rfl) ?_
                      refine tk_getP (D := (dC, dI)) (ci := 12) (v := .ref a_2) (C := RX12) (T := TX12) (N := 56) hx hb hU inlX12 hown hK hP mo0 hfo_173 rfl 1 (by decide) (hU _ wd_170) (fun _ h9 => h9) rfl dX12_text_115 ?_
                      refine lv_bipush (v := 41) hx hb dX12_text_118 (by decide) ?_
                      refine lv_aload_n hx hb dX12_text_120 rfl (lv_at hl 1 rfl) ?_
                      refine tk_getP (D := (dC, dI)) (ci := 12) (v := .ref a_1) (C := RX12) (T := TX12) (N := 56) hx hb hU inlX12 hown hK hP mo0 hfo_173 rfl 0 (by decide) (hU _ wd_169) (fun _ h9 => h9) rfl dX12_text_121 ?_
                      refine lv_bipush (v := 41) hx hb dX12_text_124 (by decide) ?_
                      obtain ⟨g_176, hfo_175, hbg_176⟩ := un_575 (hG _ ma_1) ka_1
                      refine tk_ildP hx hb hK hP 0 ma_1 hfo_175 rfl (vp_in_nI (n := 41) (by decide) (by decide)) dX12_text_126 ?_
                      refine lv_topi (fun x_177 ex_177 => ?_)
                      have bx_177 : (0 ≤ x_177.toInt ∧ x_177.toInt ≤ 1) := by rw [ex_177]; exact hbg_176.2.2.2.2.2.2.2.1 _ (by decide) (by decide) (by decide)
                      obtain ⟨g_179, hfo_178, hbg_179⟩ := un_576 (hG _ ma_2) ka_2
                      refine tk_istP hx hb hK hP hD hS 0 ma_2 hfo_178 rfl (vp_in_nI (n := 41) (by decide) (by decide)) dX12_text_127 (fun H locs hP hD hS => ?_)
                      have hc9 : ((Int32.toNatClampNeg 41 : Nat) : Int) = 41 := by decide
                      obtain ⟨g_180, eqg_180⟩ : ∃ y : Nat → Int32, y = upd g_179 (Int32.toNatClampNeg 41) x_177 := ⟨_, rfl⟩
                      rw [← eqg_180] at hP hD
                      have hbg_180 : wOK g_180 := by rw [eqg_180]; exact ⟨hbg_179.1.up (fun h1 h2 h3 => by exfalso; omega), hbg_179.2.1.up (fun h1 h2 h3 => by exfalso; omega), hbg_179.2.2.1.up (fun h1 h2 h3 => by exfalso; omega), hbg_179.2.2.2.1.up (fun h1 h2 h3 => by exfalso; omega), hbg_179.2.2.2.2.1.up (fun h1 h2 h3 => by exfalso; omega), hbg_179.2.2.2.2.2.1.up (fun h1 h2 h3 => by exfalso; omega), hbg_179.2.2.2.2.2.2.1.up (fun h1 h2 h3 => by exfalso; omega), hbg_179.2.2.2.2.2.2.2.1.up (fun h1 h2 h3 => by constructor <;> omega), hbg_179.2.2.2.2.2.2.2.2.1.up (fun h1 h2 h3 => by exfalso; omega), hbg_179.2.2.2.2.2.2.2.2.2.1.up (fun h1 h2 h3 => by exfalso; omega), hbg_179.2.2.2.2.2.2.2.2.2.2.1.up (fun h1 h2 h3 => by exfalso; omega), hbg_179.2.2.2.2.2.2.2.2.2.2.2.1.up (fun h1 h2 h3 => by exfalso; omega), hbg_179.2.2.2.2.2.2.2.2.2.2.2.2.1.up (fun h1 h2 h3 => by exfalso; omega), hbg_179.2.2.2.2.2.2.2.2.2.2.2.2.2.1.up (fun h1 h2 h3 => by exfalso; omega), hbg_179.2.2.2.2.2.2.2.2.2.2.2.2.2.2.1.up (fun h1 h2 h3 => by exfalso; omega), hbg_179.2.2.2.2.2.2.2.2.2.2.2.2.2.2.2.up (fun h1 h2 h3 => by exfalso; omega)⟩
                      obtain ⟨f_182, ef_182⟩ : ∃ y : Nat → va_E, y = va_up f_172 a_2 (.inl (cI, 1560, .inl g_180)) := ⟨_, rfl⟩
                      have hP : va_P (dC, dI) vwCl (va_pl L f_182) H := by rw [ef_182]; exact hP
                      have hD : va_D (fun q => q ∈ L) (va_pl L f_182) := by rw [ef_182]; exact hD
                      have hG : GI (okc cI cL cZ cR cG cH L kd) kd L f_182 := by rw [ef_182]; exact hG.set a_2 (mk_576 ka_2 ⟨_, rfl, hbg_180⟩)
                      have hfo_183 : f_182 o0 = .inr (12, [.ref a_1, .ref a_2, .ref a_3, .int v_4, .ref a_5, .int 0, .int v_156, .int v_119, .int v_120, .int 0, .int (-1), .int v_123, .int v_124, .int v_125, .int v_126, .ref a_16, .ref a_17, .ref a_18, .ref a_19, .ref a_20, .ref a_21, .ref a_22, .ref a_23, .int v_24, .int v_25, .int v_26, .int v_27, .int v_28, .ref a_29, .int v_127, .ref a_31, .ref a_32, .int v_33, .int v_34, .ref a_35, .int v_36, .ref a_37, .ref a_38, .int v_128, .int v_129, .ref a_41, .ref a_42, .ref a_43, .int v_130, .ref a_45, .ref a_46, .ref a_47, .ref a_48, .ref a_49, .ref a_50, .ref a_51, .ref a_52, .ref a_53, .int v_54, .int v_55, .ref a_56]) := by rw [ef_182, up_ne (kd_ne ka_2 ko0 (by decide))]; exact hfo_173
                      have hfo_184 : f_182 a_1 = .inl (cI, 1560, .inl g_176) := by rw [ef_182, up_ne (kd_ne ka_2 ka_1 (by decide))]; exact hfo_175
                      have hfr0 : ∀ b, kd b ≠ 12 → kd b ≠ 575 → kd b ≠ 576 → f_182 b = f b := fun b q12 q575 q576 => (congrFun ef_182 b).trans ((up_ne (fun e9 => q576 (by rw [e9]; exact ka_2))).trans (hfr0 b q12 q575 q576))
                      have hrA12 : ∀ b, kd b = 12 → ∀ j, fldR (f_182 b) j = fldR (f b) j := fun b kb j => (congrArg (fun x => fldR x j) ((congrFun ef_182 b).trans (up_ne (kd_ne ka_2 kb (by decide))))).trans (hrA12 b kb j)
                      have hfA12 : ∀ b, kd b = 12 → ∀ j, j ≠ 5 → j ≠ 6 → j ≠ 7 → j ≠ 8 → j ≠ 9 → j ≠ 10 → j ≠ 11 → j ≠ 12 → j ≠ 13 → j ≠ 14 → j ≠ 29 → j ≠ 38 → j ≠ 39 → j ≠ 43 → fldI (f_182 b) j = fldI (f b) j := fun b kb j n5 n6 n7 n8 n9 n10 n11 n12 n13 n14 n29 n38 n39 n43 => (congrArg (fun x => fldI x j) ((congrFun ef_182 b).trans (up_ne (kd_ne ka_2 kb (by decide))))).trans (hfA12 b kb j n5 n6 n7 n8 n9 n10 n11 n12 n13 n14 n29 n38 n39 n43)
                      have hTt_82 : frel kd 576 8 f_182 a_2 := by rw [ef_182]; exact frel.mk ka_2 up_self (by rw [eqg_180]; exact (hTt_82.get hfo_178).up (hbg_179.2.1 16 (by decide) (by decide) (by decide)).2 (by omega) (by omega) (by omega) (fun h9 => by exfalso; omega))
                      have hfo_185 : f_182 a_2 = .inl (cI, 1560, .inl g_180) := by rw [ef_182]; exact up_self
                      have ql_186 : x_177 = g_180 (Int32.toNatClampNeg 41) := by rw [eqg_180, pk_us]
                      refine lv_aload_n hx hb dX12_text_128 rfl (lv_at hl 1 rfl) ?_
                      refine tk_getP (D := (dC, dI)) (ci := 12) (v := .ref a_2) (C := RX12) (T := TX12) (N := 56) hx hb hU inlX12 hown hK hP mo0 hfo_183 rfl 1 (by decide) (hU _ wd_170) (fun _ h9 => h9) rfl dX12_text_129 ?_
                      refine lv_bipush (v := 40) hx hb dX12_text_132 (by decide) ?_
                      refine lv_iconst (v := 1) hx hb dX12_text_134 (by decide) ?_
                      refine lv_aload_n hx hb dX12_text_135 rfl (lv_at hl 1 rfl) ?_
                      refine tk_getP (D := (dC, dI)) (ci := 12) (v := .ref a_2) (C := RX12) (T := TX12) (N := 56) hx hb hU inlX12 hown hK hP mo0 hfo_183 rfl 1 (by decide) (hU _ wd_170) (fun _ h9 => h9) rfl dX12_text_136 ?_
                      refine lv_bipush (v := 17) hx hb dX12_text_139 (by decide) ?_
                      refine tk_ildP hx hb hK hP 0 ma_2 hfo_185 rfl (vp_in_nI (n := 17) (by decide) (by decide)) dX12_text_141 ?_
                      refine lv_topi (fun x_187 ex_187 => ?_)
                      have bx_187 : (0 ≤ x_187.toInt ∧ x_187.toInt ≤ 8) := by rw [ex_187]; exact hbg_180.2.2.1 _ (by decide) (by decide) (by decide)
                      refine lv_ishl hx hb dX12_text_142 ?_
                      refine lv_topi (fun x_188 ex_188 => ?_)
                      have bx_188 : (1 ≤ x_188.toInt ∧ x_188.toInt ≤ 256) := by rw [ex_188]; exact sh_8 (by constructor <;> omega)
                      refine lv_iconst (v := 1) hx hb dX12_text_143 (by decide) ?_
                      refine lv_isub hx hb dX12_text_144 ?_
                      refine lv_topi (fun x_189 ex_189 => ?_)
                      have hx_189 : x_189.toInt = x_188.toInt - 1 := by rw [ex_189, sb_I (by rw [ti_1]; omega) (by rw [ti_1]; omega), ti_1]
                      have bx_189 : (0 ≤ x_189.toInt ∧ x_189.toInt ≤ 255) := by constructor <;> omega
                      refine tk_istP hx hb hK hP hD hS 0 ma_2 hfo_185 rfl (vp_in_nI (n := 40) (by decide) (by decide)) dX12_text_145 (fun H locs hP hD hS => ?_)
                      have hc9 : ((Int32.toNatClampNeg 40 : Nat) : Int) = 40 := by decide
                      obtain ⟨g_190, eqg_190⟩ : ∃ y : Nat → Int32, y = upd g_180 (Int32.toNatClampNeg 40) x_189 := ⟨_, rfl⟩
                      rw [← eqg_190] at hP hD
                      have hbg_190 : wOK g_190 := by rw [eqg_190]; exact ⟨hbg_180.1.up (fun h1 h2 h3 => by exfalso; omega), hbg_180.2.1.up (fun h1 h2 h3 => by exfalso; omega), hbg_180.2.2.1.up (fun h1 h2 h3 => by exfalso; omega), hbg_180.2.2.2.1.up (fun h1 h2 h3 => by exfalso; omega), hbg_180.2.2.2.2.1.up (fun h1 h2 h3 => by exfalso; omega), hbg_180.2.2.2.2.2.1.up (fun h1 h2 h3 => by exfalso; omega), hbg_180.2.2.2.2.2.2.1.up (fun h1 h2 h3 => by constructor <;> omega), hbg_180.2.2.2.2.2.2.2.1.up (fun h1 h2 h3 => by exfalso; omega), hbg_180.2.2.2.2.2.2.2.2.1.up (fun h1 h2 h3 => by exfalso; omega), hbg_180.2.2.2.2.2.2.2.2.2.1.up (fun h1 h2 h3 => by exfalso; omega), hbg_180.2.2.2.2.2.2.2.2.2.2.1.up (fun h1 h2 h3 => by exfalso; omega), hbg_180.2.2.2.2.2.2.2.2.2.2.2.1.up (fun h1 h2 h3 => by exfalso; omega), hbg_180.2.2.2.2.2.2.2.2.2.2.2.2.1.up (fun h1 h2 h3 => by exfalso; omega), hbg_180.2.2.2.2.2.2.2.2.2.2.2.2.2.1.up (fun h1 h2 h3 => by exfalso; omega), hbg_180.2.2.2.2.2.2.2.2.2.2.2.2.2.2.1.up (fun h1 h2 h3 => by exfalso; omega), hbg_180.2.2.2.2.2.2.2.2.2.2.2.2.2.2.2.up (fun h1 h2 h3 => by exfalso; omega)⟩
                      obtain ⟨f_192, ef_192⟩ : ∃ y : Nat → va_E, y = va_up f_182 a_2 (.inl (cI, 1560, .inl g_190)) := ⟨_, rfl⟩
                      have hP : va_P (dC, dI) vwCl (va_pl L f_192) H := by rw [ef_192]; exact hP
                      have hD : va_D (fun q => q ∈ L) (va_pl L f_192) := by rw [ef_192]; exact hD
                      have hG : GI (okc cI cL cZ cR cG cH L kd) kd L f_192 := by rw [ef_192]; exact hG.set a_2 (mk_576 ka_2 ⟨_, rfl, hbg_190⟩)
                      have hfo_193 : f_192 o0 = .inr (12, [.ref a_1, .ref a_2, .ref a_3, .int v_4, .ref a_5, .int 0, .int v_156, .int v_119, .int v_120, .int 0, .int (-1), .int v_123, .int v_124, .int v_125, .int v_126, .ref a_16, .ref a_17, .ref a_18, .ref a_19, .ref a_20, .ref a_21, .ref a_22, .ref a_23, .int v_24, .int v_25, .int v_26, .int v_27, .int v_28, .ref a_29, .int v_127, .ref a_31, .ref a_32, .int v_33, .int v_34, .ref a_35, .int v_36, .ref a_37, .ref a_38, .int v_128, .int v_129, .ref a_41, .ref a_42, .ref a_43, .int v_130, .ref a_45, .ref a_46, .ref a_47, .ref a_48, .ref a_49, .ref a_50, .ref a_51, .ref a_52, .ref a_53, .int v_54, .int v_55, .ref a_56]) := by rw [ef_192, up_ne (kd_ne ka_2 ko0 (by decide))]; exact hfo_183
                      have hfo_194 : f_192 a_1 = .inl (cI, 1560, .inl g_176) := by rw [ef_192, up_ne (kd_ne ka_2 ka_1 (by decide))]; exact hfo_184
                      have hfr0 : ∀ b, kd b ≠ 12 → kd b ≠ 575 → kd b ≠ 576 → f_192 b = f b := fun b q12 q575 q576 => (congrFun ef_192 b).trans ((up_ne (fun e9 => q576 (by rw [e9]; exact ka_2))).trans (hfr0 b q12 q575 q576))
                      have hrA12 : ∀ b, kd b = 12 → ∀ j, fldR (f_192 b) j = fldR (f b) j := fun b kb j => (congrArg (fun x => fldR x j) ((congrFun ef_192 b).trans (up_ne (kd_ne ka_2 kb (by decide))))).trans (hrA12 b kb j)
                      have hfA12 : ∀ b, kd b = 12 → ∀ j, j ≠ 5 → j ≠ 6 → j ≠ 7 → j ≠ 8 → j ≠ 9 → j ≠ 10 → j ≠ 11 → j ≠ 12 → j ≠ 13 → j ≠ 14 → j ≠ 29 → j ≠ 38 → j ≠ 39 → j ≠ 43 → fldI (f_192 b) j = fldI (f b) j := fun b kb j n5 n6 n7 n8 n9 n10 n11 n12 n13 n14 n29 n38 n39 n43 => (congrArg (fun x => fldI x j) ((congrFun ef_192 b).trans (up_ne (kd_ne ka_2 kb (by decide))))).trans (hfA12 b kb j n5 n6 n7 n8 n9 n10 n11 n12 n13 n14 n29 n38 n39 n43)
                      have hTt_82 : frel kd 576 8 f_192 a_2 := by rw [ef_192]; exact frel.mk ka_2 up_self (by rw [eqg_190]; exact (hTt_82.get hfo_185).up (hbg_180.2.1 16 (by decide) (by decide) (by decide)).2 (by omega) (by omega) (by omega) (fun h9 => by exfalso; omega))
                      have hfo_195 : f_192 a_2 = .inl (cI, 1560, .inl g_190) := by rw [ef_192]; exact up_self
                      have ql_196 : x_177 = g_190 (Int32.toNatClampNeg 41) := by rw [eqg_190, pk_un (by decide)]; exact ql_186
                      have ql_197 : x_187 = g_190 (Int32.toNatClampNeg 17) := by rw [eqg_190, pk_un (by decide)]; exact ex_187
                      have ql_198 : x_189 = g_190 (Int32.toNatClampNeg 40) := by rw [eqg_190, pk_us]
                      refine lv_iconst (v := 0) hx hb dX12_text_146 (by decide) ?_
                      refine lv_istore_n (lv' := [(2, .int 0), (1, .int y_114), (0, .ref o0)]) hx hb dX12_text_147 rfl hl (by decide) rfl (fun ls hl => ?_)
                      have hloop_217 : ∀ (n : Nat), ∀ (y_218 : Int32), (0 ≤ y_218.toInt ∧ y_218.toInt ≤ 8) → ∀ (f_220 : Nat → va_E), GI (okc cI cL cZ cR cG cH L kd) kd L f_220 → ∀ (H : Heap) (locs : List Loc), va_P (dC, dI) vwCl (va_pl L f_220) H → va_S (fun q => q ∈ L) s.heap H locs → va_D (fun q => q ∈ L) (va_pl L f_220) → (∀ b, kd b ≠ 12 → kd b ≠ 575 → kd b ≠ 576 → f_220 b = f b) → (∀ b, kd b = 12 → ∀ j, fldR (f_220 b) j = fldR (f b) j) → (∀ b, kd b = 12 → ∀ j, j ≠ 5 → j ≠ 6 → j ≠ 7 → j ≠ 8 → j ≠ 9 → j ≠ 10 → j ≠ 11 → j ≠ 12 → j ≠ 13 → j ≠ 14 → j ≠ 29 → j ≠ 38 → j ≠ 39 → j ≠ 43 → fldI (f_220 b) j = fldI (f b) j) → (f_220 o0 = .inr (12, [.ref a_1, .ref a_2, .ref a_3, .int v_4, .ref a_5, .int 0, .int v_156, .int v_119, .int v_120, .int 0, .int (-1), .int v_123, .int v_124, .int v_125, .int v_126, .ref a_16, .ref a_17, .ref a_18, .ref a_19, .ref a_20, .ref a_21, .ref a_22, .ref a_23, .int v_24, .int v_25, .int v_26, .int v_27, .int v_28, .ref a_29, .int v_127, .ref a_31, .ref a_32, .int v_33, .int v_34, .ref a_35, .int v_36, .ref a_37, .ref a_38, .int v_128, .int v_129, .ref a_41, .ref a_42, .ref a_43, .int v_130, .ref a_45, .ref a_46, .ref a_47, .ref a_48, .ref a_49, .ref a_50, .ref a_51, .ref a_52, .ref a_53, .int v_54, .int v_55, .ref a_56])) → (f_220 a_1 = .inl (cI, 1560, .inl g_176)) → frel kd 576 8 f_220 a_2 → 8 - y_218.toInt < (n : Int) → ∀ (ls : Array Slot), lv_has ls 3 [(2, .int y_218), (1, .int y_114), (0, .ref o0)] → W p l e (headSpec (wU yX12_text cX12_text 3 (some .int)) { frames := 9, cells := 0, slots := 0, locals := 197 }).room s m [.ref o0].toArray below meth c H locs 0 0 (MQ below (va_Qi (fun (r : Int32) (f9 : Nat → va_E) => GI (okc cI cL cZ cR cG cH L kd) kd L f9 ∧ ((-2147483648) ≤ r.toInt ∧ r.toInt ≤ 2147483647) ∧ (∀ b, kd b ≠ 12 → kd b ≠ 575 → kd b ≠ 576 → f9 b = f b) ∧ (∀ b, kd b = 12 → ∀ j, fldR (f9 b) j = fldR (f b) j) ∧ (∀ b, kd b = 12 → ∀ j, j ≠ 5 → j ≠ 6 → j ≠ 7 → j ≠ 8 → j ≠ 9 → j ≠ 10 → j ≠ 11 → j ≠ 12 → j ≠ 13 → j ≠ 14 → j ≠ 29 → j ≠ 38 → j ≠ 39 → j ≠ 43 → fldI (f9 b) j = fldI (f b) j) ∧ (∀ (w5 z5 : Int32) (w29 z29 : Int32), fldI (f o0) 5 = some w5 → fldI (f o0) 29 = some w29 → fldI (f9 o0) 5 = some z5 → fldI (f9 o0) 29 = some z29 → z5.toInt = 0 ∧ (w29.toInt ≤ 200 → z29.toInt ≤ 200))) (qP (dC, dI) cI cL cZ cR cG cH L) (fun q => q ∈ L)) [.ref o0].toArray s 0 0 (fun q => q ∈ L)) (F0 m 148 ls []) := by
                        intro n
                        induction n with
                        | zero => intro y_218 by_218 f_220 hG H locs hP hS hD hfr0 hrA12 hfA12 hfo_221 hfo_222 hTt_82 hmuhloop_217 ls hl; exfalso; omega
                        | succ n ih_hloop_217 =>
                          intro y_218 by_218 f_220 hG H locs hP hS hD hfr0 hrA12 hfA12 hfo_221 hfo_222 hTt_82 hmuhloop_217 ls hl
                          refine lv_iload_n hx hb dX12_text_148 rfl (lv_at hl 0 rfl) ?_
                          refine lv_bipush (v := 8) hx hb dX12_text_149 (by decide) ?_
                          refine lv_icmp_ge (tgt := 170) hx hb dX12_text_151 (by decide) (fun c_223 => ?_) (fun c_223 => ?_)
                          · skip
                            rw [Int32.le_iff_toInt_le, ti_8] at c_223
                            refine lv_iconst (v := 0) hx hb dX12_text_170 (by decide) ?_
                            refine lv_istore_n (lv' := [(2, .int 0), (1, .int y_114), (0, .ref o0)]) hx hb dX12_text_171 rfl hl (by decide) rfl (fun ls hl => ?_)
                            have hloop_239 : ∀ (n : Nat), ∀ (y_240 : Int32), (0 ≤ y_240.toInt ∧ y_240.toInt ≤ 1560) → ∀ (f_242 : Nat → va_E), GI (okc cI cL cZ cR cG cH L kd) kd L f_242 → ∀ (H : Heap) (locs : List Loc), va_P (dC, dI) vwCl (va_pl L f_242) H → va_S (fun q => q ∈ L) s.heap H locs → va_D (fun q => q ∈ L) (va_pl L f_242) → (∀ b, kd b ≠ 12 → kd b ≠ 575 → kd b ≠ 576 → f_242 b = f b) → (∀ b, kd b = 12 → ∀ j, fldR (f_242 b) j = fldR (f b) j) → (∀ b, kd b = 12 → ∀ j, j ≠ 5 → j ≠ 6 → j ≠ 7 → j ≠ 8 → j ≠ 9 → j ≠ 10 → j ≠ 11 → j ≠ 12 → j ≠ 13 → j ≠ 14 → j ≠ 29 → j ≠ 38 → j ≠ 39 → j ≠ 43 → fldI (f_242 b) j = fldI (f b) j) → (f_242 o0 = .inr (12, [.ref a_1, .ref a_2, .ref a_3, .int v_4, .ref a_5, .int 0, .int v_156, .int v_119, .int v_120, .int 0, .int (-1), .int v_123, .int v_124, .int v_125, .int v_126, .ref a_16, .ref a_17, .ref a_18, .ref a_19, .ref a_20, .ref a_21, .ref a_22, .ref a_23, .int v_24, .int v_25, .int v_26, .int v_27, .int v_28, .ref a_29, .int v_127, .ref a_31, .ref a_32, .int v_33, .int v_34, .ref a_35, .int v_36, .ref a_37, .ref a_38, .int v_128, .int v_129, .ref a_41, .ref a_42, .ref a_43, .int v_130, .ref a_45, .ref a_46, .ref a_47, .ref a_48, .ref a_49, .ref a_50, .ref a_51, .ref a_52, .ref a_53, .int v_54, .int v_55, .ref a_56])) → frel kd 576 8 f_242 a_2 → 1560 - y_240.toInt < (n : Int) → ∀ (ls : Array Slot), lv_has ls 3 [(2, .int y_240), (1, .int y_114), (0, .ref o0)] → W p l e (headSpec (wU yX12_text cX12_text 3 (some .int)) { frames := 9, cells := 0, slots := 0, locals := 197 }).room s m [.ref o0].toArray below meth c H locs 0 0 (MQ below (va_Qi (fun (r : Int32) (f9 : Nat → va_E) => GI (okc cI cL cZ cR cG cH L kd) kd L f9 ∧ ((-2147483648) ≤ r.toInt ∧ r.toInt ≤ 2147483647) ∧ (∀ b, kd b ≠ 12 → kd b ≠ 575 → kd b ≠ 576 → f9 b = f b) ∧ (∀ b, kd b = 12 → ∀ j, fldR (f9 b) j = fldR (f b) j) ∧ (∀ b, kd b = 12 → ∀ j, j ≠ 5 → j ≠ 6 → j ≠ 7 → j ≠ 8 → j ≠ 9 → j ≠ 10 → j ≠ 11 → j ≠ 12 → j ≠ 13 → j ≠ 14 → j ≠ 29 → j ≠ 38 → j ≠ 39 → j ≠ 43 → fldI (f9 b) j = fldI (f b) j) ∧ (∀ (w5 z5 : Int32) (w29 z29 : Int32), fldI (f o0) 5 = some w5 → fldI (f o0) 29 = some w29 → fldI (f9 o0) 5 = some z5 → fldI (f9 o0) 29 = some z29 → z5.toInt = 0 ∧ (w29.toInt ≤ 200 → z29.toInt ≤ 200))) (qP (dC, dI) cI cL cZ cR cG cH L) (fun q => q ∈ L)) [.ref o0].toArray s 0 0 (fun q => q ∈ L)) (F0 m 172 ls []) := by
                              intro n
                              induction n with
                              | zero => intro y_240 by_240 f_242 hG H locs hP hS hD hfr0 hrA12 hfA12 hfo_243 hTt_82 hmuhloop_239 ls hl; exfalso; omega
                              | succ n ih_hloop_239 =>
                                intro y_240 by_240 f_242 hG H locs hP hS hD hfr0 hrA12 hfA12 hfo_243 hTt_82 hmuhloop_239 ls hl
                                refine lv_iload_n hx hb dX12_text_172 rfl (lv_at hl 0 rfl) ?_
                                refine lv_sipush (v := 1560) hx hb dX12_text_173 (by decide) ?_
                                refine lv_icmp_ge (tgt := 197) hx hb dX12_text_176 (by decide) (fun c_244 => ?_) (fun c_244 => ?_)
                                · skip
                                  rw [Int32.le_iff_toInt_le, ti_1560] at c_244
                                  refine lv_aload_n hx hb dX12_text_197 rfl (lv_at hl 2 rfl) ?_
                                  refine lv_iconst (v := 0) hx hb dX12_text_198 (by decide) ?_
                                  refine tk_putP (D := (dC, dI)) (ci := 12) (v := .int 0) (ty := .int) (C := RX12) (T := TX12) (N := 56) hx hb hU inlX12 tyX12 tyX12_ok nmX12 hown hK hP hD hS mo0 hfo_243 rfl 29 (by decide) (hU _ wd_570) (fun _ h9 => h9) rfl (by decide +kernel) rfl rfl (Nat.le_of_ble_eq_true rfl) dX12_text_199 (fun H locs hP hD hS => ?_)
                                  have fa_245 := fu12_29 (y := 0) fa_170 (by decide)
                                  obtain ⟨f_247, ef_247⟩ : ∃ y : Nat → va_E, y = va_up f_242 o0 (.inr (12, [.ref a_1, .ref a_2, .ref a_3, .int v_4, .ref a_5, .int 0, .int v_156, .int v_119, .int v_120, .int 0, .int (-1), .int v_123, .int v_124, .int v_125, .int v_126, .ref a_16, .ref a_17, .ref a_18, .ref a_19, .ref a_20, .ref a_21, .ref a_22, .ref a_23, .int v_24, .int v_25, .int v_26, .int v_27, .int v_28, .ref a_29, .int 0, .ref a_31, .ref a_32, .int v_33, .int v_34, .ref a_35, .int v_36, .ref a_37, .ref a_38, .int v_128, .int v_129, .ref a_41, .ref a_42, .ref a_43, .int v_130, .ref a_45, .ref a_46, .ref a_47, .ref a_48, .ref a_49, .ref a_50, .ref a_51, .ref a_52, .ref a_53, .int v_54, .int v_55, .ref a_56])) := ⟨_, rfl⟩
                                  have hP : va_P (dC, dI) vwCl (va_pl L f_247) H := by rw [ef_247]; exact hP
                                  have hD : va_D (fun q => q ∈ L) (va_pl L f_247) := by rw [ef_247]; exact hD
                                  have hG : GI (okc cI cL cZ cR cG cH L kd) kd L f_247 := by rw [ef_247]; exact hG.set o0 (mk_12 ko0 (fo12 fa_245))
                                  have hfr0 : ∀ b, kd b ≠ 12 → kd b ≠ 575 → kd b ≠ 576 → f_247 b = f b := fun b q12 q575 q576 => (congrFun ef_247 b).trans ((up_ne (fun e9 => q12 (by rw [e9]; exact ko0))).trans (hfr0 b q12 q575 q576))
                                  have hrA12 : ∀ b, kd b = 12 → ∀ j, fldR (f_247 b) j = fldR (f b) j := fun b kb j => ((congrArg (fun x => fldR x j) (congrFun ef_247 b)).trans (fra_up (fun j => by rw [hfo_243]; exact fr_set (k := 29) rfl rfl) j b)).trans (hrA12 b kb j)
                                  have hfA12 : ∀ b, kd b = 12 → ∀ j, j ≠ 5 → j ≠ 6 → j ≠ 7 → j ≠ 8 → j ≠ 9 → j ≠ 10 → j ≠ 11 → j ≠ 12 → j ≠ 13 → j ≠ 14 → j ≠ 29 → j ≠ 38 → j ≠ 39 → j ≠ 43 → fldI (f_247 b) j = fldI (f b) j := fun b kb j n5 n6 n7 n8 n9 n10 n11 n12 n13 n14 n29 n38 n39 n43 => ((congrArg (fun x => fldI x j) (congrFun ef_247 b)).trans (fia_up (fun h9 => by rw [hfo_243]; exact fi_set (k := 29) rfl h9) n29 b)).trans (hfA12 b kb j n5 n6 n7 n8 n9 n10 n11 n12 n13 n14 n29 n38 n39 n43)
                                  have hTt_82 : frel kd 576 8 f_247 a_2 := by rw [ef_247]; exact hTt_82.keep (fun b q => up_ne (kd_ne ko0 q (by decide)))
                                  have hfo_248 : f_247 o0 = .inr (12, [.ref a_1, .ref a_2, .ref a_3, .int v_4, .ref a_5, .int 0, .int v_156, .int v_119, .int v_120, .int 0, .int (-1), .int v_123, .int v_124, .int v_125, .int v_126, .ref a_16, .ref a_17, .ref a_18, .ref a_19, .ref a_20, .ref a_21, .ref a_22, .ref a_23, .int v_24, .int v_25, .int v_26, .int v_27, .int v_28, .ref a_29, .int 0, .ref a_31, .ref a_32, .int v_33, .int v_34, .ref a_35, .int v_36, .ref a_37, .ref a_38, .int v_128, .int v_129, .ref a_41, .ref a_42, .ref a_43, .int v_130, .ref a_45, .ref a_46, .ref a_47, .ref a_48, .ref a_49, .ref a_50, .ref a_51, .ref a_52, .ref a_53, .int v_54, .int v_55, .ref a_56]) := by rw [ef_247]; exact up_self
                                  refine lv_aload_n hx hb dX12_text_202 rfl (lv_at hl 2 rfl) ?_
                                  refine lv_iconst (v := 0) hx hb dX12_text_203 (by decide) ?_
                                  refine tk_putP (D := (dC, dI)) (ci := 12) (v := .int 0) (ty := .int) (C := RX12) (T := TX12) (N := 56) hx hb hU inlX12 tyX12 tyX12_ok nmX12 hown hK hP hD hS mo0 hfo_248 rfl 38 (by decide) (hU _ wd_571) (fun _ h9 => h9) rfl (by decide +kernel) rfl rfl (Nat.le_of_ble_eq_true rfl) dX12_text_204 (fun H locs hP hD hS => ?_)
                                  have fa_249 := fu12_38 (y := 0) fa_245 (by decide)
                                  obtain ⟨f_251, ef_251⟩ : ∃ y : Nat → va_E, y = va_up f_247 o0 (.inr (12, [.ref a_1, .ref a_2, .ref a_3, .int v_4, .ref a_5, .int 0, .int v_156, .int v_119, .int v_120, .int 0, .int (-1), .int v_123, .int v_124, .int v_125, .int v_126, .ref a_16, .ref a_17, .ref a_18, .ref a_19, .ref a_20, .ref a_21, .ref a_22, .ref a_23, .int v_24, .int v_25, .int v_26, .int v_27, .int v_28, .ref a_29, .int 0, .ref a_31, .ref a_32, .int v_33, .int v_34, .ref a_35, .int v_36, .ref a_37, .ref a_38, .int 0, .int v_129, .ref a_41, .ref a_42, .ref a_43, .int v_130, .ref a_45, .ref a_46, .ref a_47, .ref a_48, .ref a_49, .ref a_50, .ref a_51, .ref a_52, .ref a_53, .int v_54, .int v_55, .ref a_56])) := ⟨_, rfl⟩
                                  have hP : va_P (dC, dI) vwCl (va_pl L f_251) H := by rw [ef_251]; exact hP
                                  have hD : va_D (fun q => q ∈ L) (va_pl L f_251) := by rw [ef_251]; exact hD
                                  have hG : GI (okc cI cL cZ cR cG cH L kd) kd L f_251 := by rw [ef_251]; exact hG.set o0 (mk_12 ko0 (fo12 fa_249))
                                  have hfr0 : ∀ b, kd b ≠ 12 → kd b ≠ 575 → kd b ≠ 576 → f_251 b = f b := fun b q12 q575 q576 => (congrFun ef_251 b).trans ((up_ne (fun e9 => q12 (by rw [e9]; exact ko0))).trans (hfr0 b q12 q575 q576))
                                  have hrA12 : ∀ b, kd b = 12 → ∀ j, fldR (f_251 b) j = fldR (f b) j := fun b kb j => ((congrArg (fun x => fldR x j) (congrFun ef_251 b)).trans (fra_up (fun j => by rw [hfo_248]; exact fr_set (k := 38) rfl rfl) j b)).trans (hrA12 b kb j)
                                  have hfA12 : ∀ b, kd b = 12 → ∀ j, j ≠ 5 → j ≠ 6 → j ≠ 7 → j ≠ 8 → j ≠ 9 → j ≠ 10 → j ≠ 11 → j ≠ 12 → j ≠ 13 → j ≠ 14 → j ≠ 29 → j ≠ 38 → j ≠ 39 → j ≠ 43 → fldI (f_251 b) j = fldI (f b) j := fun b kb j n5 n6 n7 n8 n9 n10 n11 n12 n13 n14 n29 n38 n39 n43 => ((congrArg (fun x => fldI x j) (congrFun ef_251 b)).trans (fia_up (fun h9 => by rw [hfo_248]; exact fi_set (k := 38) rfl h9) n38 b)).trans (hfA12 b kb j n5 n6 n7 n8 n9 n10 n11 n12 n13 n14 n29 n38 n39 n43)
                                  have hTt_82 : frel kd 576 8 f_251 a_2 := by rw [ef_251]; exact hTt_82.keep (fun b q => up_ne (kd_ne ko0 q (by decide)))
                                  have hfo_252 : f_251 o0 = .inr (12, [.ref a_1, .ref a_2, .ref a_3, .int v_4, .ref a_5, .int 0, .int v_156, .int v_119, .int v_120, .int 0, .int (-1), .int v_123, .int v_124, .int v_125, .int v_126, .ref a_16, .ref a_17, .ref a_18, .ref a_19, .ref a_20, .ref a_21, .ref a_22, .ref a_23, .int v_24, .int v_25, .int v_26, .int v_27, .int v_28, .ref a_29, .int 0, .ref a_31, .ref a_32, .int v_33, .int v_34, .ref a_35, .int v_36, .ref a_37, .ref a_38, .int 0, .int v_129, .ref a_41, .ref a_42, .ref a_43, .int v_130, .ref a_45, .ref a_46, .ref a_47, .ref a_48, .ref a_49, .ref a_50, .ref a_51, .ref a_52, .ref a_53, .int v_54, .int v_55, .ref a_56]) := by rw [ef_251]; exact up_self
                                  refine lv_aload_n hx hb dX12_text_207 rfl (lv_at hl 2 rfl) ?_
                                  refine lv_iconst (v := (-1)) hx hb dX12_text_208 (by decide) ?_
                                  refine tk_putP (D := (dC, dI)) (ci := 12) (v := .int (-1)) (ty := .int) (C := RX12) (T := TX12) (N := 56) hx hb hU inlX12 tyX12 tyX12_ok nmX12 hown hK hP hD hS mo0 hfo_252 rfl 39 (by decide) (hU _ wd_189) (fun _ h9 => h9) rfl (by decide +kernel) rfl rfl (Nat.le_of_ble_eq_true rfl) dX12_text_209 (fun H locs hP hD hS => ?_)
                                  have fa_253 := fu12_39 (y := (-1)) fa_249
                                  obtain ⟨f_255, ef_255⟩ : ∃ y : Nat → va_E, y = va_up f_251 o0 (.inr (12, [.ref a_1, .ref a_2, .ref a_3, .int v_4, .ref a_5, .int 0, .int v_156, .int v_119, .int v_120, .int 0, .int (-1), .int v_123, .int v_124, .int v_125, .int v_126, .ref a_16, .ref a_17, .ref a_18, .ref a_19, .ref a_20, .ref a_21, .ref a_22, .ref a_23, .int v_24, .int v_25, .int v_26, .int v_27, .int v_28, .ref a_29, .int 0, .ref a_31, .ref a_32, .int v_33, .int v_34, .ref a_35, .int v_36, .ref a_37, .ref a_38, .int 0, .int (-1), .ref a_41, .ref a_42, .ref a_43, .int v_130, .ref a_45, .ref a_46, .ref a_47, .ref a_48, .ref a_49, .ref a_50, .ref a_51, .ref a_52, .ref a_53, .int v_54, .int v_55, .ref a_56])) := ⟨_, rfl⟩
                                  have hP : va_P (dC, dI) vwCl (va_pl L f_255) H := by rw [ef_255]; exact hP
                                  have hD : va_D (fun q => q ∈ L) (va_pl L f_255) := by rw [ef_255]; exact hD
                                  have hG : GI (okc cI cL cZ cR cG cH L kd) kd L f_255 := by rw [ef_255]; exact hG.set o0 (mk_12 ko0 (fo12 fa_253))
                                  have hfr0 : ∀ b, kd b ≠ 12 → kd b ≠ 575 → kd b ≠ 576 → f_255 b = f b := fun b q12 q575 q576 => (congrFun ef_255 b).trans ((up_ne (fun e9 => q12 (by rw [e9]; exact ko0))).trans (hfr0 b q12 q575 q576))
                                  have hrA12 : ∀ b, kd b = 12 → ∀ j, fldR (f_255 b) j = fldR (f b) j := fun b kb j => ((congrArg (fun x => fldR x j) (congrFun ef_255 b)).trans (fra_up (fun j => by rw [hfo_252]; exact fr_set (k := 39) rfl rfl) j b)).trans (hrA12 b kb j)
                                  have hfA12 : ∀ b, kd b = 12 → ∀ j, j ≠ 5 → j ≠ 6 → j ≠ 7 → j ≠ 8 → j ≠ 9 → j ≠ 10 → j ≠ 11 → j ≠ 12 → j ≠ 13 → j ≠ 14 → j ≠ 29 → j ≠ 38 → j ≠ 39 → j ≠ 43 → fldI (f_255 b) j = fldI (f b) j := fun b kb j n5 n6 n7 n8 n9 n10 n11 n12 n13 n14 n29 n38 n39 n43 => ((congrArg (fun x => fldI x j) (congrFun ef_255 b)).trans (fia_up (fun h9 => by rw [hfo_252]; exact fi_set (k := 39) rfl h9) n39 b)).trans (hfA12 b kb j n5 n6 n7 n8 n9 n10 n11 n12 n13 n14 n29 n38 n39 n43)
                                  have hTt_82 : frel kd 576 8 f_255 a_2 := by rw [ef_255]; exact hTt_82.keep (fun b q => up_ne (kd_ne ko0 q (by decide)))
                                  have hfo_256 : f_255 o0 = .inr (12, [.ref a_1, .ref a_2, .ref a_3, .int v_4, .ref a_5, .int 0, .int v_156, .int v_119, .int v_120, .int 0, .int (-1), .int v_123, .int v_124, .int v_125, .int v_126, .ref a_16, .ref a_17, .ref a_18, .ref a_19, .ref a_20, .ref a_21, .ref a_22, .ref a_23, .int v_24, .int v_25, .int v_26, .int v_27, .int v_28, .ref a_29, .int 0, .ref a_31, .ref a_32, .int v_33, .int v_34, .ref a_35, .int v_36, .ref a_37, .ref a_38, .int 0, .int (-1), .ref a_41, .ref a_42, .ref a_43, .int v_130, .ref a_45, .ref a_46, .ref a_47, .ref a_48, .ref a_49, .ref a_50, .ref a_51, .ref a_52, .ref a_53, .int v_54, .int v_55, .ref a_56]) := by rw [ef_255]; exact up_self
                                  refine lv_aload_n hx hb dX12_text_212 rfl (lv_at hl 2 rfl) ?_
                                  refine lv_iconst (v := 0) hx hb dX12_text_213 (by decide) ?_
                                  refine tk_putP (D := (dC, dI)) (ci := 12) (v := .int 0) (ty := .int) (C := RX12) (T := TX12) (N := 56) hx hb hU inlX12 tyX12 tyX12_ok nmX12 hown hK hP hD hS mo0 hfo_256 rfl 43 (by decide) (hU _ wd_572) (fun _ h9 => h9) rfl (by decide +kernel) rfl rfl (Nat.le_of_ble_eq_true rfl) dX12_text_214 (fun H locs hP hD hS => ?_)
                                  have fa_257 := fu12_43 (y := 0) fa_253 (by decide)
                                  obtain ⟨f_259, ef_259⟩ : ∃ y : Nat → va_E, y = va_up f_255 o0 (.inr (12, [.ref a_1, .ref a_2, .ref a_3, .int v_4, .ref a_5, .int 0, .int v_156, .int v_119, .int v_120, .int 0, .int (-1), .int v_123, .int v_124, .int v_125, .int v_126, .ref a_16, .ref a_17, .ref a_18, .ref a_19, .ref a_20, .ref a_21, .ref a_22, .ref a_23, .int v_24, .int v_25, .int v_26, .int v_27, .int v_28, .ref a_29, .int 0, .ref a_31, .ref a_32, .int v_33, .int v_34, .ref a_35, .int v_36, .ref a_37, .ref a_38, .int 0, .int (-1), .ref a_41, .ref a_42, .ref a_43, .int 0, .ref a_45, .ref a_46, .ref a_47, .ref a_48, .ref a_49, .ref a_50, .ref a_51, .ref a_52, .ref a_53, .int v_54, .int v_55, .ref a_56])) := ⟨_, rfl⟩
                                  have hP : va_P (dC, dI) vwCl (va_pl L f_259) H := by rw [ef_259]; exact hP
                                  have hD : va_D (fun q => q ∈ L) (va_pl L f_259) := by rw [ef_259]; exact hD
                                  have hG : GI (okc cI cL cZ cR cG cH L kd) kd L f_259 := by rw [ef_259]; exact hG.set o0 (mk_12 ko0 (fo12 fa_257))
                                  have hfr0 : ∀ b, kd b ≠ 12 → kd b ≠ 575 → kd b ≠ 576 → f_259 b = f b := fun b q12 q575 q576 => (congrFun ef_259 b).trans ((up_ne (fun e9 => q12 (by rw [e9]; exact ko0))).trans (hfr0 b q12 q575 q576))
                                  have hrA12 : ∀ b, kd b = 12 → ∀ j, fldR (f_259 b) j = fldR (f b) j := fun b kb j => ((congrArg (fun x => fldR x j) (congrFun ef_259 b)).trans (fra_up (fun j => by rw [hfo_256]; exact fr_set (k := 43) rfl rfl) j b)).trans (hrA12 b kb j)
                                  have hfA12 : ∀ b, kd b = 12 → ∀ j, j ≠ 5 → j ≠ 6 → j ≠ 7 → j ≠ 8 → j ≠ 9 → j ≠ 10 → j ≠ 11 → j ≠ 12 → j ≠ 13 → j ≠ 14 → j ≠ 29 → j ≠ 38 → j ≠ 39 → j ≠ 43 → fldI (f_259 b) j = fldI (f b) j := fun b kb j n5 n6 n7 n8 n9 n10 n11 n12 n13 n14 n29 n38 n39 n43 => ((congrArg (fun x => fldI x j) (congrFun ef_259 b)).trans (fia_up (fun h9 => by rw [hfo_256]; exact fi_set (k := 43) rfl h9) n43 b)).trans (hfA12 b kb j n5 n6 n7 n8 n9 n10 n11 n12 n13 n14 n29 n38 n39 n43)
                                  have hTt_82 : frel kd 576 8 f_259 a_2 := by rw [ef_259]; exact hTt_82.keep (fun b q => up_ne (kd_ne ko0 q (by decide)))
                                  have hfo_260 : f_259 o0 = .inr (12, [.ref a_1, .ref a_2, .ref a_3, .int v_4, .ref a_5, .int 0, .int v_156, .int v_119, .int v_120, .int 0, .int (-1), .int v_123, .int v_124, .int v_125, .int v_126, .ref a_16, .ref a_17, .ref a_18, .ref a_19, .ref a_20, .ref a_21, .ref a_22, .ref a_23, .int v_24, .int v_25, .int v_26, .int v_27, .int v_28, .ref a_29, .int 0, .ref a_31, .ref a_32, .int v_33, .int v_34, .ref a_35, .int v_36, .ref a_37, .ref a_38, .int 0, .int (-1), .ref a_41, .ref a_42, .ref a_43, .int 0, .ref a_45, .ref a_46, .ref a_47, .ref a_48, .ref a_49, .ref a_50, .ref a_51, .ref a_52, .ref a_53, .int v_54, .int v_55, .ref a_56]) := by rw [ef_259]; exact up_self
                                  refine lv_aload_n hx hb dX12_text_217 rfl (lv_at hl 2 rfl) ?_
                                  refine tk_getP (D := (dC, dI)) (ci := 12) (v := .ref a_1) (C := RX12) (T := TX12) (N := 56) hx hb hU inlX12 hown hK hP mo0 hfo_260 rfl 0 (by decide) (hU _ wd_169) (fun _ h9 => h9) rfl dX12_text_218 ?_
                                  refine lv_bipush (v := 17) hx hb dX12_text_221 (by decide) ?_
                                  obtain ⟨g_262, hfo_261, hbg_262⟩ := un_575 (hG _ ma_1) ka_1
                                  refine tk_ildP hx hb hK hP 0 ma_1 hfo_261 rfl (vp_in_nI (n := 17) (by decide) (by decide)) dX12_text_223 ?_
                                  refine lv_topi (fun x_263 ex_263 => ?_)
                                  have bx_263 : (0 ≤ x_263.toInt ∧ x_263.toInt ≤ 8) := by rw [ex_263]; exact hbg_262.2.2.1 _ (by decide) (by decide) (by decide)
                                  exact W.iret (v := x_263) hx hb hr (fun t ht hW => ⟨⟨x_263, f_259, rfl, ⟨hG, (by constructor <;> omega), hfr0, hrA12, hfA12, (by intro w5 z5 w29 z29 e5 e29 d5 d29; rw [hfo_57] at e5 e29; rw [hfo_260] at d5 d29; obtain rfl := Option.some.inj e5; obtain rfl := Option.some.inj d5; obtain rfl := Option.some.inj e29; obtain rfl := Option.some.inj d29; (try rw [ti_0]) <;> omega)⟩, by rw [ht]; exact hP, va_K.moved hW.alike hK, pl_in hD⟩, hS.F ht⟩) hS.2.2 dX12_text_224
                                · skip
                                  rw [Int32.le_iff_toInt_le, ti_1560] at c_244
                                  refine lv_aload_n hx hb dX12_text_179 rfl (lv_at hl 2 rfl) ?_
                                  refine tk_getP (D := (dC, dI)) (ci := 12) (v := .ref a_1) (C := RX12) (T := TX12) (N := 56) hx hb hU inlX12 hown hK hP mo0 hfo_243 rfl 0 (by decide) (hU _ wd_169) (fun _ h9 => h9) rfl dX12_text_180 ?_
                                  refine lv_iload_n hx hb dX12_text_183 rfl (lv_at hl 0 rfl) ?_
                                  refine lv_aload_n hx hb dX12_text_184 rfl (lv_at hl 2 rfl) ?_
                                  refine tk_getP (D := (dC, dI)) (ci := 12) (v := .ref a_2) (C := RX12) (T := TX12) (N := 56) hx hb hU inlX12 hown hK hP mo0 hfo_243 rfl 1 (by decide) (hU _ wd_170) (fun _ h9 => h9) rfl dX12_text_185 ?_
                                  refine lv_iload_n hx hb dX12_text_188 rfl (lv_at hl 0 rfl) ?_
                                  obtain ⟨g_265, hfo_264, hbg_265⟩ := un_576 (hG _ ma_2) ka_2
                                  refine tk_ildP hx hb hK hP 0 ma_2 hfo_264 rfl (vp_in_iff.mpr (by constructor <;> omega)) dX12_text_189 ?_
                                  refine lv_topi (fun x_266 ex_266 => ?_)
                                  have bx_266 : ((-2147483648) ≤ x_266.toInt ∧ x_266.toInt ≤ 2147483647) := ⟨i32_lo _, i32_hi _⟩
                                  obtain ⟨g_268, hfo_267, hbg_268⟩ := un_575 (hG _ ma_1) ka_1
                                  refine tk_istP hx hb hK hP hD hS 0 ma_1 hfo_267 rfl (vp_in_iff.mpr (by constructor <;> omega)) dX12_text_190 (fun H locs hP hD hS => ?_)
                                  have hc9 := cl_I (i := y_240) (by omega)
                                  obtain ⟨g_269, eqg_269⟩ : ∃ y : Nat → Int32, y = upd g_268 (Int32.toNatClampNeg y_240) x_266 := ⟨_, rfl⟩
                                  rw [← eqg_269] at hP hD
                                  have hbg_269 : wOK g_269 := by rw [eqg_269]; exact ⟨hbg_268.1.up (fun h1 h2 h3 => by rw [ex_266]; exact hbg_265.1 _ h1 h2 h3), hbg_268.2.1.up (fun h1 h2 h3 => by rw [ex_266]; exact hbg_265.2.1 _ h1 h2 h3), hbg_268.2.2.1.up (fun h1 h2 h3 => by rw [ex_266]; exact hbg_265.2.2.1 _ h1 h2 h3), hbg_268.2.2.2.1.up (fun h1 h2 h3 => by rw [ex_266]; exact hbg_265.2.2.2.1 _ h1 h2 h3), hbg_268.2.2.2.2.1.up (fun h1 h2 h3 => by rw [ex_266]; exact hbg_265.2.2.2.2.1 _ h1 h2 h3), hbg_268.2.2.2.2.2.1.up (fun h1 h2 h3 => by rw [ex_266]; exact hbg_265.2.2.2.2.2.1 _ h1 h2 h3), hbg_268.2.2.2.2.2.2.1.up (fun h1 h2 h3 => by rw [ex_266]; exact hbg_265.2.2.2.2.2.2.1 _ h1 h2 h3), hbg_268.2.2.2.2.2.2.2.1.up (fun h1 h2 h3 => by rw [ex_266]; exact hbg_265.2.2.2.2.2.2.2.1 _ h1 h2 h3), hbg_268.2.2.2.2.2.2.2.2.1.up (fun h1 h2 h3 => by rw [ex_266]; exact hbg_265.2.2.2.2.2.2.2.2.1 _ h1 h2 h3), hbg_268.2.2.2.2.2.2.2.2.2.1.up (fun h1 h2 h3 => by rw [ex_266]; exact hbg_265.2.2.2.2.2.2.2.2.2.1 _ h1 h2 h3), hbg_268.2.2.2.2.2.2.2.2.2.2.1.up (fun h1 h2 h3 => by rw [ex_266]; exact hbg_265.2.2.2.2.2.2.2.2.2.2.1 _ h1 h2 h3), hbg_268.2.2.2.2.2.2.2.2.2.2.2.1.up (fun h1 h2 h3 => by rw [ex_266]; exact hbg_265.2.2.2.2.2.2.2.2.2.2.2.1 _ h1 h2 h3), hbg_268.2.2.2.2.2.2.2.2.2.2.2.2.1.up (fun h1 h2 h3 => by rw [ex_266]; exact hbg_265.2.2.2.2.2.2.2.2.2.2.2.2.1 _ h1 h2 h3), hbg_268.2.2.2.2.2.2.2.2.2.2.2.2.2.1.up (fun h1 h2 h3 => by rw [ex_266]; exact hbg_265.2.2.2.2.2.2.2.2.2.2.2.2.2.1 _ h1 h2 h3), hbg_268.2.2.2.2.2.2.2.2.2.2.2.2.2.2.1.up (fun h1 h2 h3 => by rw [ex_266]; exact hbg_265.2.2.2.2.2.2.2.2.2.2.2.2.2.2.1 _ h1 h2 h3), hbg_268.2.2.2.2.2.2.2.2.2.2.2.2.2.2.2.up (fun h1 h2 h3 => by rw [ex_266]; exact hbg_265.2.2.2.2.2.2.2.2.2.2.2.2.2.2.2 _ h1 h2 h3)⟩
                                  obtain ⟨f_271, ef_271⟩ : ∃ y : Nat → va_E, y = va_up f_242 a_1 (.inl (cI, 1560, .inl g_269)) := ⟨_, rfl⟩
                                  have hP : va_P (dC, dI) vwCl (va_pl L f_271) H := by rw [ef_271]; exact hP
                                  have hD : va_D (fun q => q ∈ L) (va_pl L f_271) := by rw [ef_271]; exact hD
                                  have hG : GI (okc cI cL cZ cR cG cH L kd) kd L f_271 := by rw [ef_271]; exact hG.set a_1 (mk_575 ka_1 ⟨_, rfl, hbg_269⟩)
                                  have hfo_272 : f_271 o0 = .inr (12, [.ref a_1, .ref a_2, .ref a_3, .int v_4, .ref a_5, .int 0, .int v_156, .int v_119, .int v_120, .int 0, .int (-1), .int v_123, .int v_124, .int v_125, .int v_126, .ref a_16, .ref a_17, .ref a_18, .ref a_19, .ref a_20, .ref a_21, .ref a_22, .ref a_23, .int v_24, .int v_25, .int v_26, .int v_27, .int v_28, .ref a_29, .int v_127, .ref a_31, .ref a_32, .int v_33, .int v_34, .ref a_35, .int v_36, .ref a_37, .ref a_38, .int v_128, .int v_129, .ref a_41, .ref a_42, .ref a_43, .int v_130, .ref a_45, .ref a_46, .ref a_47, .ref a_48, .ref a_49, .ref a_50, .ref a_51, .ref a_52, .ref a_53, .int v_54, .int v_55, .ref a_56]) := by rw [ef_271, up_ne (kd_ne ka_1 ko0 (by decide))]; exact hfo_243
                                  have hfo_273 : f_271 a_2 = .inl (cI, 1560, .inl g_265) := by rw [ef_271, up_ne (kd_ne ka_1 ka_2 (by decide))]; exact hfo_264
                                  have hfr0 : ∀ b, kd b ≠ 12 → kd b ≠ 575 → kd b ≠ 576 → f_271 b = f b := fun b q12 q575 q576 => (congrFun ef_271 b).trans ((up_ne (fun e9 => q575 (by rw [e9]; exact ka_1))).trans (hfr0 b q12 q575 q576))
                                  have hrA12 : ∀ b, kd b = 12 → ∀ j, fldR (f_271 b) j = fldR (f b) j := fun b kb j => (congrArg (fun x => fldR x j) ((congrFun ef_271 b).trans (up_ne (kd_ne ka_1 kb (by decide))))).trans (hrA12 b kb j)
                                  have hfA12 : ∀ b, kd b = 12 → ∀ j, j ≠ 5 → j ≠ 6 → j ≠ 7 → j ≠ 8 → j ≠ 9 → j ≠ 10 → j ≠ 11 → j ≠ 12 → j ≠ 13 → j ≠ 14 → j ≠ 29 → j ≠ 38 → j ≠ 39 → j ≠ 43 → fldI (f_271 b) j = fldI (f b) j := fun b kb j n5 n6 n7 n8 n9 n10 n11 n12 n13 n14 n29 n38 n39 n43 => (congrArg (fun x => fldI x j) ((congrFun ef_271 b).trans (up_ne (kd_ne ka_1 kb (by decide))))).trans (hfA12 b kb j n5 n6 n7 n8 n9 n10 n11 n12 n13 n14 n29 n38 n39 n43)
                                  have hTt_82 : frel kd 576 8 f_271 a_2 := by rw [ef_271]; exact hTt_82.keep (fun b q => up_ne (kd_ne ka_1 q (by decide)))
                                  have hfo_274 : f_271 a_1 = .inl (cI, 1560, .inl g_269) := by rw [ef_271]; exact up_self
                                  have ql_275 : x_266 = g_269 (Int32.toNatClampNeg y_240) := by rw [eqg_269, pk_us]
                                  obtain ⟨x_276, ex_276⟩ : ∃ y : Int32, y_240 + 1 = y := ⟨_, rfl⟩
                                  have hx_276 : x_276.toInt = y_240.toInt + 1 := by rw [← ex_276, ad_I (by rw [ti_1]; omega) (by rw [ti_1]; omega), ti_1]
                                  have bx_276 : (1 ≤ x_276.toInt ∧ x_276.toInt ≤ 1560) := by constructor <;> omega
                                  refine lv_iinc (v := x_276) (lv' := [(2, .int x_276), (1, .int y_114), (0, .ref o0)]) hx hb dX12_text_191 hl (k := 0) rfl ex_276 (by decide) rfl (fun ls hl => ?_)
                                  refine lv_goto (tgt := 172) hx hb dX12_text_194 (by decide) ?_
                                  exact ih_hloop_239 x_276 (by constructor <;> omega) f_271 hG _ _ hP hS hD hfr0 hrA12 hfA12 hfo_272 hTt_82 (by omega) ls (lv_sub hl [0, 1, 2] rfl)
                            exact hloop_239 1561 0 (by decide) f_220 hG _ _ hP hS hD hfr0 hrA12 hfA12 hfo_221 hTt_82 (by (try rw [ti_0]) <;> omega) ls hl
                          · skip
                            rw [Int32.le_iff_toInt_le, ti_8] at c_223
                            refine lv_aload_n hx hb dX12_text_154 rfl (lv_at hl 2 rfl) ?_
                            refine tk_getP (D := (dC, dI)) (ci := 12) (v := .ref a_2) (C := RX12) (T := TX12) (N := 56) hx hb hU inlX12 hown hK hP mo0 hfo_221 rfl 1 (by decide) (hU _ wd_170) (fun _ h9 => h9) rfl dX12_text_155 ?_
                            refine lv_bipush (v := 43) hx hb dX12_text_158 (by decide) ?_
                            refine lv_iload_n hx hb dX12_text_160 rfl (lv_at hl 0 rfl) ?_
                            refine lv_iadd hx hb dX12_text_161 ?_
                            refine lv_topi (fun x_277 ex_277 => ?_)
                            have hx_277 : x_277.toInt = 43 + y_218.toInt := by rw [ex_277, ad_I (by rw [ti_43]; omega) (by rw [ti_43]; omega), ti_43]
                            have bx_277 : (43 ≤ x_277.toInt ∧ x_277.toInt ≤ 50) := by constructor <;> omega
                            refine lv_iload_n hx hb dX12_text_162 rfl (lv_at hl 0 rfl) ?_
                            obtain ⟨g_279, hfo_278, hbg_279⟩ := un_576 (hG _ ma_2) ka_2
                            refine tk_istP hx hb hK hP hD hS 0 ma_2 hfo_278 rfl (vp_in_iff.mpr (by constructor <;> omega)) dX12_text_163 (fun H locs hP hD hS => ?_)
                            have hc9 := cl_I (i := x_277) (by omega)
                            obtain ⟨g_280, eqg_280⟩ : ∃ y : Nat → Int32, y = upd g_279 (Int32.toNatClampNeg x_277) y_218 := ⟨_, rfl⟩
                            rw [← eqg_280] at hP hD
                            have hbg_280 : wOK g_280 := by rw [eqg_280]; exact ⟨hbg_279.1.up (fun h1 h2 h3 => by exfalso; omega), hbg_279.2.1.up (fun h1 h2 h3 => by exfalso; omega), hbg_279.2.2.1.up (fun h1 h2 h3 => by exfalso; omega), hbg_279.2.2.2.1.up (fun h1 h2 h3 => by exfalso; omega), hbg_279.2.2.2.2.1.up (fun h1 h2 h3 => by exfalso; omega), hbg_279.2.2.2.2.2.1.up (fun h1 h2 h3 => by exfalso; omega), hbg_279.2.2.2.2.2.2.1.up (fun h1 h2 h3 => by exfalso; omega), hbg_279.2.2.2.2.2.2.2.1.up (fun h1 h2 h3 => by exfalso; omega), hbg_279.2.2.2.2.2.2.2.2.1.up (fun h1 h2 h3 => by exfalso; omega), hbg_279.2.2.2.2.2.2.2.2.2.1.up (fun h1 h2 h3 => by constructor <;> omega), hbg_279.2.2.2.2.2.2.2.2.2.2.1.up (fun h1 h2 h3 => by exfalso; omega), hbg_279.2.2.2.2.2.2.2.2.2.2.2.1.up (fun h1 h2 h3 => by exfalso; omega), hbg_279.2.2.2.2.2.2.2.2.2.2.2.2.1.up (fun h1 h2 h3 => by exfalso; omega), hbg_279.2.2.2.2.2.2.2.2.2.2.2.2.2.1.up (fun h1 h2 h3 => by exfalso; omega), hbg_279.2.2.2.2.2.2.2.2.2.2.2.2.2.2.1.up (fun h1 h2 h3 => by exfalso; omega), hbg_279.2.2.2.2.2.2.2.2.2.2.2.2.2.2.2.up (fun h1 h2 h3 => by exfalso; omega)⟩
                            obtain ⟨f_282, ef_282⟩ : ∃ y : Nat → va_E, y = va_up f_220 a_2 (.inl (cI, 1560, .inl g_280)) := ⟨_, rfl⟩
                            have hP : va_P (dC, dI) vwCl (va_pl L f_282) H := by rw [ef_282]; exact hP
                            have hD : va_D (fun q => q ∈ L) (va_pl L f_282) := by rw [ef_282]; exact hD
                            have hG : GI (okc cI cL cZ cR cG cH L kd) kd L f_282 := by rw [ef_282]; exact hG.set a_2 (mk_576 ka_2 ⟨_, rfl, hbg_280⟩)
                            have hfo_283 : f_282 o0 = .inr (12, [.ref a_1, .ref a_2, .ref a_3, .int v_4, .ref a_5, .int 0, .int v_156, .int v_119, .int v_120, .int 0, .int (-1), .int v_123, .int v_124, .int v_125, .int v_126, .ref a_16, .ref a_17, .ref a_18, .ref a_19, .ref a_20, .ref a_21, .ref a_22, .ref a_23, .int v_24, .int v_25, .int v_26, .int v_27, .int v_28, .ref a_29, .int v_127, .ref a_31, .ref a_32, .int v_33, .int v_34, .ref a_35, .int v_36, .ref a_37, .ref a_38, .int v_128, .int v_129, .ref a_41, .ref a_42, .ref a_43, .int v_130, .ref a_45, .ref a_46, .ref a_47, .ref a_48, .ref a_49, .ref a_50, .ref a_51, .ref a_52, .ref a_53, .int v_54, .int v_55, .ref a_56]) := by rw [ef_282, up_ne (kd_ne ka_2 ko0 (by decide))]; exact hfo_221
                            have hfo_284 : f_282 a_1 = .inl (cI, 1560, .inl g_176) := by rw [ef_282, up_ne (kd_ne ka_2 ka_1 (by decide))]; exact hfo_222
                            have hfr0 : ∀ b, kd b ≠ 12 → kd b ≠ 575 → kd b ≠ 576 → f_282 b = f b := fun b q12 q575 q576 => (congrFun ef_282 b).trans ((up_ne (fun e9 => q576 (by rw [e9]; exact ka_2))).trans (hfr0 b q12 q575 q576))
                            have hrA12 : ∀ b, kd b = 12 → ∀ j, fldR (f_282 b) j = fldR (f b) j := fun b kb j => (congrArg (fun x => fldR x j) ((congrFun ef_282 b).trans (up_ne (kd_ne ka_2 kb (by decide))))).trans (hrA12 b kb j)
                            have hfA12 : ∀ b, kd b = 12 → ∀ j, j ≠ 5 → j ≠ 6 → j ≠ 7 → j ≠ 8 → j ≠ 9 → j ≠ 10 → j ≠ 11 → j ≠ 12 → j ≠ 13 → j ≠ 14 → j ≠ 29 → j ≠ 38 → j ≠ 39 → j ≠ 43 → fldI (f_282 b) j = fldI (f b) j := fun b kb j n5 n6 n7 n8 n9 n10 n11 n12 n13 n14 n29 n38 n39 n43 => (congrArg (fun x => fldI x j) ((congrFun ef_282 b).trans (up_ne (kd_ne ka_2 kb (by decide))))).trans (hfA12 b kb j n5 n6 n7 n8 n9 n10 n11 n12 n13 n14 n29 n38 n39 n43)
                            have hTt_82 : frel kd 576 8 f_282 a_2 := by rw [ef_282]; exact frel.mk ka_2 up_self (by rw [eqg_280]; exact (hTt_82.get hfo_278).up (hbg_279.2.1 16 (by decide) (by decide) (by decide)).2 (by omega) (by omega) (by omega) (fun h9 => by exfalso; omega))
                            have hfo_285 : f_282 a_2 = .inl (cI, 1560, .inl g_280) := by rw [ef_282]; exact up_self
                            have ql_286 : y_218 = g_280 (Int32.toNatClampNeg x_277) := by rw [eqg_280, pk_us]
                            obtain ⟨x_287, ex_287⟩ : ∃ y : Int32, y_218 + 1 = y := ⟨_, rfl⟩
                            have hx_287 : x_287.toInt = y_218.toInt + 1 := by rw [← ex_287, ad_I (by rw [ti_1]; omega) (by rw [ti_1]; omega), ti_1]
                            have bx_287 : (1 ≤ x_287.toInt ∧ x_287.toInt ≤ 8) := by constructor <;> omega
                            refine lv_iinc (v := x_287) (lv' := [(2, .int x_287), (1, .int y_114), (0, .ref o0)]) hx hb dX12_text_164 hl (k := 0) rfl ex_287 (by decide) rfl (fun ls hl => ?_)
                            refine lv_goto (tgt := 148) hx hb dX12_text_167 (by decide) ?_
                            exact ih_hloop_217 x_287 (by constructor <;> omega) f_282 hG _ _ hP hS hD hfr0 hrA12 hfA12 hfo_283 hfo_284 hTt_82 (by omega) ls (lv_sub hl [0, 1, 2] rfl)
                      exact hloop_217 9 0 (by decide) f_192 hG _ _ hP hS hD hfr0 hrA12 hfA12 hfo_193 hfo_194 hTt_82 (by (try rw [ti_0]) <;> omega) ls hl
                    · skip
                      rw [← Int32.toInt_inj, ti_0] at c_174
                      exfalso
                      omega
              · skip
                rw [← Int32.toInt_inj, ti_m1] at c_159
                refine lv_aload_n hx hb dX12_text_46 rfl (lv_at hl 1 rfl) ?_
                refine tk_ViP (As := []) (rest := []) (n := 0) hx hb hml hown hU hN hZ (s_X12_statement_k12 l (dC, dI) cI cL cZ cR cG cH Z kd L f_150 hG o0 mo0 ko0 (fun d9 h9 => by rw [hfo_157] at h9; obtain rfl := Option.some.inj h9; exact hTt_82)) wd_585 wd_586 wd_587 wd_5 wd_588 (by decide +kernel) ⟨Nat.le_of_ble_eq_true rfl, Nat.le_of_ble_eq_true rfl⟩ hK hP hD hS mo0 hfo_157 12 rfl rfl rfl hl.1 rfl (Nat.le_of_ble_eq_true rfl) dX12_text_47 ⟨Nat.le_of_ble_eq_true rfl, Nat.le_of_ble_eq_true rfl⟩ (fun x_288 f_289 H locs hw hP hD hS => ?_)
                obtain ⟨hG, bx_288, hkc_290, hra_291, hfa_292, hpost_293, hTc_294⟩ := hw
                have hfr0 : ∀ b, kd b ≠ 12 → kd b ≠ 575 → kd b ≠ 576 → f_289 b = f b := fun b q12 q575 q576 => (hkc_290 b q12 q576).trans (hfr0 b q12 q575 q576)
                have hrA12 : ∀ b, kd b = 12 → ∀ j, fldR (f_289 b) j = fldR (f b) j := fun b kb j => (hra_291 b kb j).trans (hrA12 b kb j)
                have hfA12 : ∀ b, kd b = 12 → ∀ j, j ≠ 5 → j ≠ 6 → j ≠ 7 → j ≠ 8 → j ≠ 9 → j ≠ 10 → j ≠ 11 → j ≠ 12 → j ≠ 13 → j ≠ 14 → j ≠ 29 → j ≠ 38 → j ≠ 39 → j ≠ 43 → fldI (f_289 b) j = fldI (f b) j := fun b kb j n5 n6 n7 n8 n9 n10 n11 n12 n13 n14 n29 n38 n39 n43 => (hfa_292 b kb j n6 n7 n8 n11 n12 n13 n14).trans (hfA12 b kb j n5 n6 n7 n8 n9 n10 n11 n12 n13 n14 n29 n38 n39 n43)
                obtain ⟨v_296, v_297, v_298, v_299, v_300, v_301, v_302, hfo_303, fa_304⟩ := op12_6_7_8_11_12_13_14 hfo_157 (hG _ mo0) ko0 (hra_291 o0 ko0) (hfa_292 o0 ko0)
                have bv_296 : (0 ≤ v_296.toInt ∧ v_296.toInt ≤ 600) := fa12_6 fa_304
                have bv_297 : ((-2147483648) ≤ v_297.toInt ∧ v_297.toInt ≤ 2147483647) := ⟨i32_lo _, i32_hi _⟩
                have bv_298 : ((-2147483648) ≤ v_298.toInt ∧ v_298.toInt ≤ 2147483647) := ⟨i32_lo _, i32_hi _⟩
                have bv_299 : (0 ≤ v_299.toInt ∧ v_299.toInt ≤ 8) := fa12_11 fa_304
                have bv_300 : (0 ≤ v_300.toInt ∧ v_300.toInt ≤ 8) := fa12_12 fa_304
                have bv_301 : (0 ≤ v_301.toInt ∧ v_301.toInt ≤ 8) := fa12_13 fa_304
                have bv_302 : ((-2147483648) ≤ v_302.toInt ∧ v_302.toInt ≤ 2147483647) := ⟨i32_lo _, i32_hi _⟩
                have hqhpost_293 := hpost_293 v_156 v_296 (by rw [hfo_157]; rfl) (by rw [hfo_303]; rfl)
                have hT_305 := hTc_294 a_2 (by rw [hfo_303]; rfl)
                refine lv_if_eq (tgt := 66) hx hb dX12_text_50 (by decide) (fun c_306 => ?_) (fun c_306 => ?_)
                · skip
                  rw [← Int32.toInt_inj, ti_0] at c_306
                  refine lv_iconst (v := 0) hx hb dX12_text_66 (by decide) ?_
                  refine lv_istore_n (lv' := [(1, .int 0), (0, .ref o0)]) hx hb dX12_text_67 rfl hl (by decide) rfl (fun ls hl => ?_)
                  refine lv_goto (tgt := 34) hx hb dX12_text_68 (by decide) ?_
                  exact ih_hloop_113 0 (by decide) f_289 hG _ _ hP hS hD hfr0 hrA12 hfA12 hT_305 v_296 (by rw [hfo_303]; rfl) v_127 (by rw [hfo_303]; rfl) (by (try rw [ti_0]) <;> omega) (by (try rw [ti_0]) <;> omega) (by (try rw [ti_0]) <;> omega) (by (try rw [ti_0]) <;> omega) ls (lv_sub hl [0, 1] rfl)
                · skip
                  rw [← Int32.toInt_inj, ti_0] at c_306
                  refine lv_aload_n hx hb dX12_text_53 rfl (lv_at hl 1 rfl) ?_
                  refine lv_bipush (v := 59) hx hb dX12_text_54 (by decide) ?_
                  refine tk_ViP (As := [.int 59]) (rest := []) (n := 1) hx hb hml hown hU hN hZ (s_X12_takes_k12 l (dC, dI) cI cL cZ cR cG cH Z kd L f_289 hG o0 mo0 ko0 59 (by decide)) wd_624 wd_625 wd_626 wd_5 wd_627 (by decide +kernel) ⟨Nat.le_of_ble_eq_true rfl, Nat.le_of_ble_eq_true rfl⟩ hK hP hD hS mo0 hfo_303 12 rfl rfl rfl hl.1 rfl (Nat.le_of_ble_eq_true rfl) dX12_text_56 ⟨Nat.le_of_ble_eq_true rfl, Nat.le_of_ble_eq_true rfl⟩ (fun x_307 f_308 H locs hw hP hD hS => ?_)
                  obtain ⟨hG, bx_307, hkc_309, hra_310, hfa_311, hpost_312⟩ := hw
                  have hfr0 : ∀ b, kd b ≠ 12 → kd b ≠ 575 → kd b ≠ 576 → f_308 b = f b := fun b q12 q575 q576 => (hkc_309 b q12).trans (hfr0 b q12 q575 q576)
                  have hrA12 : ∀ b, kd b = 12 → ∀ j, fldR (f_308 b) j = fldR (f b) j := fun b kb j => (hra_310 b kb j).trans (hrA12 b kb j)
                  have hfA12 : ∀ b, kd b = 12 → ∀ j, j ≠ 5 → j ≠ 6 → j ≠ 7 → j ≠ 8 → j ≠ 9 → j ≠ 10 → j ≠ 11 → j ≠ 12 → j ≠ 13 → j ≠ 14 → j ≠ 29 → j ≠ 38 → j ≠ 39 → j ≠ 43 → fldI (f_308 b) j = fldI (f b) j := fun b kb j n5 n6 n7 n8 n9 n10 n11 n12 n13 n14 n29 n38 n39 n43 => (hfa_311 b kb j n6 n7 n8).trans (hfA12 b kb j n5 n6 n7 n8 n9 n10 n11 n12 n13 n14 n29 n38 n39 n43)
                  have hT_305 : frel kd 576 8 f_308 a_2 := hT_305.keep (fun b q => hkc_309 b (by rw [q]; decide))
                  obtain ⟨v_314, v_315, v_316, hfo_317, fa_318⟩ := op12_6_7_8 hfo_303 (hG _ mo0) ko0 (hra_310 o0 ko0) (hfa_311 o0 ko0)
                  have bv_314 : (0 ≤ v_314.toInt ∧ v_314.toInt ≤ 600) := fa12_6 fa_318
                  have bv_315 : ((-2147483648) ≤ v_315.toInt ∧ v_315.toInt ≤ 2147483647) := ⟨i32_lo _, i32_hi _⟩
                  have bv_316 : ((-2147483648) ≤ v_316.toInt ∧ v_316.toInt ≤ 2147483647) := ⟨i32_lo _, i32_hi _⟩
                  have hqhpost_312 := hpost_312 v_296 v_314 (by rw [hfo_303]; rfl) (by rw [hfo_317]; rfl)
                  try rw [ti_59] at hqhpost_312
                  refine lv_if_eq (tgt := 66) hx hb dX12_text_59 (by decide) (fun c_319 => ?_) (fun c_319 => ?_)
                  · skip
                    rw [← Int32.toInt_inj, ti_0] at c_319
                    refine lv_iconst (v := 0) hx hb dX12_text_66 (by decide) ?_
                    refine lv_istore_n (lv' := [(1, .int 0), (0, .ref o0)]) hx hb dX12_text_67 rfl hl (by decide) rfl (fun ls hl => ?_)
                    refine lv_goto (tgt := 34) hx hb dX12_text_68 (by decide) ?_
                    exact ih_hloop_113 0 (by decide) f_308 hG _ _ hP hS hD hfr0 hrA12 hfA12 hT_305 v_314 (by rw [hfo_317]; rfl) v_127 (by rw [hfo_317]; rfl) (by (try rw [ti_0]) <;> omega) (by (try rw [ti_0]) <;> omega) (by (try rw [ti_0]) <;> omega) (by (try rw [ti_0]) <;> omega) ls (lv_sub hl [0, 1] rfl)
                  · skip
                    rw [← Int32.toInt_inj, ti_0] at c_319
                    refine lv_iconst (v := 1) hx hb dX12_text_62 (by decide) ?_
                    refine lv_goto (tgt := 67) hx hb dX12_text_63 (by decide) ?_
                    refine lv_istore_n (lv' := [(1, .int 1), (0, .ref o0)]) hx hb dX12_text_67 rfl hl (by decide) rfl (fun ls hl => ?_)
                    refine lv_goto (tgt := 34) hx hb dX12_text_68 (by decide) ?_
                    exact ih_hloop_113 1 (by decide) f_308 hG _ _ hP hS hD hfr0 hrA12 hfA12 hT_305 v_314 (by rw [hfo_317]; rfl) v_127 (by rw [hfo_317]; rfl) (by (try rw [ti_1]) <;> omega) (by (try rw [ti_1]) <;> omega) (by (try rw [ti_1]) <;> omega) (by (try rw [ti_1]) <;> omega) ls (lv_sub hl [0, 1] rfl)
        exact hloop_113 602 1 (by decide) f_90 hG _ _ hP hS hD hfr0 hrA12 hfA12 hTt_82 0 (by rw [hfo_92]; rfl) v_30 (by rw [hfo_92]; rfl) (by (try rw [ti_1]) <;> (try rw [ti_0]) <;> omega) (by (try rw [ti_1]) <;> (try rw [ti_0]) <;> omega) (by (try rw [ti_1]) <;> (try rw [ti_0]) <;> omega) (by (try rw [ti_1]) <;> (try rw [ti_0]) <;> omega) ls hl
      · skip
        rw [Int32.le_iff_toInt_le, ti_1560] at c_79
        refine lv_aload_n hx hb dX12_text_9 rfl (lv_at hl 1 rfl) ?_
        refine tk_getP (D := (dC, dI)) (ci := 12) (v := .ref a_2) (C := RX12) (T := TX12) (N := 56) hx hb hU inlX12 hown hK hP mo0 hfo_78 rfl 1 (by decide) (hU _ wd_170) (fun _ h9 => h9) rfl dX12_text_10 ?_
        refine lv_iload_n hx hb dX12_text_13 rfl (lv_at hl 0 rfl) ?_
        refine lv_iconst (v := 0) hx hb dX12_text_14 (by decide) ?_
        obtain ⟨g_321, hfo_320, hbg_321⟩ := un_576 (hG _ ma_2) ka_2
        refine tk_istP hx hb hK hP hD hS 0 ma_2 hfo_320 rfl (vp_in_iff.mpr (by constructor <;> omega)) dX12_text_15 (fun H locs hP hD hS => ?_)
        have hc9 := cl_I (i := y_75) (by omega)
        obtain ⟨g_322, eqg_322⟩ : ∃ y : Nat → Int32, y = upd g_321 (Int32.toNatClampNeg y_75) 0 := ⟨_, rfl⟩
        rw [← eqg_322] at hP hD
        have hbg_322 : wOK g_322 := by rw [eqg_322]; exact ⟨hbg_321.1.up (fun h1 h2 h3 => by (try rw [ti_0]); constructor <;> omega), hbg_321.2.1.up (fun h1 h2 h3 => by (try rw [ti_0]); constructor <;> omega), hbg_321.2.2.1.up (fun h1 h2 h3 => by (try rw [ti_0]); constructor <;> omega), hbg_321.2.2.2.1.up (fun h1 h2 h3 => by (try rw [ti_0]); constructor <;> omega), hbg_321.2.2.2.2.1.up (fun h1 h2 h3 => by (try rw [ti_0]); constructor <;> omega), hbg_321.2.2.2.2.2.1.up (fun h1 h2 h3 => by (try rw [ti_0]); constructor <;> omega), hbg_321.2.2.2.2.2.2.1.up (fun h1 h2 h3 => by (try rw [ti_0]); constructor <;> omega), hbg_321.2.2.2.2.2.2.2.1.up (fun h1 h2 h3 => by (try rw [ti_0]); constructor <;> omega), hbg_321.2.2.2.2.2.2.2.2.1.up (fun h1 h2 h3 => by (try rw [ti_0]); constructor <;> omega), hbg_321.2.2.2.2.2.2.2.2.2.1.up (fun h1 h2 h3 => by (try rw [ti_0]); constructor <;> omega), hbg_321.2.2.2.2.2.2.2.2.2.2.1.up (fun h1 h2 h3 => by (try rw [ti_0]); constructor <;> omega), hbg_321.2.2.2.2.2.2.2.2.2.2.2.1.up (fun h1 h2 h3 => by (try rw [ti_0]); constructor <;> omega), hbg_321.2.2.2.2.2.2.2.2.2.2.2.2.1.up (fun h1 h2 h3 => by (try rw [ti_0]); constructor <;> omega), hbg_321.2.2.2.2.2.2.2.2.2.2.2.2.2.1.up (fun h1 h2 h3 => by (try rw [ti_0]); constructor <;> omega), hbg_321.2.2.2.2.2.2.2.2.2.2.2.2.2.2.1.up (fun h1 h2 h3 => by (try rw [ti_0]); constructor <;> omega), hbg_321.2.2.2.2.2.2.2.2.2.2.2.2.2.2.2.up (fun h1 h2 h3 => by (try rw [ti_0]); constructor <;> omega)⟩
        obtain ⟨f_324, ef_324⟩ : ∃ y : Nat → va_E, y = va_up f_77 a_2 (.inl (cI, 1560, .inl g_322)) := ⟨_, rfl⟩
        have hP : va_P (dC, dI) vwCl (va_pl L f_324) H := by rw [ef_324]; exact hP
        have hD : va_D (fun q => q ∈ L) (va_pl L f_324) := by rw [ef_324]; exact hD
        have hG : GI (okc cI cL cZ cR cG cH L kd) kd L f_324 := by rw [ef_324]; exact hG.set a_2 (mk_576 ka_2 ⟨_, rfl, hbg_322⟩)
        have hfo_325 : f_324 o0 = .inr (12, [.ref a_1, .ref a_2, .ref a_3, .int v_4, .ref a_5, .int v_6, .int v_7, .int v_8, .int v_9, .int v_10, .int v_11, .int v_12, .int v_13, .int v_14, .int v_15, .ref a_16, .ref a_17, .ref a_18, .ref a_19, .ref a_20, .ref a_21, .ref a_22, .ref a_23, .int v_24, .int v_25, .int v_26, .int v_27, .int v_28, .ref a_29, .int v_30, .ref a_31, .ref a_32, .int v_33, .int v_34, .ref a_35, .int v_36, .ref a_37, .ref a_38, .int v_39, .int v_40, .ref a_41, .ref a_42, .ref a_43, .int v_44, .ref a_45, .ref a_46, .ref a_47, .ref a_48, .ref a_49, .ref a_50, .ref a_51, .ref a_52, .ref a_53, .int v_54, .int v_55, .ref a_56]) := by rw [ef_324, up_ne (kd_ne ka_2 ko0 (by decide))]; exact hfo_78
        have hfr0 : ∀ b, kd b ≠ 12 → kd b ≠ 575 → kd b ≠ 576 → f_324 b = f b := fun b q12 q575 q576 => (congrFun ef_324 b).trans ((up_ne (fun e9 => q576 (by rw [e9]; exact ka_2))).trans (hfr0 b q12 q575 q576))
        have hrA12 : ∀ b, kd b = 12 → ∀ j, fldR (f_324 b) j = fldR (f b) j := fun b kb j => (congrArg (fun x => fldR x j) ((congrFun ef_324 b).trans (up_ne (kd_ne ka_2 kb (by decide))))).trans (hrA12 b kb j)
        have hfA12 : ∀ b, kd b = 12 → ∀ j, j ≠ 5 → j ≠ 6 → j ≠ 7 → j ≠ 8 → j ≠ 9 → j ≠ 10 → j ≠ 11 → j ≠ 12 → j ≠ 13 → j ≠ 14 → j ≠ 29 → j ≠ 38 → j ≠ 39 → j ≠ 43 → fldI (f_324 b) j = fldI (f b) j := fun b kb j n5 n6 n7 n8 n9 n10 n11 n12 n13 n14 n29 n38 n39 n43 => (congrArg (fun x => fldI x j) ((congrFun ef_324 b).trans (up_ne (kd_ne ka_2 kb (by decide))))).trans (hfA12 b kb j n5 n6 n7 n8 n9 n10 n11 n12 n13 n14 n29 n38 n39 n43)
        have hfo_326 : f_324 a_2 = .inl (cI, 1560, .inl g_322) := by rw [ef_324]; exact up_self
        have ql_327 : 0 = g_322 (Int32.toNatClampNeg y_75) := by rw [eqg_322, pk_us]
        obtain ⟨x_328, ex_328⟩ : ∃ y : Int32, y_75 + 1 = y := ⟨_, rfl⟩
        have hx_328 : x_328.toInt = y_75.toInt + 1 := by rw [← ex_328, ad_I (by rw [ti_1]; omega) (by rw [ti_1]; omega), ti_1]
        have bx_328 : (1 ≤ x_328.toInt ∧ x_328.toInt ≤ 1560) := by constructor <;> omega
        refine lv_iinc (v := x_328) (lv' := [(1, .int x_328), (0, .ref o0)]) hx hb dX12_text_16 hl (k := 0) rfl ex_328 (by decide) rfl (fun ls hl => ?_)
        refine lv_goto (tgt := 2) hx hb dX12_text_19 (by decide) ?_
        exact ih_hloop_74 x_328 (by constructor <;> omega) f_324 hG _ _ hP hS hD hfr0 hrA12 hfA12 hfo_325 (fun g9 h9 j hj => by rw [hfo_326] at h9; cases h9; have hc9 := cl_I (i := y_75) (by omega); by_cases hji : j = Int32.toNatClampNeg y_75; (· rw [eqg_322, hji, pk_us]); (· rw [eqg_322, pk_un hji]; exact hxz g_321 hfo_320 j (by omega))) (by omega) ls (lv_sub hl [0, 1] rfl)
  exact hloop_74 1561 0 (by decide) f hG _ _ hP hS hD hfr0 hrA12 hfA12 hfo_57 (fun g9 _ j hj => by exfalso; have h3 : ((0 : Int32)).toInt = 0 := rfl; omega) (by (try rw [ti_0]) <;> omega) ls hl
