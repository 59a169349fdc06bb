set_option maxHeartbeats 8000000 in
set_option maxRecDepth 100000 in
theorem s_X12_agreeing_k12 (l : Launch) (D : va_G) (cI cL cZ cR cG cH : ClassId) (Z : zT) (kd : Nat → Nat) (L : List Nat) (f : Nat → va_E) (hG : GI (okc cI cL cZ cR cG cH L kd) kd L f) (o0 : Nat) (mo0 : o0 ∈ L) (ko0 : kd o0 = 12) (p1 : Int32) (bp1 : (0 ≤ p1.toInt ∧ p1.toInt ≤ 72)) (hxpre0 : ∀ b9 g9, fldR (f o0) 0 = some b9 → f b9 = .inl (cI, 1560, .inl g9) → p1.toInt ≤ (g9 0).toInt + (g9 0).toInt * (g9 0).toInt) : mPI l D cI cL cZ cR cG cH Z yX12_agreeing cX12_agreeing 6 (some .int) 6 152 [.ref o0, .int p1] L f (fun (r : Int32) (f9 : Nat → va_E) => GI (okc cI cL cZ cR cG cH L kd) kd L f9 ∧ ((-2147483648) ≤ r.toInt ∧ r.toInt ≤ 2147483647) ∧ (∀ b, kd b ≠ 12 → kd b ≠ 589 → kd b ≠ 597 → kd b ≠ 598 → kd b ≠ 599 → f9 b = f b) ∧ (∀ b, kd b = 12 → ∀ j, fldR (f9 b) j = fldR (f b) j) ∧ (∀ b, kd b = 12 → ∀ j, j ≠ 23 → j ≠ 43 → fldI (f9 b) j = fldI (f b) j)) := by
  obtain ⟨dC, dI⟩ := D
  refine Met.ofW (cc := cX12_agreeing) (maxL := 6) (ret := (some .int)) (by decide) rfl ?_
  intro p e s m args below meth c s₁ B hml hv
  obtain ⟨rfl, hP, hK, hD0, hN, hZ⟩ := hv
  have hx := B.exec
  have hb := B.bytes
  have hr := B.returns
  have hU : ∀ w ∈ wsU, w.before _ s = true := fun w h => atoms_spec (ws := wU yX12_agreeing cX12_agreeing 6 (some .int)) B.pre w (List.mem_cons_of_mem _ h)
  have hown : s.vm.findClass RX12 = some m.cls := findClass_of_methodNamed B.named
  have hlocks := B.notSynchronized
  have hD := pl_in hD0
  have hS : va_S (fun q => q ∈ L) s.heap s.heap [] := va_S.rf
  have hl := lv_entry ([.ref o0, .int p1]) (n := 6) (Nat.le_of_ble_eq_true rfl)
  rw [lg_entry_eq]
  generalize (lg_sl ([.ref o0, .int p1]) ++ List.replicate (6 - (lg_sl ([.ref o0, .int p1])).length) Slot.unset).toArray = ls at hl ⊢
  have hl : lv_has ls 6 [(0, .ref o0), (1, .int p1)] := hl
  have hfr0 : ∀ b, kd b ≠ 12 → kd b ≠ 589 → kd b ≠ 597 → kd b ≠ 598 → kd b ≠ 599 → f b = f b := fun _ _ _ _ _ _ => rfl
  have hrA12 : ∀ b, kd b = 12 → ∀ j, fldR (f b) j = fldR (f b) j := fun _ _ _ => rfl
  have hfA12 : ∀ b, kd b = 12 → ∀ j, j ≠ 23 → j ≠ 43 → fldI (f b) j = fldI (f b) j := fun _ _ _ _ _ => rfl
  obtain ⟨a_1, a_2, a_3, v_4, a_5, v_6, v_7, v_8, v_9, v_10, v_11, v_12, v_13, v_14, v_15, a_16, a_17, a_18, a_19, a_20, a_21, a_22, a_23, v_24, v_25, v_26, v_27, v_28, a_29, v_30, a_31, a_32, v_33, v_34, a_35, v_36, a_37, a_38, v_39, v_40, a_41, a_42, a_43, v_44, a_45, a_46, a_47, a_48, a_49, a_50, a_51, a_52, a_53, v_54, v_55, a_56, hfo_57, fa_58⟩ := un12 (hG _ mo0) ko0
  obtain ⟨ma_1, ka_1⟩ := fa12_0 fa_58
  obtain ⟨ma_22, ka_22⟩ := fa12_21 fa_58
  obtain ⟨ma_41, ka_41⟩ := fa12_40 fa_58
  obtain ⟨ma_49, ka_49⟩ := fa12_48 fa_58
  obtain ⟨ma_51, ka_51⟩ := fa12_50 fa_58
  have bv_54 : (0 ≤ v_54.toInt ∧ v_54.toInt ≤ 8) := fa12_53 fa_58
  obtain ⟨g_60, hfo_59, hbg_60⟩ := un_575 (hG _ ma_1) ka_1
  have hlw0 := hxpre0 a_1 g_60 (by rw [hfo_57]; rfl) hfo_59
  have hsq := lw_sq (L := (g_60 0).toInt) (hbg_60.1 0 (by decide) (by decide) (by decide))
  refine lv_iconst (v := 0) hx hb dX12_agreeing_0 (by decide) ?_
  refine lv_istore_n (lv' := [(2, .int 0), (0, .ref o0), (1, .int p1)]) hx hb dX12_agreeing_1 rfl hl (by decide) rfl (fun ls hl => ?_)
  refine lv_iconst (v := 0) hx hb dX12_agreeing_2 (by decide) ?_
  refine lv_istore_n (lv' := [(3, .int 0), (2, .int 0), (0, .ref o0), (1, .int p1)]) hx hb dX12_agreeing_3 rfl hl (by decide) rfl (fun ls hl => ?_)
  have hloop_68 : ∀ (n : Nat), ∀ (y_69 : Int32), (0 ≤ y_69.toInt ∧ y_69.toInt ≤ 72) → ∀ (y_70 : Int32), ((-2147483648) ≤ y_70.toInt ∧ y_70.toInt ≤ 2147483647) → ∀ (f_72 : Nat → va_E), GI (okc cI cL cZ cR cG cH L kd) kd L f_72 → ∀ (H : Heap) (locs : List Loc), va_P (dC, dI) vwCl (va_pl L f_72) H → va_S (fun q => q ∈ L) s.heap H locs → va_D (fun q => q ∈ L) (va_pl L f_72) → (∀ b, kd b ≠ 12 → kd b ≠ 589 → kd b ≠ 597 → kd b ≠ 598 → kd b ≠ 599 → f_72 b = f b) → (∀ b, kd b = 12 → ∀ j, fldR (f_72 b) j = fldR (f b) j) → (∀ b, kd b = 12 → ∀ j, j ≠ 23 → j ≠ 43 → fldI (f_72 b) j = fldI (f b) j) → (f_72 a_1 = .inl (cI, 1560, .inl g_60)) → 72 - y_69.toInt < (n : Int) → ∀ (ls : Array Slot), lv_has ls 6 [(3, .int y_69), (2, .int y_70), (0, .ref o0), (1, .int p1)] → W p l e (headSpec (wU yX12_agreeing cX12_agreeing 6 (some .int)) { frames := 6, cells := 0, slots := 0, locals := 152 }).room s m [.ref o0, .int p1].toArray below meth c H locs 0 0 (MQ below (va_Qi (fun (r : Int32) (f9 : Nat → va_E) => GI (okc cI cL cZ cR cG cH L kd) kd L f9 ∧ ((-2147483648) ≤ r.toInt ∧ r.toInt ≤ 2147483647) ∧ (∀ b, kd b ≠ 12 → kd b ≠ 589 → kd b ≠ 597 → kd b ≠ 598 → kd b ≠ 599 → f9 b = f b) ∧ (∀ b, kd b = 12 → ∀ j, fldR (f9 b) j = fldR (f b) j) ∧ (∀ b, kd b = 12 → ∀ j, j ≠ 23 → j ≠ 43 → fldI (f9 b) j = fldI (f b) j)) (qP (dC, dI) cI cL cZ cR cG cH L) (fun q => q ∈ L)) [.ref o0, .int p1].toArray s 0 0 (fun q => q ∈ L)) (F0 m 4 ls []) := by
    intro n
    induction n with
    | zero => intro y_69 by_69 y_70 by_70 f_72 hG H locs hP hS hD hfr0 hrA12 hfA12 hfo_73 hmuhloop_68 ls hl; exfalso; omega
    | succ n ih_hloop_68 =>
      intro y_69 by_69 y_70 by_70 f_72 hG H locs hP hS hD hfr0 hrA12 hfA12 hfo_73 hmuhloop_68 ls hl
      refine lv_iload_n hx hb dX12_agreeing_4 rfl (lv_at hl 0 rfl) ?_
      refine lv_iload_n hx hb dX12_agreeing_5 rfl (lv_at hl 3 rfl) ?_
      refine lv_icmp_ge (tgt := 145) hx hb dX12_agreeing_6 (by decide) (fun c_74 => ?_) (fun c_74 => ?_)
      · skip
        rw [Int32.le_iff_toInt_le] at c_74
        refine lv_iload_n hx hb dX12_agreeing_145 rfl (lv_at hl 1 rfl) ?_
        exact W.iret (v := y_70) hx hb hr (fun t ht hW => ⟨⟨y_70, f_72, rfl, ⟨hG, (by constructor <;> omega), hfr0, hrA12, hfA12⟩, by rw [ht]; exact hP, va_K.moved hW.alike hK, pl_in hD⟩, hS.F ht⟩) hS.2.2 dX12_agreeing_146
      · skip
        rw [Int32.le_iff_toInt_le] at c_74
        refine lv_aload_n hx hb dX12_agreeing_9 rfl (lv_at hl 2 rfl) ?_
        refine lv_iload_n hx hb dX12_agreeing_10 rfl (lv_at hl 0 rfl) ?_
        obtain ⟨v_75, v_76, hfo_77, fa_78⟩ := op12_23_43 hfo_57 (hG _ mo0) ko0 (hrA12 o0 ko0) (hfA12 o0 ko0)
        have bv_75 : (0 ≤ v_75.toInt ∧ v_75.toInt ≤ 12) := fa12_23 fa_78
        have bv_76 : (0 ≤ v_76.toInt ∧ v_76.toInt ≤ 8) := fa12_43 fa_78
        refine tk_VvP (As := [.int y_69]) (rest := []) (n := 1) hx hb hml hown hU hN hZ (s_X12_laysWord_k12 l (dC, dI) cI cL cZ cR cG cH Z kd L f_72 hG o0 mo0 ko0 y_69 (by constructor <;> omega) (fun b9 g9 h1 h2 => by rw [hfo_77] at h1; obtain rfl := Option.some.inj h1; rw [hfo_73] at h2; cases h2; omega)) wd_1173 wd_1174 wd_1175 wd_5 wd_1176 (by decide +kernel) ⟨Nat.le_of_ble_eq_true rfl, Nat.le_of_ble_eq_true rfl⟩ hK hP hD hS mo0 hfo_77 12 rfl rfl rfl hl.1 rfl (Nat.le_of_ble_eq_true rfl) dX12_agreeing_11 ⟨Nat.le_of_ble_eq_true rfl, Nat.le_of_ble_eq_true rfl⟩ (fun f_80 H locs hw hP hD hS => ?_)
        obtain ⟨hG, hkc_81, hra_82, hfa_83, hpost_84, hxp_85⟩ := hw
        have hfo_87 : f_80 a_1 = .inl (cI, 1560, .inl g_60) := by rw [hkc_81 a_1 (by rw [ka_1]; decide) (by rw [ka_1]; decide)]; exact hfo_73
        have hfr0 : ∀ b, kd b ≠ 12 → kd b ≠ 589 → kd b ≠ 597 → kd b ≠ 598 → kd b ≠ 599 → f_80 b = f b := fun b q12 q589 q597 q598 q599 => (hkc_81 b q12 q589).trans (hfr0 b q12 q589 q597 q598 q599)
        have hrA12 : ∀ b, kd b = 12 → ∀ j, fldR (f_80 b) j = fldR (f b) j := fun b kb j => (hra_82 b kb j).trans (hrA12 b kb j)
        have hfA12 : ∀ b, kd b = 12 → ∀ j, j ≠ 23 → j ≠ 43 → fldI (f_80 b) j = fldI (f b) j := fun b kb j n23 n43 => (hfa_83 b kb j n23).trans (hfA12 b kb j n23 n43)
        obtain ⟨v_88, hfo_89, fa_90⟩ := op12_23 hfo_77 (hG _ mo0) ko0 (hra_82 o0 ko0) (hfa_83 o0 ko0)
        have bv_88 : (0 ≤ v_88.toInt ∧ v_88.toInt ≤ 12) := fa12_23 fa_90
        have hqhpost_84 := hpost_84 v_75 v_88 (by rw [hfo_77]; rfl) (by rw [hfo_89]; rfl)
        have hlw2 := hxp_85 a_1 g_60 v_88 (by rw [hfo_77]; rfl) hfo_73 (by rw [hfo_89]; rfl)
        have hclc_91 : (1 ≤ v_88.toInt ∧ v_88.toInt ≤ 2) := by constructor <;> omega
        refine lv_aload_n hx hb dX12_agreeing_14 rfl (lv_at hl 2 rfl) ?_
        refine lv_aload_n hx hb dX12_agreeing_15 rfl (lv_at hl 2 rfl) ?_
        refine tk_getP (D := (dC, dI)) (ci := 12) (v := .int v_88) (C := RX12) (T := TX12) (N := 56) hx hb hU inlX12 hown hK hP mo0 hfo_89 rfl 23 (by decide) (hU _ wd_867) (fun _ h9 => h9) rfl dX12_agreeing_16 ?_
        refine tk_putP (D := (dC, dI)) (ci := 12) (v := .int v_88) (ty := .int) (C := RX12) (T := TX12) (N := 56) hx hb hU inlX12 tyX12 tyX12_ok nmX12 hown hK hP hD hS mo0 hfo_89 rfl 43 (by decide) (hU _ wd_572) (fun _ h9 => h9) rfl (by decide +kernel) rfl rfl (Nat.le_of_ble_eq_true rfl) dX12_agreeing_19 (fun H locs hP hD hS => ?_)
        have fa_92 := fu12_43 (y := v_88) fa_90 (by constructor <;> omega)
        obtain ⟨f_94, ef_94⟩ : ∃ y : Nat → va_E, y = va_up f_80 o0 (.inr (12, [.ref a_1, .ref a_2, .ref a_3, .int v_4, .ref a_5, .int v_6, .int v_7, .int v_8, .int v_9, .int v_10, .int v_11, .int v_12, .int v_13, .int v_14, .int v_15, .ref a_16, .ref a_17, .ref a_18, .ref a_19, .ref a_20, .ref a_21, .ref a_22, .ref a_23, .int v_88, .int v_25, .int v_26, .int v_27, .int v_28, .ref a_29, .int v_30, .ref a_31, .ref a_32, .int v_33, .int v_34, .ref a_35, .int v_36, .ref a_37, .ref a_38, .int v_39, .int v_40, .ref a_41, .ref a_42, .ref a_43, .int v_88, .ref a_45, .ref a_46, .ref a_47, .ref a_48, .ref a_49, .ref a_50, .ref a_51, .ref a_52, .ref a_53, .int v_54, .int v_55, .ref a_56])) := ⟨_, rfl⟩
        have hP : va_P (dC, dI) vwCl (va_pl L f_94) H := by rw [ef_94]; exact hP
        have hD : va_D (fun q => q ∈ L) (va_pl L f_94) := by rw [ef_94]; exact hD
        have hG : GI (okc cI cL cZ cR cG cH L kd) kd L f_94 := by rw [ef_94]; exact hG.set o0 (mk_12 ko0 (fo12 fa_92))
        have hfo_95 : f_94 a_1 = .inl (cI, 1560, .inl g_60) := by rw [ef_94, up_ne (kd_ne ko0 ka_1 (by decide))]; exact hfo_87
        have hfr0 : ∀ b, kd b ≠ 12 → kd b ≠ 589 → kd b ≠ 597 → kd b ≠ 598 → kd b ≠ 599 → f_94 b = f b := fun b q12 q589 q597 q598 q599 => (congrFun ef_94 b).trans ((up_ne (fun e9 => q12 (by rw [e9]; exact ko0))).trans (hfr0 b q12 q589 q597 q598 q599))
        have hrA12 : ∀ b, kd b = 12 → ∀ j, fldR (f_94 b) j = fldR (f b) j := fun b kb j => ((congrArg (fun x => fldR x j) (congrFun ef_94 b)).trans (fra_up (fun j => by rw [hfo_89]; exact fr_set (k := 43) rfl rfl) j b)).trans (hrA12 b kb j)
        have hfA12 : ∀ b, kd b = 12 → ∀ j, j ≠ 23 → j ≠ 43 → fldI (f_94 b) j = fldI (f b) j := fun b kb j n23 n43 => ((congrArg (fun x => fldI x j) (congrFun ef_94 b)).trans (fia_up (fun h9 => by rw [hfo_89]; exact fi_set (k := 43) rfl h9) n43 b)).trans (hfA12 b kb j n23 n43)
        have hfo_96 : f_94 o0 = .inr (12, [.ref a_1, .ref a_2, .ref a_3, .int v_4, .ref a_5, .int v_6, .int v_7, .int v_8, .int v_9, .int v_10, .int v_11, .int v_12, .int v_13, .int v_14, .int v_15, .ref a_16, .ref a_17, .ref a_18, .ref a_19, .ref a_20, .ref a_21, .ref a_22, .ref a_23, .int v_88, .int v_25, .int v_26, .int v_27, .int v_28, .ref a_29, .int v_30, .ref a_31, .ref a_32, .int v_33, .int v_34, .ref a_35, .int v_36, .ref a_37, .ref a_38, .int v_39, .int v_40, .ref a_41, .ref a_42, .ref a_43, .int v_88, .ref a_45, .ref a_46, .ref a_47, .ref a_48, .ref a_49, .ref a_50, .ref a_51, .ref a_52, .ref a_53, .int v_54, .int v_55, .ref a_56]) := by rw [ef_94]; exact up_self
        refine lv_iconst (v := 0) hx hb dX12_agreeing_22 (by decide) ?_
        refine lv_istore (lv' := [(4, .int 0), (3, .int y_69), (2, .int y_70), (0, .ref o0), (1, .int p1)]) hx hb dX12_agreeing_23 hl (by decide) rfl (fun ls hl => ?_)
        have hloop_115 : ∀ (n : Nat), ∀ (y_116 : Int32), (0 ≤ y_116.toInt ∧ y_116.toInt ≤ 2) → ∀ (f_118 : Nat → va_E), GI (okc cI cL cZ cR cG cH L kd) kd L f_118 → ∀ (H : Heap) (locs : List Loc), va_P (dC, dI) vwCl (va_pl L f_118) H → va_S (fun q => q ∈ L) s.heap H locs → va_D (fun q => q ∈ L) (va_pl L f_118) → (∀ b, kd b ≠ 12 → kd b ≠ 589 → kd b ≠ 597 → kd b ≠ 598 → kd b ≠ 599 → f_118 b = f b) → (∀ b, kd b = 12 → ∀ j, fldR (f_118 b) j = fldR (f b) j) → (∀ b, kd b = 12 → ∀ j, j ≠ 23 → j ≠ 43 → fldI (f_118 b) j = fldI (f b) j) → (f_118 a_1 = .inl (cI, 1560, .inl g_60)) → (f_118 o0 = .inr (12, [.ref a_1, .ref a_2, .ref a_3, .int v_4, .ref a_5, .int v_6, .int v_7, .int v_8, .int v_9, .int v_10, .int v_11, .int v_12, .int v_13, .int v_14, .int v_15, .ref a_16, .ref a_17, .ref a_18, .ref a_19, .ref a_20, .ref a_21, .ref a_22, .ref a_23, .int v_88, .int v_25, .int v_26, .int v_27, .int v_28, .ref a_29, .int v_30, .ref a_31, .ref a_32, .int v_33, .int v_34, .ref a_35, .int v_36, .ref a_37, .ref a_38, .int v_39, .int v_40, .ref a_41, .ref a_42, .ref a_43, .int v_88, .ref a_45, .ref a_46, .ref a_47, .ref a_48, .ref a_49, .ref a_50, .ref a_51, .ref a_52, .ref a_53, .int v_54, .int v_55, .ref a_56])) → 2 - y_116.toInt < (n : Int) → ∀ (ls : Array Slot), lv_has ls 6 [(4, .int y_116), (3, .int y_69), (2, .int y_70), (0, .ref o0), (1, .int p1)] → W p l e (headSpec (wU yX12_agreeing cX12_agreeing 6 (some .int)) { frames := 6, cells := 0, slots := 0, locals := 152 }).room s m [.ref o0, .int p1].toArray below meth c H locs 0 0 (MQ below (va_Qi (fun (r : Int32) (f9 : Nat → va_E) => GI (okc cI cL cZ cR cG cH L kd) kd L f9 ∧ ((-2147483648) ≤ r.toInt ∧ r.toInt ≤ 2147483647) ∧ (∀ b, kd b ≠ 12 → kd b ≠ 589 → kd b ≠ 597 → kd b ≠ 598 → kd b ≠ 599 → f9 b = f b) ∧ (∀ b, kd b = 12 → ∀ j, fldR (f9 b) j = fldR (f b) j) ∧ (∀ b, kd b = 12 → ∀ j, j ≠ 23 → j ≠ 43 → fldI (f9 b) j = fldI (f b) j)) (qP (dC, dI) cI cL cZ cR cG cH L) (fun q => q ∈ L)) [.ref o0, .int p1].toArray s 0 0 (fun q => q ∈ L)) (F0 m 25 ls []) := by
          intro n
          induction n with
          | zero => intro y_116 by_116 f_118 hG H locs hP hS hD hfr0 hrA12 hfA12 hfo_119 hfo_120 hmuhloop_115 ls hl; exfalso; omega
          | succ n ih_hloop_115 =>
            intro y_116 by_116 f_118 hG H locs hP hS hD hfr0 hrA12 hfA12 hfo_119 hfo_120 hmuhloop_115 ls hl
            refine lv_iload hx hb dX12_agreeing_25 (lv_at hl 0 rfl) ?_
            refine lv_aload_n hx hb dX12_agreeing_27 rfl (lv_at hl 3 rfl) ?_
            refine tk_getP (D := (dC, dI)) (ci := 12) (v := .int v_88) (C := RX12) (T := TX12) (N := 56) hx hb hU inlX12 hown hK hP mo0 hfo_120 rfl 23 (by decide) (hU _ wd_867) (fun _ h9 => h9) rfl dX12_agreeing_28 ?_
            refine lv_icmp_ge (tgt := 54) hx hb dX12_agreeing_31 (by decide) (fun c_121 => ?_) (fun c_121 => ?_)
            · skip
              rw [Int32.le_iff_toInt_le] at c_121
              refine lv_iconst (v := 0) hx hb dX12_agreeing_54 (by decide) ?_
              refine lv_istore (lv' := [(4, .int 0), (3, .int y_69), (2, .int y_70), (0, .ref o0), (1, .int p1)]) hx hb dX12_agreeing_55 hl (by decide) rfl (fun ls hl => ?_)
              have hloop_131 : ∀ (n : Nat), ∀ (y_132 : Int32), (0 ≤ y_132.toInt ∧ y_132.toInt ≤ 8) → ∀ (f_134 : Nat → va_E), GI (okc cI cL cZ cR cG cH L kd) kd L f_134 → ∀ (H : Heap) (locs : List Loc), va_P (dC, dI) vwCl (va_pl L f_134) H → va_S (fun q => q ∈ L) s.heap H locs → va_D (fun q => q ∈ L) (va_pl L f_134) → (∀ b, kd b ≠ 12 → kd b ≠ 589 → kd b ≠ 597 → kd b ≠ 598 → kd b ≠ 599 → f_134 b = f b) → (∀ b, kd b = 12 → ∀ j, fldR (f_134 b) j = fldR (f b) j) → (∀ b, kd b = 12 → ∀ j, j ≠ 23 → j ≠ 43 → fldI (f_134 b) j = fldI (f b) j) → (f_134 a_1 = .inl (cI, 1560, .inl g_60)) → ∀ (whloop_131_0_43 : Int32), fldI (f_134 o0) 43 = some whloop_131_0_43 → (0 ≤ whloop_131_0_43.toInt ∧ whloop_131_0_43.toInt ≤ 2) → 8 - y_132.toInt < (n : Int) → ∀ (ls : Array Slot), lv_has ls 6 [(4, .int y_132), (3, .int y_69), (2, .int y_70), (0, .ref o0), (1, .int p1)] → W p l e (headSpec (wU yX12_agreeing cX12_agreeing 6 (some .int)) { frames := 6, cells := 0, slots := 0, locals := 152 }).room s m [.ref o0, .int p1].toArray below meth c H locs 0 0 (MQ below (va_Qi (fun (r : Int32) (f9 : Nat → va_E) => GI (okc cI cL cZ cR cG cH L kd) kd L f9 ∧ ((-2147483648) ≤ r.toInt ∧ r.toInt ≤ 2147483647) ∧ (∀ b, kd b ≠ 12 → kd b ≠ 589 → kd b ≠ 597 → kd b ≠ 598 → kd b ≠ 599 → f9 b = f b) ∧ (∀ b, kd b = 12 → ∀ j, fldR (f9 b) j = fldR (f b) j) ∧ (∀ b, kd b = 12 → ∀ j, j ≠ 23 → j ≠ 43 → fldI (f9 b) j = fldI (f b) j)) (qP (dC, dI) cI cL cZ cR cG cH L) (fun q => q ∈ L)) [.ref o0, .int p1].toArray s 0 0 (fun q => q ∈ L)) (F0 m 57 ls []) := by
                intro n
                induction n with
                | zero => intro y_132 by_132 f_134 hG H locs hP hS hD hfr0 hrA12 hfA12 hfo_135 whloop_131_0_43 hghloop_131_0_43 hrelhloop_131_0 hmuhloop_131 ls hl; exfalso; omega
                | succ n ih_hloop_131 =>
                  intro y_132 by_132 f_134 hG H locs hP hS hD hfr0 hrA12 hfA12 hfo_135 whloop_131_0_43 hghloop_131_0_43 hrelhloop_131_0 hmuhloop_131 ls hl
                  obtain ⟨v_136, v_137, hfo_138, fa_139⟩ := op12_23_43 hfo_57 (hG _ mo0) ko0 (hrA12 o0 ko0) (hfA12 o0 ko0)
                  have bv_136 : (0 ≤ v_136.toInt ∧ v_136.toInt ≤ 12) := fa12_23 fa_139
                  have bv_137 : (0 ≤ v_137.toInt ∧ v_137.toInt ≤ 8) := fa12_43 fa_139
                  obtain rfl : v_137 = whloop_131_0_43 := by rw [hfo_138] at hghloop_131_0_43; exact Option.some.inj hghloop_131_0_43
                  refine lv_iload hx hb dX12_agreeing_57 (lv_at hl 0 rfl) ?_
                  refine lv_aload_n hx hb dX12_agreeing_59 rfl (lv_at hl 3 rfl) ?_
                  refine tk_getP (D := (dC, dI)) (ci := 12) (v := .int v_54) (C := RX12) (T := TX12) (N := 56) hx hb hU inlX12 hown hK hP mo0 hfo_138 rfl 53 (by decide) (hU _ wd_1241) (fun _ h9 => h9) rfl dX12_agreeing_60 ?_
                  refine lv_icmp_ge (tgt := 83) hx hb dX12_agreeing_63 (by decide) (fun c_140 => ?_) (fun c_140 => ?_)
                  · skip
                    rw [Int32.le_iff_toInt_le] at c_140
                    refine lv_iconst (v := 0) hx hb dX12_agreeing_83 (by decide) ?_
                    refine lv_istore (lv' := [(4, .int 0), (3, .int y_69), (2, .int y_70), (0, .ref o0), (1, .int p1)]) hx hb dX12_agreeing_84 hl (by decide) rfl (fun ls hl => ?_)
                    refine lv_iconst (v := 0) hx hb dX12_agreeing_86 (by decide) ?_
                    refine lv_istore (lv' := [(5, .int 0), (4, .int 0), (3, .int y_69), (2, .int y_70), (0, .ref o0), (1, .int p1)]) hx hb dX12_agreeing_87 hl (by decide) rfl (fun ls hl => ?_)
                    have hloop_144 : ∀ (n : Nat), ∀ (y_145 : Int32), (0 ≤ y_145.toInt ∧ y_145.toInt ≤ 2) → ∀ (y_146 : Int32), (0 ≤ y_146.toInt ∧ y_146.toInt ≤ 80) → ((y_145.toInt = 0 ∧ y_146.toInt = 0) ∨ (y_145.toInt = 1 ∧ y_146.toInt ≤ 8) ∨ (y_145.toInt = 2 ∧ y_146.toInt ≤ 80)) → 2 - y_145.toInt < (n : Int) → ∀ (ls : Array Slot), lv_has ls 6 [(5, .int y_145), (4, .int y_146), (3, .int y_69), (2, .int y_70), (0, .ref o0), (1, .int p1)] → W p l e (headSpec (wU yX12_agreeing cX12_agreeing 6 (some .int)) { frames := 6, cells := 0, slots := 0, locals := 152 }).room s m [.ref o0, .int p1].toArray below meth c H locs 0 0 (MQ below (va_Qi (fun (r : Int32) (f9 : Nat → va_E) => GI (okc cI cL cZ cR cG cH L kd) kd L f9 ∧ ((-2147483648) ≤ r.toInt ∧ r.toInt ≤ 2147483647) ∧ (∀ b, kd b ≠ 12 → kd b ≠ 589 → kd b ≠ 597 → kd b ≠ 598 → kd b ≠ 599 → f9 b = f b) ∧ (∀ b, kd b = 12 → ∀ j, fldR (f9 b) j = fldR (f b) j) ∧ (∀ b, kd b = 12 → ∀ j, j ≠ 23 → j ≠ 43 → fldI (f9 b) j = fldI (f b) j)) (qP (dC, dI) cI cL cZ cR cG cH L) (fun q => q ∈ L)) [.ref o0, .int p1].toArray s 0 0 (fun q => q ∈ L)) (F0 m 89 ls []) := by
                      intro n
                      induction n with
                      | zero => intro y_145 by_145 y_146 by_146 hrelhloop_144_0 hmuhloop_144 ls hl; exfalso; omega
                      | succ n ih_hloop_144 =>
                        intro y_145 by_145 y_146 by_146 hrelhloop_144_0 hmuhloop_144 ls hl
                        refine lv_iload hx hb dX12_agreeing_89 (lv_at hl 0 rfl) ?_
                        refine lv_aload_n hx hb dX12_agreeing_91 rfl (lv_at hl 4 rfl) ?_
                        refine tk_getP (D := (dC, dI)) (ci := 12) (v := .int v_137) (C := RX12) (T := TX12) (N := 56) hx hb hU inlX12 hown hK hP mo0 hfo_138 rfl 43 (by decide) (hU _ wd_572) (fun _ h9 => h9) rfl dX12_agreeing_92 ?_
                        refine lv_icmp_ge (tgt := 119) hx hb dX12_agreeing_95 (by decide) (fun c_147 => ?_) (fun c_147 => ?_)
                        · skip
                          rw [Int32.le_iff_toInt_le] at c_147
                          refine lv_iload_n hx hb dX12_agreeing_119 rfl (lv_at hl 3 rfl) ?_
                          refine lv_aload_n hx hb dX12_agreeing_120 rfl (lv_at hl 4 rfl) ?_
                          refine tk_getP (D := (dC, dI)) (ci := 12) (v := .ref a_49) (C := RX12) (T := TX12) (N := 56) hx hb hU inlX12 hown hK hP mo0 hfo_138 rfl 48 (by decide) (hU _ wd_199) (fun _ h9 => h9) rfl dX12_agreeing_121 ?_
                          refine lv_iload_n hx hb dX12_agreeing_124 rfl (lv_at hl 2 rfl) ?_
                          obtain ⟨g_149, hfo_148, hbg_149⟩ := un_605 (hG _ ma_49) ka_49
                          obtain ⟨a_150, hga_150, ma_150, ka_150⟩ := hbg_149 (Int32.toNatClampNeg y_69) (in_lt (vp_in_iff.mpr (by constructor <;> omega)))
                          refine tk_aldA hx hb hK hP 5 ma_49 hfo_148 rfl (vp_in_iff.mpr (by constructor <;> omega)) hga_150 dX12_agreeing_125 ?_
                          refine lv_iload hx hb dX12_agreeing_126 (lv_at hl 1 rfl) ?_
                          obtain ⟨g_152, hfo_151, hbg_152⟩ := un_604 (hG _ ma_150) ka_150
                          refine tk_zldP hx hb hK hP 2 ma_150 hfo_151 rfl (vp_in_iff.mpr (by constructor <;> omega)) dX12_agreeing_128 ?_
                          refine lv_topi (fun x_153 ex_153 => ?_)
                          have bx_153 : (0 ≤ x_153.toInt ∧ x_153.toInt ≤ 1) := by rw [ex_153]; exact hbg_152 _
                          have hcut_155 : ∀ (y_154 : Int32), (0 ≤ y_154.toInt ∧ y_154.toInt ≤ 1) → ∀ (ls : Array Slot), lv_has ls 6 [(5, .int y_145), (4, .int y_146), (3, .int y_69), (2, .int y_70), (0, .ref o0), (1, .int p1)] → W p l e (headSpec (wU yX12_agreeing cX12_agreeing 6 (some .int)) { frames := 6, cells := 0, slots := 0, locals := 152 }).room s m [.ref o0, .int p1].toArray below meth c H locs 0 0 (MQ below (va_Qi (fun (r : Int32) (f9 : Nat → va_E) => GI (okc cI cL cZ cR cG cH L kd) kd L f9 ∧ ((-2147483648) ≤ r.toInt ∧ r.toInt ≤ 2147483647) ∧ (∀ b, kd b ≠ 12 → kd b ≠ 589 → kd b ≠ 597 → kd b ≠ 598 → kd b ≠ 599 → f9 b = f b) ∧ (∀ b, kd b = 12 → ∀ j, fldR (f9 b) j = fldR (f b) j) ∧ (∀ b, kd b = 12 → ∀ j, j ≠ 23 → j ≠ 43 → fldI (f9 b) j = fldI (f b) j)) (qP (dC, dI) cI cL cZ cR cG cH L) (fun q => q ∈ L)) [.ref o0, .int p1].toArray s 0 0 (fun q => q ∈ L)) (F0 m 137 ls [.int y_154, .int y_70]) := by
                            intro y_154 by_154 ls hl
                            refine lv_iadd hx hb dX12_agreeing_137 ?_
                            refine lv_topi (fun x_156 ex_156 => ?_)
                            have bx_156 : ((-2147483648) ≤ x_156.toInt ∧ x_156.toInt ≤ 2147483647) := ⟨i32_lo _, i32_hi _⟩
                            refine lv_istore_n (lv' := [(2, .int x_156), (5, .int y_145), (4, .int y_146), (3, .int y_69), (0, .ref o0), (1, .int p1)]) hx hb dX12_agreeing_138 rfl hl (by decide) rfl (fun ls hl => ?_)
                            obtain ⟨x_157, ex_157⟩ : ∃ y : Int32, y_69 + 1 = y := ⟨_, rfl⟩
                            have hx_157 : x_157.toInt = y_69.toInt + 1 := by rw [← ex_157, ad_I (by rw [ti_1]; omega) (by rw [ti_1]; omega), ti_1]
                            have bx_157 : (1 ≤ x_157.toInt ∧ x_157.toInt ≤ 72) := by constructor <;> omega
                            refine lv_iinc (v := x_157) (lv' := [(3, .int x_157), (2, .int x_156), (5, .int y_145), (4, .int y_146), (0, .ref o0), (1, .int p1)]) hx hb dX12_agreeing_139 hl (k := 3) rfl ex_157 (by decide) rfl (fun ls hl => ?_)
                            refine lv_goto (tgt := 4) hx hb dX12_agreeing_142 (by decide) ?_
                            exact ih_hloop_68 x_157 (by constructor <;> omega) x_156 (by constructor <;> omega) f_134 hG _ _ hP hS hD hfr0 hrA12 hfA12 hfo_135 (by omega) ls (lv_sub hl [0, 1, 4, 5] rfl)
                          refine lv_if_eq (tgt := 136) hx hb dX12_agreeing_129 (by decide) (fun c_158 => ?_) (fun c_158 => ?_)
                          · skip
                            rw [← Int32.toInt_inj, ti_0] at c_158
                            refine lv_iconst (v := 0) hx hb dX12_agreeing_136 (by decide) ?_
                            exact hcut_155 0 (by decide) ls (lv_sub hl [0, 1, 2, 3, 4, 5] rfl)
                          · skip
                            rw [← Int32.toInt_inj, ti_0] at c_158
                            refine lv_iconst (v := 1) hx hb dX12_agreeing_132 (by decide) ?_
                            refine lv_goto (tgt := 137) hx hb dX12_agreeing_133 (by decide) ?_
                            exact hcut_155 1 (by decide) ls (lv_sub hl [0, 1, 2, 3, 4, 5] rfl)
                        · skip
                          rw [Int32.le_iff_toInt_le] at c_147
                          refine lv_bipush (v := 9) hx hb dX12_agreeing_98 (by decide) ?_
                          refine lv_iload hx hb dX12_agreeing_100 (lv_at hl 1 rfl) ?_
                          refine lv_imul hx hb dX12_agreeing_102 ?_
                          refine lv_topi (fun x_159 ex_159 => ?_)
                          have hx_159 : x_159.toInt = 9 * y_146.toInt := by rw [ex_159, ml_I (by rw [ti_9]; omega) (by rw [ti_9]; omega), ti_9]
                          have bx_159 : (0 ≤ x_159.toInt ∧ x_159.toInt ≤ 720) := by constructor <;> omega
                          refine lv_aload_n hx hb dX12_agreeing_103 rfl (lv_at hl 4 rfl) ?_
                          refine tk_getP (D := (dC, dI)) (ci := 12) (v := .ref a_41) (C := RX12) (T := TX12) (N := 56) hx hb hU inlX12 hown hK hP mo0 hfo_138 rfl 40 (by decide) (hU _ wd_190) (fun _ h9 => h9) rfl dX12_agreeing_104 ?_
                          refine lv_iload hx hb dX12_agreeing_107 (lv_at hl 0 rfl) ?_
                          obtain ⟨g_161, hfo_160, hbg_161⟩ := un_597 (hG _ ma_41) ka_41
                          refine tk_ildP hx hb hK hP 0 ma_41 hfo_160 rfl (vp_in_iff.mpr (by constructor <;> omega)) dX12_agreeing_109 ?_
                          refine lv_topi (fun x_162 ex_162 => ?_)
                          have bx_162 : (0 ≤ x_162.toInt ∧ x_162.toInt ≤ 8) := by rw [ex_162]; exact hbg_161 _
                          refine lv_iadd hx hb dX12_agreeing_110 ?_
                          refine lv_topi (fun x_163 ex_163 => ?_)
                          have hx_163 : x_163.toInt = x_159.toInt + x_162.toInt := by rw [ex_163, ad_I (by omega) (by omega)]
                          have bx_163 : (0 ≤ x_163.toInt ∧ x_163.toInt ≤ 728) := by constructor <;> omega
                          have hclc_164 : (0 ≤ x_163.toInt ∧ x_163.toInt ≤ 80) := by constructor <;> omega
                          refine lv_istore (lv' := [(4, .int x_163), (5, .int y_145), (3, .int y_69), (2, .int y_70), (0, .ref o0), (1, .int p1)]) hx hb dX12_agreeing_111 hl (by decide) rfl (fun ls hl => ?_)
                          obtain ⟨x_165, ex_165⟩ : ∃ y : Int32, y_145 + 1 = y := ⟨_, rfl⟩
                          have hx_165 : x_165.toInt = y_145.toInt + 1 := by rw [← ex_165, ad_I (by rw [ti_1]; omega) (by rw [ti_1]; omega), ti_1]
                          have bx_165 : (1 ≤ x_165.toInt ∧ x_165.toInt ≤ 2) := by constructor <;> omega
                          refine lv_iinc (v := x_165) (lv' := [(5, .int x_165), (4, .int x_163), (3, .int y_69), (2, .int y_70), (0, .ref o0), (1, .int p1)]) hx hb dX12_agreeing_113 hl (k := 1) rfl ex_165 (by decide) rfl (fun ls hl => ?_)
                          refine lv_goto (tgt := 89) hx hb dX12_agreeing_116 (by decide) ?_
                          exact ih_hloop_144 x_165 (by constructor <;> omega) x_163 (by constructor <;> omega) (by omega) (by omega) ls (lv_sub hl [0, 1, 2, 3, 4, 5] rfl)
                    exact hloop_144 3 0 (by decide) 0 (by decide) (by (try rw [ti_0]) <;> omega) (by (try rw [ti_0]) <;> omega) ls hl
                  · skip
                    rw [Int32.le_iff_toInt_le] at c_140
                    refine lv_aload_n hx hb dX12_agreeing_66 rfl (lv_at hl 3 rfl) ?_
                    refine lv_aload_n hx hb dX12_agreeing_67 rfl (lv_at hl 3 rfl) ?_
                    refine tk_getP (D := (dC, dI)) (ci := 12) (v := .ref a_51) (C := RX12) (T := TX12) (N := 56) hx hb hU inlX12 hown hK hP mo0 hfo_138 rfl 50 (by decide) (hU _ wd_201) (fun _ h9 => h9) rfl dX12_agreeing_68 ?_
                    refine lv_iload hx hb dX12_agreeing_71 (lv_at hl 0 rfl) ?_
                    obtain ⟨g_167, hfo_166, hbg_167⟩ := un_607 (hG _ ma_51) ka_51
                    refine tk_ildP hx hb hK hP 0 ma_51 hfo_166 rfl (vp_in_iff.mpr (by constructor <;> omega)) dX12_agreeing_73 ?_
                    refine lv_topi (fun x_168 ex_168 => ?_)
                    have bx_168 : (0 ≤ x_168.toInt ∧ x_168.toInt ≤ 7) := by rw [ex_168]; exact hbg_167 _
                    refine tk_VvP (As := [.int x_168]) (rest := []) (n := 1) hx hb hml hown hU hN hZ (s_X12_age_k12 l (dC, dI) cI cL cZ cR cG cH Z kd L f_134 hG o0 mo0 ko0 x_168 (by constructor <;> omega)) wd_1119 wd_1120 wd_1121 wd_5 wd_1122 (by decide +kernel) ⟨Nat.le_of_ble_eq_true rfl, Nat.le_of_ble_eq_true rfl⟩ hK hP hD hS mo0 hfo_138 12 rfl rfl rfl hl.1 rfl (Nat.le_of_ble_eq_true rfl) dX12_agreeing_74 ⟨Nat.le_of_ble_eq_true rfl, Nat.le_of_ble_eq_true rfl⟩ (fun f_170 H locs hw hP hD hS => ?_)
                    obtain ⟨hG, hkc_171, hra_172, hfa_173, hpost_174⟩ := hw
                    have hfo_176 : f_170 a_1 = .inl (cI, 1560, .inl g_60) := by rw [hkc_171 a_1 (by rw [ka_1]; decide) (by rw [ka_1]; decide) (by rw [ka_1]; decide) (by rw [ka_1]; decide)]; exact hfo_135
                    have hfo_177 : f_170 a_51 = .inl (cI, 8, .inl g_167) := by rw [hkc_171 a_51 (by rw [ka_51]; decide) (by rw [ka_51]; decide) (by rw [ka_51]; decide) (by rw [ka_51]; decide)]; exact hfo_166
                    have hfr0 : ∀ b, kd b ≠ 12 → kd b ≠ 589 → kd b ≠ 597 → kd b ≠ 598 → kd b ≠ 599 → f_170 b = f b := fun b q12 q589 q597 q598 q599 => (hkc_171 b q12 q597 q598 q599).trans (hfr0 b q12 q589 q597 q598 q599)
                    have hrA12 : ∀ b, kd b = 12 → ∀ j, fldR (f_170 b) j = fldR (f b) j := fun b kb j => (hra_172 b kb j).trans (hrA12 b kb j)
                    have hfA12 : ∀ b, kd b = 12 → ∀ j, j ≠ 23 → j ≠ 43 → fldI (f_170 b) j = fldI (f b) j := fun b kb j n23 n43 => (hfa_173 b kb j n43).trans (hfA12 b kb j n23 n43)
                    obtain ⟨v_178, hfo_179, fa_180⟩ := op12_43 hfo_138 (hG _ mo0) ko0 (hra_172 o0 ko0) (hfa_173 o0 ko0)
                    have bv_178 : (0 ≤ v_178.toInt ∧ v_178.toInt ≤ 8) := fa12_43 fa_180
                    have hqhpost_174 := hpost_174 v_137 v_178 (by rw [hfo_138]; rfl) (by rw [hfo_179]; rfl)
                    obtain ⟨x_181, ex_181⟩ : ∃ y : Int32, y_132 + 1 = y := ⟨_, rfl⟩
                    have hx_181 : x_181.toInt = y_132.toInt + 1 := by rw [← ex_181, ad_I (by rw [ti_1]; omega) (by rw [ti_1]; omega), ti_1]
                    have bx_181 : (1 ≤ x_181.toInt ∧ x_181.toInt ≤ 8) := by constructor <;> omega
                    refine lv_iinc (v := x_181) (lv' := [(4, .int x_181), (3, .int y_69), (2, .int y_70), (0, .ref o0), (1, .int p1)]) hx hb dX12_agreeing_77 hl (k := 0) rfl ex_181 (by decide) rfl (fun ls hl => ?_)
                    refine lv_goto (tgt := 57) hx hb dX12_agreeing_80 (by decide) ?_
                    exact ih_hloop_131 x_181 (by constructor <;> omega) f_170 hG _ _ hP hS hD hfr0 hrA12 hfA12 hfo_176 v_178 (by rw [hfo_179]; rfl) (by omega) (by omega) ls (lv_sub hl [0, 1, 2, 3, 4] rfl)
              exact hloop_131 9 0 (by decide) f_118 hG _ _ hP hS hD hfr0 hrA12 hfA12 hfo_119 v_88 (by rw [hfo_120]; rfl) (by (try rw [ti_0]) <;> omega) (by (try rw [ti_0]) <;> omega) ls hl
            · skip
              rw [Int32.le_iff_toInt_le] at c_121
              refine lv_aload_n hx hb dX12_agreeing_34 rfl (lv_at hl 3 rfl) ?_
              refine tk_getP (D := (dC, dI)) (ci := 12) (v := .ref a_41) (C := RX12) (T := TX12) (N := 56) hx hb hU inlX12 hown hK hP mo0 hfo_120 rfl 40 (by decide) (hU _ wd_190) (fun _ h9 => h9) rfl dX12_agreeing_35 ?_
              refine lv_iload hx hb dX12_agreeing_38 (lv_at hl 0 rfl) ?_
              refine lv_aload_n hx hb dX12_agreeing_40 rfl (lv_at hl 3 rfl) ?_
              refine tk_getP (D := (dC, dI)) (ci := 12) (v := .ref a_22) (C := RX12) (T := TX12) (N := 56) hx hb hU inlX12 hown hK hP mo0 hfo_120 rfl 21 (by decide) (hU _ wd_181) (fun _ h9 => h9) rfl dX12_agreeing_41 ?_
              refine lv_iload hx hb dX12_agreeing_44 (lv_at hl 0 rfl) ?_
              obtain ⟨g_183, hfo_182, hbg_183⟩ := un_589 (hG _ ma_22) ka_22
              refine tk_ildP hx hb hK hP 0 ma_22 hfo_182 rfl (vp_in_iff.mpr (by constructor <;> omega)) dX12_agreeing_46 ?_
              refine lv_topi (fun x_184 ex_184 => ?_)
              have bx_184 : (0 ≤ x_184.toInt ∧ x_184.toInt ≤ 8) := by rw [ex_184]; exact hbg_183 _
              obtain ⟨g_186, hfo_185, hbg_186⟩ := un_597 (hG _ ma_41) ka_41
              refine tk_istP hx hb hK hP hD hS 0 ma_41 hfo_185 rfl (vp_in_iff.mpr (by constructor <;> omega)) dX12_agreeing_47 (fun H locs hP hD hS => ?_)
              obtain ⟨f_188, ef_188⟩ : ∃ y : Nat → va_E, y = va_up f_118 a_41 (.inl (cI, 16, .inl (upd g_186 (Int32.toNatClampNeg y_116) x_184))) := ⟨_, rfl⟩
              have hP : va_P (dC, dI) vwCl (va_pl L f_188) H := by rw [ef_188]; exact hP
              have hD : va_D (fun q => q ∈ L) (va_pl L f_188) := by rw [ef_188]; exact hD
              have hG : GI (okc cI cL cZ cR cG cH L kd) kd L f_188 := by rw [ef_188]; exact hG.set a_41 (mk_597 ka_41 ⟨_, rfl, okI_up hbg_186 (by constructor <;> omega) _⟩)
              have hfo_189 : f_188 a_1 = .inl (cI, 1560, .inl g_60) := by rw [ef_188, up_ne (kd_ne ka_41 ka_1 (by decide))]; exact hfo_119
              have hfo_190 : f_188 o0 = .inr (12, [.ref a_1, .ref a_2, .ref a_3, .int v_4, .ref a_5, .int v_6, .int v_7, .int v_8, .int v_9, .int v_10, .int v_11, .int v_12, .int v_13, .int v_14, .int v_15, .ref a_16, .ref a_17, .ref a_18, .ref a_19, .ref a_20, .ref a_21, .ref a_22, .ref a_23, .int v_88, .int v_25, .int v_26, .int v_27, .int v_28, .ref a_29, .int v_30, .ref a_31, .ref a_32, .int v_33, .int v_34, .ref a_35, .int v_36, .ref a_37, .ref a_38, .int v_39, .int v_40, .ref a_41, .ref a_42, .ref a_43, .int v_88, .ref a_45, .ref a_46, .ref a_47, .ref a_48, .ref a_49, .ref a_50, .ref a_51, .ref a_52, .ref a_53, .int v_54, .int v_55, .ref a_56]) := by rw [ef_188, up_ne (kd_ne ka_41 ko0 (by decide))]; exact hfo_120
              have hfo_191 : f_188 a_22 = .inl (cI, 16, .inl g_183) := by rw [ef_188, up_ne (kd_ne ka_41 ka_22 (by decide))]; exact hfo_182
              have hfr0 : ∀ b, kd b ≠ 12 → kd b ≠ 589 → kd b ≠ 597 → kd b ≠ 598 → kd b ≠ 599 → f_188 b = f b := fun b q12 q589 q597 q598 q599 => (congrFun ef_188 b).trans ((up_ne (fun e9 => q597 (by rw [e9]; exact ka_41))).trans (hfr0 b q12 q589 q597 q598 q599))
              have hrA12 : ∀ b, kd b = 12 → ∀ j, fldR (f_188 b) j = fldR (f b) j := fun b kb j => (congrArg (fun x => fldR x j) ((congrFun ef_188 b).trans (up_ne (kd_ne ka_41 kb (by decide))))).trans (hrA12 b kb j)
              have hfA12 : ∀ b, kd b = 12 → ∀ j, j ≠ 23 → j ≠ 43 → fldI (f_188 b) j = fldI (f b) j := fun b kb j n23 n43 => (congrArg (fun x => fldI x j) ((congrFun ef_188 b).trans (up_ne (kd_ne ka_41 kb (by decide))))).trans (hfA12 b kb j n23 n43)
              have hfo_192 : f_188 a_41 = .inl (cI, 16, .inl (upd g_186 (Int32.toNatClampNeg y_116) x_184)) := by rw [ef_188]; exact up_self
              obtain ⟨x_193, ex_193⟩ : ∃ y : Int32, y_116 + 1 = y := ⟨_, rfl⟩
              have hx_193 : x_193.toInt = y_116.toInt + 1 := by rw [← ex_193, ad_I (by rw [ti_1]; omega) (by rw [ti_1]; omega), ti_1]
              have bx_193 : (1 ≤ x_193.toInt ∧ x_193.toInt ≤ 2) := by constructor <;> omega
              refine lv_iinc (v := x_193) (lv' := [(4, .int x_193), (3, .int y_69), (2, .int y_70), (0, .ref o0), (1, .int p1)]) hx hb dX12_agreeing_48 hl (k := 0) rfl ex_193 (by decide) rfl (fun ls hl => ?_)
              refine lv_goto (tgt := 25) hx hb dX12_agreeing_51 (by decide) ?_
              exact ih_hloop_115 x_193 (by constructor <;> omega) f_188 hG _ _ hP hS hD hfr0 hrA12 hfA12 hfo_189 hfo_190 (by omega) ls (lv_sub hl [0, 1, 2, 3, 4] rfl)
        exact hloop_115 3 0 (by decide) f_94 hG _ _ hP hS hD hfr0 hrA12 hfA12 hfo_95 hfo_96 (by (try rw [ti_0]) <;> omega) ls hl
  exact hloop_68 73 0 (by decide) 0 (by decide) f hG _ _ hP hS hD hfr0 hrA12 hfA12 hfo_59 (by (try rw [ti_0]) <;> omega) ls hl
set_option maxHeartbeats 8000000 in
set_option maxRecDepth 100000 in
theorem s_X12_triesOrders_k12 (l : Launch) (D : va_G) (cI cL cZ cR cG cH : ClassId) (Z : zT) (kd : Nat → Nat) (L : List Nat) (n_ : Nat) (f : Nat → va_E) (hG : GI (okc cI cL cZ cR cG cH L kd) kd L f) (o0 : Nat) (mo0 : o0 ∈ L) (ko0 : kd o0 = 12) (p1 : Int32) (bp1 : (0 ≤ p1.toInt ∧ p1.toInt ≤ 8)) (p2 : Int32) (bp2 : (0 ≤ p2.toInt ∧ p2.toInt ≤ 72)) (hpreo0 : ∀ (w53 : Int32), fldI (f o0) 53 = some w53 → p1.toInt ≤ w53.toInt) (hxpre0 : ∀ b9 g9, fldR (f o0) 0 = some b9 → f b9 = .inl (cI, 1560, .inl g9) → p2.toInt ≤ (g9 0).toInt + (g9 0).toInt * (g9 0).toInt) (hrk : 8 - p1.toInt < (n_ : Int)) : mPV l D cI cL cZ cR cG cH Z yX12_triesOrders cX12_triesOrders 5 none (7 + n_) (177 + n_ * 24) [.ref o0, .int p1, .int p2] L f (fun (f9 : Nat → va_E) => GI (okc cI cL cZ cR cG cH L kd) kd L f9 ∧ (∀ b, kd b ≠ 12 → kd b ≠ 589 → kd b ≠ 597 → kd b ≠ 598 → kd b ≠ 599 → kd b ≠ 607 → kd b ≠ 608 → kd b ≠ 609 → f9 b = f b) ∧ (∀ b, kd b = 12 → ∀ j, fldR (f9 b) j = fldR (f b) j) ∧ (∀ b, kd b = 12 → ∀ j, j ≠ 23 → j ≠ 43 → j ≠ 54 → fldI (f9 b) j = fldI (f b) j)) := by
  obtain ⟨dC, dI⟩ := D
  induction n_ generalizing f o0 mo0 ko0 p1 bp1 p2 bp2 hpreo0 hxpre0 with
  | zero => exfalso; omega
  | succ n_ ih_ =>
    have ih_rec := ih_
    clear ih_
    refine Met.ofW (cc := cX12_triesOrders) (maxL := 5) (ret := none) (by decide) rfl ?_
    intro p e s m args below meth c s₁ B hml hv
    obtain ⟨rfl, hP, hK, hD0, hN, hZ⟩ := hv
    have hx := B.exec
    have hb := B.bytes
    have hr := B.returns
    have hU : ∀ w ∈ wsU, w.before _ s = true := fun w h => atoms_spec (ws := wU yX12_triesOrders cX12_triesOrders 5 none) B.pre w (List.mem_cons_of_mem _ h)
    have hown : s.vm.findClass RX12 = some m.cls := findClass_of_methodNamed B.named
    have hlocks := B.notSynchronized
    have hD := pl_in hD0
    have hS : va_S (fun q => q ∈ L) s.heap s.heap [] := va_S.rf
    have hl := lv_entry ([.ref o0, .int p1, .int p2]) (n := 5) (Nat.le_of_ble_eq_true rfl)
    rw [lg_entry_eq]
    generalize (lg_sl ([.ref o0, .int p1, .int p2]) ++ List.replicate (5 - (lg_sl ([.ref o0, .int p1, .int p2])).length) Slot.unset).toArray = ls at hl ⊢
    have hl : lv_has ls 5 [(0, .ref o0), (1, .int p1), (2, .int p2)] := hl
    have hfr0 : ∀ b, kd b ≠ 12 → kd b ≠ 589 → kd b ≠ 597 → kd b ≠ 598 → kd b ≠ 599 → kd b ≠ 607 → kd b ≠ 608 → kd b ≠ 609 → f b = f b := fun _ _ _ _ _ _ _ _ _ => rfl
    have hrA12 : ∀ b, kd b = 12 → ∀ j, fldR (f b) j = fldR (f b) j := fun _ _ _ => rfl
    have hfA12 : ∀ b, kd b = 12 → ∀ j, j ≠ 23 → j ≠ 43 → j ≠ 54 → fldI (f b) j = fldI (f b) j := fun _ _ _ _ _ _ => rfl
    obtain ⟨a_1, a_2, a_3, v_4, a_5, v_6, v_7, v_8, v_9, v_10, v_11, v_12, v_13, v_14, v_15, a_16, a_17, a_18, a_19, a_20, a_21, a_22, a_23, v_24, v_25, v_26, v_27, v_28, a_29, v_30, a_31, a_32, v_33, v_34, a_35, v_36, a_37, a_38, v_39, v_40, a_41, a_42, a_43, v_44, a_45, a_46, a_47, a_48, a_49, a_50, a_51, a_52, a_53, v_54, v_55, a_56, hfo_57, fa_58⟩ := un12 (hG _ mo0) ko0
    obtain ⟨ma_1, ka_1⟩ := fa12_0 fa_58
    obtain ⟨ma_50, ka_50⟩ := fa12_49 fa_58
    obtain ⟨ma_51, ka_51⟩ := fa12_50 fa_58
    obtain ⟨ma_52, ka_52⟩ := fa12_51 fa_58
    obtain ⟨ma_53, ka_53⟩ := fa12_52 fa_58
    have bv_54 : (0 ≤ v_54.toInt ∧ v_54.toInt ≤ 8) := fa12_53 fa_58
    have bv_55 : ((-2147483648) ≤ v_55.toInt ∧ v_55.toInt ≤ 2147483647) := ⟨i32_lo _, i32_hi _⟩
    have hpo0 := hpreo0 v_54 (by rw [hfo_57]; rfl)
    obtain ⟨g_60, hfo_59, hbg_60⟩ := un_575 (hG _ ma_1) ka_1
    have hlw0 := hxpre0 a_1 g_60 (by rw [hfo_57]; rfl) hfo_59
    have hsq := lw_sq (L := (g_60 0).toInt) (hbg_60.1 0 (by decide) (by decide) (by decide))
    refine lv_iload_n hx hb dX12_triesOrders_0 rfl (lv_at hl 1 rfl) ?_
    refine lv_aload_n hx hb dX12_triesOrders_1 rfl (lv_at hl 0 rfl) ?_
    refine tk_getP (D := (dC, dI)) (ci := 12) (v := .int v_54) (C := RX12) (T := TX12) (N := 56) hx hb hU inlX12 hown hK hP mo0 hfo_57 rfl 53 (by decide) (hU _ wd_1241) (fun _ h9 => h9) rfl dX12_triesOrders_2 ?_
    refine lv_icmp_ne (tgt := 61) hx hb dX12_triesOrders_5 (by decide) (fun c_61 => ?_) (fun c_61 => ?_)
    · skip
      rw [← Int32.toInt_inj] at c_61
      have hclc_62 : (0 ≤ p1.toInt ∧ p1.toInt ≤ 7) := by constructor <;> omega
      refine lv_iconst (v := 0) hx hb dX12_triesOrders_61 (by decide) ?_
      refine lv_istore_n (lv' := [(3, .int 0), (0, .ref o0), (1, .int p1), (2, .int p2)]) hx hb dX12_triesOrders_62 rfl hl (by decide) rfl (fun ls hl => ?_)
      have hloop_69 : ∀ (n : Nat), ∀ (y_70 : Int32), (0 ≤ y_70.toInt ∧ y_70.toInt ≤ 8) → ∀ (f_72 : Nat → va_E), GI (okc cI cL cZ cR cG cH L kd) kd L f_72 → ∀ (H : Heap) (locs : List Loc), va_P (dC, dI) vwCl (va_pl L f_72) H → va_S (fun q => q ∈ L) s.heap H locs → va_D (fun q => q ∈ L) (va_pl L f_72) → (∀ b, kd b ≠ 12 → kd b ≠ 589 → kd b ≠ 597 → kd b ≠ 598 → kd b ≠ 599 → kd b ≠ 607 → kd b ≠ 608 → kd b ≠ 609 → f_72 b = f b) → (∀ b, kd b = 12 → ∀ j, fldR (f_72 b) j = fldR (f b) j) → (∀ b, kd b = 12 → ∀ j, j ≠ 23 → j ≠ 43 → j ≠ 54 → fldI (f_72 b) j = fldI (f b) j) → (f_72 a_1 = .inl (cI, 1560, .inl g_60)) → 8 - y_70.toInt < (n : Int) → ∀ (ls : Array Slot), lv_has ls 5 [(3, .int y_70), (0, .ref o0), (1, .int p1), (2, .int p2)] → W p l e (headSpec (wU yX12_triesOrders cX12_triesOrders 5 none) { frames := 7 + (n_ + 1), cells := 0, slots := 0, locals := 177 + (n_ + 1) * 24 }).room s m [.ref o0, .int p1, .int p2].toArray below meth c H locs 0 0 (MQ below (va_Qv (fun (f9 : Nat → va_E) => GI (okc cI cL cZ cR cG cH L kd) kd L f9 ∧ (∀ b, kd b ≠ 12 → kd b ≠ 589 → kd b ≠ 597 → kd b ≠ 598 → kd b ≠ 599 → kd b ≠ 607 → kd b ≠ 608 → kd b ≠ 609 → f9 b = f b) ∧ (∀ b, kd b = 12 → ∀ j, fldR (f9 b) j = fldR (f b) j) ∧ (∀ b, kd b = 12 → ∀ j, j ≠ 23 → j ≠ 43 → j ≠ 54 → fldI (f9 b) j = fldI (f b) j)) (qP (dC, dI) cI cL cZ cR cG cH L) (fun q => q ∈ L)) [.ref o0, .int p1, .int p2].toArray s 0 0 (fun q => q ∈ L)) (F0 m 63 ls []) := by
        intro n
        induction n with
        | zero => intro y_70 by_70 f_72 hG H locs hP hS hD hfr0 hrA12 hfA12 hfo_73 hmuhloop_69 ls hl; exfalso; omega
        | succ n ih_hloop_69 =>
          intro y_70 by_70 f_72 hG H locs hP hS hD hfr0 hrA12 hfA12 hfo_73 hmuhloop_69 ls hl
          refine lv_iload_n hx hb dX12_triesOrders_63 rfl (lv_at hl 0 rfl) ?_
          refine lv_aload_n hx hb dX12_triesOrders_64 rfl (lv_at hl 1 rfl) ?_
          obtain ⟨v_74, v_75, v_76, hfo_77, fa_78⟩ := op12_23_43_54 hfo_57 (hG _ mo0) ko0 (hrA12 o0 ko0) (hfA12 o0 ko0)
          have bv_74 : (0 ≤ v_74.toInt ∧ v_74.toInt ≤ 12) := fa12_23 fa_78
          have bv_75 : (0 ≤ v_75.toInt ∧ v_75.toInt ≤ 8) := fa12_43 fa_78
          have bv_76 : ((-2147483648) ≤ v_76.toInt ∧ v_76.toInt ≤ 2147483647) := ⟨i32_lo _, i32_hi _⟩
          refine tk_getP (D := (dC, dI)) (ci := 12) (v := .int v_54) (C := RX12) (T := TX12) (N := 56) hx hb hU inlX12 hown hK hP mo0 hfo_77 rfl 53 (by decide) (hU _ wd_1241) (fun _ h9 => h9) rfl dX12_triesOrders_65 ?_
          refine lv_icmp_ge (tgt := 123) hx hb dX12_triesOrders_68 (by decide) (fun c_79 => ?_) (fun c_79 => ?_)
          · skip
            rw [Int32.le_iff_toInt_le] at c_79
            exact W.vret hx hb hr (fun t ht hW => ⟨⟨f_72, rfl, ⟨hG, hfr0, hrA12, hfA12⟩, by rw [ht]; exact hP, va_K.moved hW.alike hK, pl_in hD⟩, hS.F ht⟩) hS.2.2 dX12_triesOrders_123
          · skip
            rw [Int32.le_iff_toInt_le] at c_79
            refine lv_aload_n hx hb dX12_triesOrders_71 rfl (lv_at hl 1 rfl) ?_
            refine tk_getP (D := (dC, dI)) (ci := 12) (v := .ref a_53) (C := RX12) (T := TX12) (N := 56) hx hb hU inlX12 hown hK hP mo0 hfo_77 rfl 52 (by decide) (hU _ wd_203) (fun _ h9 => h9) rfl dX12_triesOrders_72 ?_
            refine lv_iload_n hx hb dX12_triesOrders_75 rfl (lv_at hl 0 rfl) ?_
            obtain ⟨g_81, hfo_80, hbg_81⟩ := un_609 (hG _ ma_53) ka_53
            refine tk_zldP hx hb hK hP 2 ma_53 hfo_80 rfl (vp_in_iff.mpr (by constructor <;> omega)) dX12_triesOrders_76 ?_
            refine lv_topi (fun x_82 ex_82 => ?_)
            have bx_82 : (0 ≤ x_82.toInt ∧ x_82.toInt ≤ 1) := by rw [ex_82]; exact hbg_81 _
            have hcut_86 : ∀ (f_84 : Nat → va_E), GI (okc cI cL cZ cR cG cH L kd) kd L f_84 → ∀ (H : Heap) (locs : List Loc), va_P (dC, dI) vwCl (va_pl L f_84) H → va_S (fun q => q ∈ L) s.heap H locs → va_D (fun q => q ∈ L) (va_pl L f_84) → (∀ b, kd b ≠ 12 → kd b ≠ 589 → kd b ≠ 597 → kd b ≠ 598 → kd b ≠ 599 → kd b ≠ 607 → kd b ≠ 608 → kd b ≠ 609 → f_84 b = f b) → (∀ b, kd b = 12 → ∀ j, fldR (f_84 b) j = fldR (f b) j) → (∀ b, kd b = 12 → ∀ j, j ≠ 23 → j ≠ 43 → j ≠ 54 → fldI (f_84 b) j = fldI (f b) j) → (f_84 a_1 = .inl (cI, 1560, .inl g_60)) → ∀ (ls : Array Slot), lv_has ls 5 [(3, .int y_70), (0, .ref o0), (1, .int p1), (2, .int p2)] → W p l e (headSpec (wU yX12_triesOrders cX12_triesOrders 5 none) { frames := 7 + (n_ + 1), cells := 0, slots := 0, locals := 177 + (n_ + 1) * 24 }).room s m [.ref o0, .int p1, .int p2].toArray below meth c H locs 0 0 (MQ below (va_Qv (fun (f9 : Nat → va_E) => GI (okc cI cL cZ cR cG cH L kd) kd L f9 ∧ (∀ b, kd b ≠ 12 → kd b ≠ 589 → kd b ≠ 597 → kd b ≠ 598 → kd b ≠ 599 → kd b ≠ 607 → kd b ≠ 608 → kd b ≠ 609 → f9 b = f b) ∧ (∀ b, kd b = 12 → ∀ j, fldR (f9 b) j = fldR (f b) j) ∧ (∀ b, kd b = 12 → ∀ j, j ≠ 23 → j ≠ 43 → j ≠ 54 → fldI (f9 b) j = fldI (f b) j)) (qP (dC, dI) cI cL cZ cR cG cH L) (fun q => q ∈ L)) [.ref o0, .int p1, .int p2].toArray s 0 0 (fun q => q ∈ L)) (F0 m 117 ls []) := by
              intro f_84 hG H locs hP hS hD hfr0 hrA12 hfA12 hfo_85 ls hl
              obtain ⟨x_87, ex_87⟩ : ∃ y : Int32, y_70 + 1 = y := ⟨_, rfl⟩
              have hx_87 : x_87.toInt = y_70.toInt + 1 := by rw [← ex_87, ad_I (by rw [ti_1]; omega) (by rw [ti_1]; omega), ti_1]
              have bx_87 : (1 ≤ x_87.toInt ∧ x_87.toInt ≤ 8) := by constructor <;> omega
              refine lv_iinc (v := x_87) (lv' := [(3, .int x_87), (0, .ref o0), (1, .int p1), (2, .int p2)]) hx hb dX12_triesOrders_117 hl (k := 0) rfl ex_87 (by decide) rfl (fun ls hl => ?_)
              refine lv_goto (tgt := 63) hx hb dX12_triesOrders_120 (by decide) ?_
              exact ih_hloop_69 x_87 (by constructor <;> omega) f_84 hG _ _ hP hS hD hfr0 hrA12 hfA12 hfo_85 (by omega) ls (lv_sub hl [0, 1, 2, 3] rfl)
            refine lv_if_eq (tgt := 83) hx hb dX12_triesOrders_77 (by decide) (fun c_88 => ?_) (fun c_88 => ?_)
            · skip
              rw [← Int32.toInt_inj, ti_0] at c_88
              refine lv_aload_n hx hb dX12_triesOrders_83 rfl (lv_at hl 1 rfl) ?_
              refine tk_getP (D := (dC, dI)) (ci := 12) (v := .ref a_53) (C := RX12) (T := TX12) (N := 56) hx hb hU inlX12 hown hK hP mo0 hfo_77 rfl 52 (by decide) (hU _ wd_203) (fun _ h9 => h9) rfl dX12_triesOrders_84 ?_
              refine lv_iload_n hx hb dX12_triesOrders_87 rfl (lv_at hl 0 rfl) ?_
              refine lv_iconst (v := 1) hx hb dX12_triesOrders_88 (by decide) ?_
              refine tk_zstP hx hb hK hP hD hS 2 ma_53 hfo_80 rfl (vp_in_iff.mpr (by constructor <;> omega)) (bt_n (by decide)) dX12_triesOrders_89 (fun H locs hP hD hS => ?_)
              obtain ⟨f_90, ef_90⟩ : ∃ y : Nat → va_E, y = va_up f_72 a_53 (.inl (cZ, 8, .inl (upd g_81 (Int32.toNatClampNeg y_70) 1))) := ⟨_, rfl⟩
              have hP : va_P (dC, dI) vwCl (va_pl L f_90) H := by rw [ef_90]; exact hP
              have hD : va_D (fun q => q ∈ L) (va_pl L f_90) := by rw [ef_90]; exact hD
              have hG : GI (okc cI cL cZ cR cG cH L kd) kd L f_90 := by rw [ef_90]; exact hG.set a_53 (mk_609 ka_53 ⟨_, rfl, okI_up hbg_81 (by decide) _⟩)
              have hfo_91 : f_90 a_1 = .inl (cI, 1560, .inl g_60) := by rw [ef_90, up_ne (kd_ne ka_53 ka_1 (by decide))]; exact hfo_73
              have hfo_92 : f_90 o0 = .inr (12, [.ref a_1, .ref a_2, .ref a_3, .int v_4, .ref a_5, .int v_6, .int v_7, .int v_8, .int v_9, .int v_10, .int v_11, .int v_12, .int v_13, .int v_14, .int v_15, .ref a_16, .ref a_17, .ref a_18, .ref a_19, .ref a_20, .ref a_21, .ref a_22, .ref a_23, .int v_74, .int v_25, .int v_26, .int v_27, .int v_28, .ref a_29, .int v_30, .ref a_31, .ref a_32, .int v_33, .int v_34, .ref a_35, .int v_36, .ref a_37, .ref a_38, .int v_39, .int v_40, .ref a_41, .ref a_42, .ref a_43, .int v_75, .ref a_45, .ref a_46, .ref a_47, .ref a_48, .ref a_49, .ref a_50, .ref a_51, .ref a_52, .ref a_53, .int v_54, .int v_76, .ref a_56]) := by rw [ef_90, up_ne (kd_ne ka_53 ko0 (by decide))]; exact hfo_77
              have hfr0 : ∀ b, kd b ≠ 12 → kd b ≠ 589 → kd b ≠ 597 → kd b ≠ 598 → kd b ≠ 599 → kd b ≠ 607 → kd b ≠ 608 → kd b ≠ 609 → f_90 b = f b := fun b q12 q589 q597 q598 q599 q607 q608 q609 => (congrFun ef_90 b).trans ((up_ne (fun e9 => q609 (by rw [e9]; exact ka_53))).trans (hfr0 b q12 q589 q597 q598 q599 q607 q608 q609))
              have hrA12 : ∀ b, kd b = 12 → ∀ j, fldR (f_90 b) j = fldR (f b) j := fun b kb j => (congrArg (fun x => fldR x j) ((congrFun ef_90 b).trans (up_ne (kd_ne ka_53 kb (by decide))))).trans (hrA12 b kb j)
              have hfA12 : ∀ b, kd b = 12 → ∀ j, j ≠ 23 → j ≠ 43 → j ≠ 54 → fldI (f_90 b) j = fldI (f b) j := fun b kb j n23 n43 n54 => (congrArg (fun x => fldI x j) ((congrFun ef_90 b).trans (up_ne (kd_ne ka_53 kb (by decide))))).trans (hfA12 b kb j n23 n43 n54)
              have hfo_93 : f_90 a_53 = .inl (cZ, 8, .inl (upd g_81 (Int32.toNatClampNeg y_70) 1)) := by rw [ef_90]; exact up_self
              refine lv_aload_n hx hb dX12_triesOrders_90 rfl (lv_at hl 1 rfl) ?_
              refine tk_getP (D := (dC, dI)) (ci := 12) (v := .ref a_51) (C := RX12) (T := TX12) (N := 56) hx hb hU inlX12 hown hK hP mo0 hfo_92 rfl 50 (by decide) (hU _ wd_201) (fun _ h9 => h9) rfl dX12_triesOrders_91 ?_
              refine lv_iload_n hx hb dX12_triesOrders_94 rfl (lv_at hl 2 rfl) ?_
              refine lv_aload_n hx hb dX12_triesOrders_95 rfl (lv_at hl 1 rfl) ?_
              refine tk_getP (D := (dC, dI)) (ci := 12) (v := .ref a_50) (C := RX12) (T := TX12) (N := 56) hx hb hU inlX12 hown hK hP mo0 hfo_92 rfl 49 (by decide) (hU _ wd_200) (fun _ h9 => h9) rfl dX12_triesOrders_96 ?_
              refine lv_iload_n hx hb dX12_triesOrders_99 rfl (lv_at hl 0 rfl) ?_
              obtain ⟨g_95, hfo_94, hbg_95⟩ := un_606 (hG _ ma_50) ka_50
              refine tk_ildP hx hb hK hP 0 ma_50 hfo_94 rfl (vp_in_iff.mpr (by constructor <;> omega)) dX12_triesOrders_100 ?_
              refine lv_topi (fun x_96 ex_96 => ?_)
              have bx_96 : (0 ≤ x_96.toInt ∧ x_96.toInt ≤ 7) := by rw [ex_96]; exact hbg_95 _
              obtain ⟨g_98, hfo_97, hbg_98⟩ := un_607 (hG _ ma_51) ka_51
              refine tk_istP hx hb hK hP hD hS 0 ma_51 hfo_97 rfl (vp_in_iff.mpr (by constructor <;> omega)) dX12_triesOrders_101 (fun H locs hP hD hS => ?_)
              obtain ⟨f_100, ef_100⟩ : ∃ y : Nat → va_E, y = va_up f_90 a_51 (.inl (cI, 8, .inl (upd g_98 (Int32.toNatClampNeg p1) x_96))) := ⟨_, rfl⟩
              have hP : va_P (dC, dI) vwCl (va_pl L f_100) H := by rw [ef_100]; exact hP
              have hD : va_D (fun q => q ∈ L) (va_pl L f_100) := by rw [ef_100]; exact hD
              have hG : GI (okc cI cL cZ cR cG cH L kd) kd L f_100 := by rw [ef_100]; exact hG.set a_51 (mk_607 ka_51 ⟨_, rfl, okI_up hbg_98 (by constructor <;> omega) _⟩)
              have hfo_101 : f_100 a_1 = .inl (cI, 1560, .inl g_60) := by rw [ef_100, up_ne (kd_ne ka_51 ka_1 (by decide))]; exact hfo_91
              have hfo_102 : f_100 o0 = .inr (12, [.ref a_1, .ref a_2, .ref a_3, .int v_4, .ref a_5, .int v_6, .int v_7, .int v_8, .int v_9, .int v_10, .int v_11, .int v_12, .int v_13, .int v_14, .int v_15, .ref a_16, .ref a_17, .ref a_18, .ref a_19, .ref a_20, .ref a_21, .ref a_22, .ref a_23, .int v_74, .int v_25, .int v_26, .int v_27, .int v_28, .ref a_29, .int v_30, .ref a_31, .ref a_32, .int v_33, .int v_34, .ref a_35, .int v_36, .ref a_37, .ref a_38, .int v_39, .int v_40, .ref a_41, .ref a_42, .ref a_43, .int v_75, .ref a_45, .ref a_46, .ref a_47, .ref a_48, .ref a_49, .ref a_50, .ref a_51, .ref a_52, .ref a_53, .int v_54, .int v_76, .ref a_56]) := by rw [ef_100, up_ne (kd_ne ka_51 ko0 (by decide))]; exact hfo_92
              have hfo_103 : f_100 a_50 = .inl (cI, 8, .inl g_95) := by rw [ef_100, up_ne (kd_ne ka_51 ka_50 (by decide))]; exact hfo_94
              have hfr0 : ∀ b, kd b ≠ 12 → kd b ≠ 589 → kd b ≠ 597 → kd b ≠ 598 → kd b ≠ 599 → kd b ≠ 607 → kd b ≠ 608 → kd b ≠ 609 → f_100 b = f b := fun b q12 q589 q597 q598 q599 q607 q608 q609 => (congrFun ef_100 b).trans ((up_ne (fun e9 => q607 (by rw [e9]; exact ka_51))).trans (hfr0 b q12 q589 q597 q598 q599 q607 q608 q609))
              have hrA12 : ∀ b, kd b = 12 → ∀ j, fldR (f_100 b) j = fldR (f b) j := fun b kb j => (congrArg (fun x => fldR x j) ((congrFun ef_100 b).trans (up_ne (kd_ne ka_51 kb (by decide))))).trans (hrA12 b kb j)
              have hfA12 : ∀ b, kd b = 12 → ∀ j, j ≠ 23 → j ≠ 43 → j ≠ 54 → fldI (f_100 b) j = fldI (f b) j := fun b kb j n23 n43 n54 => (congrArg (fun x => fldI x j) ((congrFun ef_100 b).trans (up_ne (kd_ne ka_51 kb (by decide))))).trans (hfA12 b kb j n23 n43 n54)
              have hfo_104 : f_100 a_51 = .inl (cI, 8, .inl (upd g_98 (Int32.toNatClampNeg p1) x_96)) := by rw [ef_100]; exact up_self
              refine lv_aload_n hx hb dX12_triesOrders_102 rfl (lv_at hl 1 rfl) ?_
              refine lv_iload_n hx hb dX12_triesOrders_103 rfl (lv_at hl 2 rfl) ?_
              refine lv_iconst (v := 1) hx hb dX12_triesOrders_104 (by decide) ?_
              refine lv_iadd hx hb dX12_triesOrders_105 ?_
              refine lv_topi (fun x_105 ex_105 => ?_)
              have hx_105 : x_105.toInt = p1.toInt + 1 := by rw [ex_105, ad_I (by rw [ti_1]; omega) (by rw [ti_1]; omega), ti_1]
              have bx_105 : (1 ≤ x_105.toInt ∧ x_105.toInt ≤ 8) := by constructor <;> omega
              refine lv_iload_n hx hb dX12_triesOrders_106 rfl (lv_at hl 3 rfl) ?_
              refine tk_VvP (As := [.int x_105, .int p2]) (rest := []) (n := 2) hx hb hml hown hU hN hZ (ih_rec f_100 hG o0 mo0 ko0 x_105 (by constructor <;> omega) p2 (by constructor <;> omega) (by intro w53 e53; rw [hfo_102] at e53; obtain rfl := Option.some.inj e53; omega) (fun b9 g9 h1 h2 => by rw [hfo_102] at h1; obtain rfl := Option.some.inj h1; rw [hfo_101] at h2; cases h2; omega) (by omega)) wd_1247 wd_1248 wd_1249 wd_5 wd_1250 (by decide +kernel) ⟨(show (7 + n_) + 1 ≤ 7 + (n_ + 1) by omega), (show 8 + (5 + 11) + (177 + n_ * 24) ≤ 177 + (n_ + 1) * 24 by omega)⟩ hK hP hD hS mo0 hfo_102 12 rfl rfl rfl hl.1 rfl (Nat.le_of_ble_eq_true rfl) dX12_triesOrders_107 ⟨Nat.le_of_ble_eq_true rfl, Nat.le_of_ble_eq_true rfl⟩ (fun f_107 H locs hw hP hD hS => ?_)
              obtain ⟨hG, hkc_108, hra_109, hfa_110⟩ := hw
              have hfo_112 : f_107 a_1 = .inl (cI, 1560, .inl g_60) := by rw [hkc_108 a_1 (by rw [ka_1]; decide) (by rw [ka_1]; decide) (by rw [ka_1]; decide) (by rw [ka_1]; decide) (by rw [ka_1]; decide) (by rw [ka_1]; decide) (by rw [ka_1]; decide) (by rw [ka_1]; decide)]; exact hfo_101
              have hfo_113 : f_107 a_50 = .inl (cI, 8, .inl g_95) := by rw [hkc_108 a_50 (by rw [ka_50]; decide) (by rw [ka_50]; decide) (by rw [ka_50]; decide) (by rw [ka_50]; decide) (by rw [ka_50]; decide) (by rw [ka_50]; decide) (by rw [ka_50]; decide) (by rw [ka_50]; decide)]; exact hfo_103
              have hfr0 : ∀ b, kd b ≠ 12 → kd b ≠ 589 → kd b ≠ 597 → kd b ≠ 598 → kd b ≠ 599 → kd b ≠ 607 → kd b ≠ 608 → kd b ≠ 609 → f_107 b = f b := fun b q12 q589 q597 q598 q599 q607 q608 q609 => (hkc_108 b q12 q589 q597 q598 q599 q607 q608 q609).trans (hfr0 b q12 q589 q597 q598 q599 q607 q608 q609)
              have hrA12 : ∀ b, kd b = 12 → ∀ j, fldR (f_107 b) j = fldR (f b) j := fun b kb j => (hra_109 b kb j).trans (hrA12 b kb j)
              have hfA12 : ∀ b, kd b = 12 → ∀ j, j ≠ 23 → j ≠ 43 → j ≠ 54 → fldI (f_107 b) j = fldI (f b) j := fun b kb j n23 n43 n54 => (hfa_110 b kb j n23 n43 n54).trans (hfA12 b kb j n23 n43 n54)
              obtain ⟨v_114, v_115, v_116, hfo_117, fa_118⟩ := op12_23_43_54 hfo_102 (hG _ mo0) ko0 (hra_109 o0 ko0) (hfa_110 o0 ko0)
              have bv_114 : (0 ≤ v_114.toInt ∧ v_114.toInt ≤ 12) := fa12_23 fa_118
              have bv_115 : (0 ≤ v_115.toInt ∧ v_115.toInt ≤ 8) := fa12_43 fa_118
              have bv_116 : ((-2147483648) ≤ v_116.toInt ∧ v_116.toInt ≤ 2147483647) := ⟨i32_lo _, i32_hi _⟩
              refine lv_aload_n hx hb dX12_triesOrders_110 rfl (lv_at hl 1 rfl) ?_
              refine tk_getP (D := (dC, dI)) (ci := 12) (v := .ref a_53) (C := RX12) (T := TX12) (N := 56) hx hb hU inlX12 hown hK hP mo0 hfo_117 rfl 52 (by decide) (hU _ wd_203) (fun _ h9 => h9) rfl dX12_triesOrders_111 ?_
              refine lv_iload_n hx hb dX12_triesOrders_114 rfl (lv_at hl 0 rfl) ?_
              refine lv_iconst (v := 0) hx hb dX12_triesOrders_115 (by decide) ?_
              obtain ⟨g_120, hfo_119, hbg_120⟩ := un_609 (hG _ ma_53) ka_53
              refine tk_zstP hx hb hK hP hD hS 2 ma_53 hfo_119 rfl (vp_in_iff.mpr (by constructor <;> omega)) (bt_n (by decide)) dX12_triesOrders_116 (fun H locs hP hD hS => ?_)
              obtain ⟨f_122, ef_122⟩ : ∃ y : Nat → va_E, y = va_up f_107 a_53 (.inl (cZ, 8, .inl (upd g_120 (Int32.toNatClampNeg y_70) 0))) := ⟨_, rfl⟩
              have hP : va_P (dC, dI) vwCl (va_pl L f_122) H := by rw [ef_122]; exact hP
              have hD : va_D (fun q => q ∈ L) (va_pl L f_122) := by rw [ef_122]; exact hD
              have hG : GI (okc cI cL cZ cR cG cH L kd) kd L f_122 := by rw [ef_122]; exact hG.set a_53 (mk_609 ka_53 ⟨_, rfl, okI_up hbg_120 (by decide) _⟩)
              have hfo_123 : f_122 a_1 = .inl (cI, 1560, .inl g_60) := by rw [ef_122, up_ne (kd_ne ka_53 ka_1 (by decide))]; exact hfo_112
              have hfo_124 : f_122 a_50 = .inl (cI, 8, .inl g_95) := by rw [ef_122, up_ne (kd_ne ka_53 ka_50 (by decide))]; exact hfo_113
              have hfo_125 : f_122 o0 = .inr (12, [.ref a_1, .ref a_2, .ref a_3, .int v_4, .ref a_5, .int v_6, .int v_7, .int v_8, .int v_9, .int v_10, .int v_11, .int v_12, .int v_13, .int v_14, .int v_15, .ref a_16, .ref a_17, .ref a_18, .ref a_19, .ref a_20, .ref a_21, .ref a_22, .ref a_23, .int v_114, .int v_25, .int v_26, .int v_27, .int v_28, .ref a_29, .int v_30, .ref a_31, .ref a_32, .int v_33, .int v_34, .ref a_35, .int v_36, .ref a_37, .ref a_38, .int v_39, .int v_40, .ref a_41, .ref a_42, .ref a_43, .int v_115, .ref a_45, .ref a_46, .ref a_47, .ref a_48, .ref a_49, .ref a_50, .ref a_51, .ref a_52, .ref a_53, .int v_54, .int v_116, .ref a_56]) := by rw [ef_122, up_ne (kd_ne ka_53 ko0 (by decide))]; exact hfo_117
              have hfr0 : ∀ b, kd b ≠ 12 → kd b ≠ 589 → kd b ≠ 597 → kd b ≠ 598 → kd b ≠ 599 → kd b ≠ 607 → kd b ≠ 608 → kd b ≠ 609 → f_122 b = f b := fun b q12 q589 q597 q598 q599 q607 q608 q609 => (congrFun ef_122 b).trans ((up_ne (fun e9 => q609 (by rw [e9]; exact ka_53))).trans (hfr0 b q12 q589 q597 q598 q599 q607 q608 q609))
              have hrA12 : ∀ b, kd b = 12 → ∀ j, fldR (f_122 b) j = fldR (f b) j := fun b kb j => (congrArg (fun x => fldR x j) ((congrFun ef_122 b).trans (up_ne (kd_ne ka_53 kb (by decide))))).trans (hrA12 b kb j)
              have hfA12 : ∀ b, kd b = 12 → ∀ j, j ≠ 23 → j ≠ 43 → j ≠ 54 → fldI (f_122 b) j = fldI (f b) j := fun b kb j n23 n43 n54 => (congrArg (fun x => fldI x j) ((congrFun ef_122 b).trans (up_ne (kd_ne ka_53 kb (by decide))))).trans (hfA12 b kb j n23 n43 n54)
              have hfo_126 : f_122 a_53 = .inl (cZ, 8, .inl (upd g_120 (Int32.toNatClampNeg y_70) 0)) := by rw [ef_122]; exact up_self
              exact hcut_86 f_122 hG _ _ hP hS hD hfr0 hrA12 hfA12 hfo_123 ls (lv_sub hl [0, 1, 2, 3] rfl)
            · skip
              rw [← Int32.toInt_inj, ti_0] at c_88
              refine lv_goto (tgt := 117) hx hb dX12_triesOrders_80 (by decide) ?_
              exact hcut_86 f_72 hG _ _ hP hS hD hfr0 hrA12 hfA12 hfo_73 ls (lv_sub hl [0, 1, 2, 3] rfl)
      exact hloop_69 9 0 (by decide) f hG _ _ hP hS hD hfr0 hrA12 hfA12 hfo_59 (by (try rw [ti_0]) <;> omega) ls hl
    · skip
      rw [← Int32.toInt_inj] at c_61
      refine lv_aload_n hx hb dX12_triesOrders_8 rfl (lv_at hl 0 rfl) ?_
      refine lv_iload_n hx hb dX12_triesOrders_9 rfl (lv_at hl 2 rfl) ?_
      refine tk_ViP (As := [.int p2]) (rest := []) (n := 1) hx hb hml hown hU hN hZ (s_X12_agreeing_k12 l (dC, dI) cI cL cZ cR cG cH Z kd L f hG o0 mo0 ko0 p2 (by constructor <;> omega) (fun b9 g9 h1 h2 => by rw [hfo_57] at h1; obtain rfl := Option.some.inj h1; rw [hfo_59] at h2; cases h2; omega)) wd_1251 wd_1252 wd_1253 wd_5 wd_1254 (by decide +kernel) ⟨(show 6 + 1 ≤ 7 + (n_ + 1) by omega), (show 8 + (6 + 11) + 152 ≤ 177 + (n_ + 1) * 24 by omega)⟩ hK hP hD hS mo0 hfo_57 12 rfl rfl rfl hl.1 rfl (Nat.le_of_ble_eq_true rfl) dX12_triesOrders_10 ⟨Nat.le_of_ble_eq_true rfl, Nat.le_of_ble_eq_true rfl⟩ (fun x_127 f_128 H locs hw hP hD hS => ?_)
      obtain ⟨hG, bx_127, hkc_129, hra_130, hfa_131⟩ := hw
      have hfo_133 : f_128 a_1 = .inl (cI, 1560, .inl g_60) := by rw [hkc_129 a_1 (by rw [ka_1]; decide) (by rw [ka_1]; decide) (by rw [ka_1]; decide) (by rw [ka_1]; decide) (by rw [ka_1]; decide)]; exact hfo_59
      have hfr0 : ∀ b, kd b ≠ 12 → kd b ≠ 589 → kd b ≠ 597 → kd b ≠ 598 → kd b ≠ 599 → kd b ≠ 607 → kd b ≠ 608 → kd b ≠ 609 → f_128 b = f b := fun b q12 q589 q597 q598 q599 q607 q608 q609 => (hkc_129 b q12 q589 q597 q598 q599).trans (hfr0 b q12 q589 q597 q598 q599 q607 q608 q609)
      have hrA12 : ∀ b, kd b = 12 → ∀ j, fldR (f_128 b) j = fldR (f b) j := fun b kb j => (hra_130 b kb j).trans (hrA12 b kb j)
      have hfA12 : ∀ b, kd b = 12 → ∀ j, j ≠ 23 → j ≠ 43 → j ≠ 54 → fldI (f_128 b) j = fldI (f b) j := fun b kb j n23 n43 n54 => (hfa_131 b kb j n23 n43).trans (hfA12 b kb j n23 n43 n54)
      obtain ⟨v_134, v_135, hfo_136, fa_137⟩ := op12_23_43 hfo_57 (hG _ mo0) ko0 (hra_130 o0 ko0) (hfa_131 o0 ko0)
      have bv_134 : (0 ≤ v_134.toInt ∧ v_134.toInt ≤ 12) := fa12_23 fa_137
      have bv_135 : (0 ≤ v_135.toInt ∧ v_135.toInt ≤ 8) := fa12_43 fa_137
      refine lv_istore_n (lv' := [(3, .int x_127), (0, .ref o0), (1, .int p1), (2, .int p2)]) hx hb dX12_triesOrders_13 rfl hl (by decide) rfl (fun ls hl => ?_)
      refine lv_iload_n hx hb dX12_triesOrders_14 rfl (lv_at hl 0 rfl) ?_
      refine lv_aload_n hx hb dX12_triesOrders_15 rfl (lv_at hl 1 rfl) ?_
      refine tk_getP (D := (dC, dI)) (ci := 12) (v := .int v_55) (C := RX12) (T := TX12) (N := 56) hx hb hU inlX12 hown hK hP mo0 hfo_136 rfl 54 (by decide) (hU _ wd_1242) (fun _ h9 => h9) rfl dX12_triesOrders_16 ?_
      refine lv_icmp_gt (tgt := 23) hx hb dX12_triesOrders_19 (by decide) (fun c_138 => ?_) (fun c_138 => ?_)
      · skip
        rw [Int32.lt_iff_toInt_lt] at c_138
        refine lv_aload_n hx hb dX12_triesOrders_23 rfl (lv_at hl 1 rfl) ?_
        refine lv_iload_n hx hb dX12_triesOrders_24 rfl (lv_at hl 0 rfl) ?_
        refine tk_putP (D := (dC, dI)) (ci := 12) (v := .int x_127) (ty := .int) (C := RX12) (T := TX12) (N := 56) hx hb hU inlX12 tyX12 tyX12_ok nmX12 hown hK hP hD hS mo0 hfo_136 rfl 54 (by decide) (hU _ wd_1242) (fun _ h9 => h9) rfl (by decide +kernel) rfl rfl (Nat.le_of_ble_eq_true rfl) dX12_triesOrders_25 (fun H locs hP hD hS => ?_)
        have fa_139 := fu12_54 (y := x_127) fa_137
        obtain ⟨f_141, ef_141⟩ : ∃ y : Nat → va_E, y = va_up f_128 o0 (.inr (12, [.ref a_1, .ref a_2, .ref a_3, .int v_4, .ref a_5, .int v_6, .int v_7, .int v_8, .int v_9, .int v_10, .int v_11, .int v_12, .int v_13, .int v_14, .int v_15, .ref a_16, .ref a_17, .ref a_18, .ref a_19, .ref a_20, .ref a_21, .ref a_22, .ref a_23, .int v_134, .int v_25, .int v_26, .int v_27, .int v_28, .ref a_29, .int v_30, .ref a_31, .ref a_32, .int v_33, .int v_34, .ref a_35, .int v_36, .ref a_37, .ref a_38, .int v_39, .int v_40, .ref a_41, .ref a_42, .ref a_43, .int v_135, .ref a_45, .ref a_46, .ref a_47, .ref a_48, .ref a_49, .ref a_50, .ref a_51, .ref a_52, .ref a_53, .int v_54, .int x_127, .ref a_56])) := ⟨_, rfl⟩
        have hP : va_P (dC, dI) vwCl (va_pl L f_141) H := by rw [ef_141]; exact hP
        have hD : va_D (fun q => q ∈ L) (va_pl L f_141) := by rw [ef_141]; exact hD
        have hG : GI (okc cI cL cZ cR cG cH L kd) kd L f_141 := by rw [ef_141]; exact hG.set o0 (mk_12 ko0 (fo12 fa_139))
        have hfo_142 : f_141 a_1 = .inl (cI, 1560, .inl g_60) := by rw [ef_141, up_ne (kd_ne ko0 ka_1 (by decide))]; exact hfo_133
        have hfr0 : ∀ b, kd b ≠ 12 → kd b ≠ 589 → kd b ≠ 597 → kd b ≠ 598 → kd b ≠ 599 → kd b ≠ 607 → kd b ≠ 608 → kd b ≠ 609 → f_141 b = f b := fun b q12 q589 q597 q598 q599 q607 q608 q609 => (congrFun ef_141 b).trans ((up_ne (fun e9 => q12 (by rw [e9]; exact ko0))).trans (hfr0 b q12 q589 q597 q598 q599 q607 q608 q609))
        have hrA12 : ∀ b, kd b = 12 → ∀ j, fldR (f_141 b) j = fldR (f b) j := fun b kb j => ((congrArg (fun x => fldR x j) (congrFun ef_141 b)).trans (fra_up (fun j => by rw [hfo_136]; exact fr_set (k := 54) rfl rfl) j b)).trans (hrA12 b kb j)
        have hfA12 : ∀ b, kd b = 12 → ∀ j, j ≠ 23 → j ≠ 43 → j ≠ 54 → fldI (f_141 b) j = fldI (f b) j := fun b kb j n23 n43 n54 => ((congrArg (fun x => fldI x j) (congrFun ef_141 b)).trans (fia_up (fun h9 => by rw [hfo_136]; exact fi_set (k := 54) rfl h9) n54 b)).trans (hfA12 b kb j n23 n43 n54)
        have hfo_143 : f_141 o0 = .inr (12, [.ref a_1, .ref a_2, .ref a_3, .int v_4, .ref a_5, .int v_6, .int v_7, .int v_8, .int v_9, .int v_10, .int v_11, .int v_12, .int v_13, .int v_14, .int v_15, .ref a_16, .ref a_17, .ref a_18, .ref a_19, .ref a_20, .ref a_21, .ref a_22, .ref a_23, .int v_134, .int v_25, .int v_26, .int v_27, .int v_28, .ref a_29, .int v_30, .ref a_31, .ref a_32, .int v_33, .int v_34, .ref a_35, .int v_36, .ref a_37, .ref a_38, .int v_39, .int v_40, .ref a_41, .ref a_42, .ref a_43, .int v_135, .ref a_45, .ref a_46, .ref a_47, .ref a_48, .ref a_49, .ref a_50, .ref a_51, .ref a_52, .ref a_53, .int v_54, .int x_127, .ref a_56]) := by rw [ef_141]; exact up_self
        refine lv_iconst (v := 0) hx hb dX12_triesOrders_28 (by decide) ?_
        refine lv_istore (lv' := [(4, .int 0), (3, .int x_127), (0, .ref o0), (1, .int p1), (2, .int p2)]) hx hb dX12_triesOrders_29 hl (by decide) rfl (fun ls hl => ?_)
        have hloop_150 : ∀ (n : Nat), ∀ (y_151 : Int32), (0 ≤ y_151.toInt ∧ y_151.toInt ≤ 8) → ∀ (f_153 : Nat → va_E), GI (okc cI cL cZ cR cG cH L kd) kd L f_153 → ∀ (H : Heap) (locs : List Loc), va_P (dC, dI) vwCl (va_pl L f_153) H → va_S (fun q => q ∈ L) s.heap H locs → va_D (fun q => q ∈ L) (va_pl L f_153) → (∀ b, kd b ≠ 12 → kd b ≠ 589 → kd b ≠ 597 → kd b ≠ 598 → kd b ≠ 599 → kd b ≠ 607 → kd b ≠ 608 → kd b ≠ 609 → f_153 b = f b) → (∀ b, kd b = 12 → ∀ j, fldR (f_153 b) j = fldR (f b) j) → (∀ b, kd b = 12 → ∀ j, j ≠ 23 → j ≠ 43 → j ≠ 54 → fldI (f_153 b) j = fldI (f b) j) → (f_153 a_1 = .inl (cI, 1560, .inl g_60)) → (f_153 o0 = .inr (12, [.ref a_1, .ref a_2, .ref a_3, .int v_4, .ref a_5, .int v_6, .int v_7, .int v_8, .int v_9, .int v_10, .int v_11, .int v_12, .int v_13, .int v_14, .int v_15, .ref a_16, .ref a_17, .ref a_18, .ref a_19, .ref a_20, .ref a_21, .ref a_22, .ref a_23, .int v_134, .int v_25, .int v_26, .int v_27, .int v_28, .ref a_29, .int v_30, .ref a_31, .ref a_32, .int v_33, .int v_34, .ref a_35, .int v_36, .ref a_37, .ref a_38, .int v_39, .int v_40, .ref a_41, .ref a_42, .ref a_43, .int v_135, .ref a_45, .ref a_46, .ref a_47, .ref a_48, .ref a_49, .ref a_50, .ref a_51, .ref a_52, .ref a_53, .int v_54, .int x_127, .ref a_56])) → 8 - y_151.toInt < (n : Int) → ∀ (ls : Array Slot), lv_has ls 5 [(4, .int y_151), (3, .int x_127), (0, .ref o0), (1, .int p1), (2, .int p2)] → W p l e (headSpec (wU yX12_triesOrders cX12_triesOrders 5 none) { frames := 7 + (n_ + 1), cells := 0, slots := 0, locals := 177 + (n_ + 1) * 24 }).room s m [.ref o0, .int p1, .int p2].toArray below meth c H locs 0 0 (MQ below (va_Qv (fun (f9 : Nat → va_E) => GI (okc cI cL cZ cR cG cH L kd) kd L f9 ∧ (∀ b, kd b ≠ 12 → kd b ≠ 589 → kd b ≠ 597 → kd b ≠ 598 → kd b ≠ 599 → kd b ≠ 607 → kd b ≠ 608 → kd b ≠ 609 → f9 b = f b) ∧ (∀ b, kd b = 12 → ∀ j, fldR (f9 b) j = fldR (f b) j) ∧ (∀ b, kd b = 12 → ∀ j, j ≠ 23 → j ≠ 43 → j ≠ 54 → fldI (f9 b) j = fldI (f b) j)) (qP (dC, dI) cI cL cZ cR cG cH L) (fun q => q ∈ L)) [.ref o0, .int p1, .int p2].toArray s 0 0 (fun q => q ∈ L)) (F0 m 31 ls []) := by
          intro n
          induction n with
          | zero => intro y_151 by_151 f_153 hG H locs hP hS hD hfr0 hrA12 hfA12 hfo_154 hfo_155 hmuhloop_150 ls hl; exfalso; omega
          | succ n ih_hloop_150 =>
            intro y_151 by_151 f_153 hG H locs hP hS hD hfr0 hrA12 hfA12 hfo_154 hfo_155 hmuhloop_150 ls hl
            refine lv_iload hx hb dX12_triesOrders_31 (lv_at hl 0 rfl) ?_
            refine lv_aload_n hx hb dX12_triesOrders_33 rfl (lv_at hl 2 rfl) ?_
            refine tk_getP (D := (dC, dI)) (ci := 12) (v := .int v_54) (C := RX12) (T := TX12) (N := 56) hx hb hU inlX12 hown hK hP mo0 hfo_155 rfl 53 (by decide) (hU _ wd_1241) (fun _ h9 => h9) rfl dX12_triesOrders_34 ?_
            refine lv_icmp_ge (tgt := 60) hx hb dX12_triesOrders_37 (by decide) (fun c_156 => ?_) (fun c_156 => ?_)
            · skip
              rw [Int32.le_iff_toInt_le] at c_156
              exact W.vret hx hb hr (fun t ht hW => ⟨⟨f_153, rfl, ⟨hG, hfr0, hrA12, hfA12⟩, by rw [ht]; exact hP, va_K.moved hW.alike hK, pl_in hD⟩, hS.F ht⟩) hS.2.2 dX12_triesOrders_60
            · skip
              rw [Int32.le_iff_toInt_le] at c_156
              refine lv_aload_n hx hb dX12_triesOrders_40 rfl (lv_at hl 2 rfl) ?_
              refine tk_getP (D := (dC, dI)) (ci := 12) (v := .ref a_52) (C := RX12) (T := TX12) (N := 56) hx hb hU inlX12 hown hK hP mo0 hfo_155 rfl 51 (by decide) (hU _ wd_202) (fun _ h9 => h9) rfl dX12_triesOrders_41 ?_
              refine lv_iload hx hb dX12_triesOrders_44 (lv_at hl 0 rfl) ?_
              refine lv_aload_n hx hb dX12_triesOrders_46 rfl (lv_at hl 2 rfl) ?_
              refine tk_getP (D := (dC, dI)) (ci := 12) (v := .ref a_51) (C := RX12) (T := TX12) (N := 56) hx hb hU inlX12 hown hK hP mo0 hfo_155 rfl 50 (by decide) (hU _ wd_201) (fun _ h9 => h9) rfl dX12_triesOrders_47 ?_
              refine lv_iload hx hb dX12_triesOrders_50 (lv_at hl 0 rfl) ?_
              obtain ⟨g_158, hfo_157, hbg_158⟩ := un_607 (hG _ ma_51) ka_51
              refine tk_ildP hx hb hK hP 0 ma_51 hfo_157 rfl (vp_in_iff.mpr (by constructor <;> omega)) dX12_triesOrders_52 ?_
              refine lv_topi (fun x_159 ex_159 => ?_)
              have bx_159 : (0 ≤ x_159.toInt ∧ x_159.toInt ≤ 7) := by rw [ex_159]; exact hbg_158 _
              obtain ⟨g_161, hfo_160, hbg_161⟩ := un_608 (hG _ ma_52) ka_52
              refine tk_istP hx hb hK hP hD hS 0 ma_52 hfo_160 rfl (vp_in_iff.mpr (by constructor <;> omega)) dX12_triesOrders_53 (fun H locs hP hD hS => ?_)
              obtain ⟨f_163, ef_163⟩ : ∃ y : Nat → va_E, y = va_up f_153 a_52 (.inl (cI, 8, .inl (upd g_161 (Int32.toNatClampNeg y_151) x_159))) := ⟨_, rfl⟩
              have hP : va_P (dC, dI) vwCl (va_pl L f_163) H := by rw [ef_163]; exact hP
              have hD : va_D (fun q => q ∈ L) (va_pl L f_163) := by rw [ef_163]; exact hD
              have hG : GI (okc cI cL cZ cR cG cH L kd) kd L f_163 := by rw [ef_163]; exact hG.set a_52 (mk_608 ka_52 ⟨_, rfl, okI_up hbg_161 (by constructor <;> omega) _⟩)
              have hfo_164 : f_163 a_1 = .inl (cI, 1560, .inl g_60) := by rw [ef_163, up_ne (kd_ne ka_52 ka_1 (by decide))]; exact hfo_154
              have hfo_165 : f_163 o0 = .inr (12, [.ref a_1, .ref a_2, .ref a_3, .int v_4, .ref a_5, .int v_6, .int v_7, .int v_8, .int v_9, .int v_10, .int v_11, .int v_12, .int v_13, .int v_14, .int v_15, .ref a_16, .ref a_17, .ref a_18, .ref a_19, .ref a_20, .ref a_21, .ref a_22, .ref a_23, .int v_134, .int v_25, .int v_26, .int v_27, .int v_28, .ref a_29, .int v_30, .ref a_31, .ref a_32, .int v_33, .int v_34, .ref a_35, .int v_36, .ref a_37, .ref a_38, .int v_39, .int v_40, .ref a_41, .ref a_42, .ref a_43, .int v_135, .ref a_45, .ref a_46, .ref a_47, .ref a_48, .ref a_49, .ref a_50, .ref a_51, .ref a_52, .ref a_53, .int v_54, .int x_127, .ref a_56]) := by rw [ef_163, up_ne (kd_ne ka_52 ko0 (by decide))]; exact hfo_155
              have hfo_166 : f_163 a_51 = .inl (cI, 8, .inl g_158) := by rw [ef_163, up_ne (kd_ne ka_52 ka_51 (by decide))]; exact hfo_157
              have hfr0 : ∀ b, kd b ≠ 12 → kd b ≠ 589 → kd b ≠ 597 → kd b ≠ 598 → kd b ≠ 599 → kd b ≠ 607 → kd b ≠ 608 → kd b ≠ 609 → f_163 b = f b := fun b q12 q589 q597 q598 q599 q607 q608 q609 => (congrFun ef_163 b).trans ((up_ne (fun e9 => q608 (by rw [e9]; exact ka_52))).trans (hfr0 b q12 q589 q597 q598 q599 q607 q608 q609))
              have hrA12 : ∀ b, kd b = 12 → ∀ j, fldR (f_163 b) j = fldR (f b) j := fun b kb j => (congrArg (fun x => fldR x j) ((congrFun ef_163 b).trans (up_ne (kd_ne ka_52 kb (by decide))))).trans (hrA12 b kb j)
              have hfA12 : ∀ b, kd b = 12 → ∀ j, j ≠ 23 → j ≠ 43 → j ≠ 54 → fldI (f_163 b) j = fldI (f b) j := fun b kb j n23 n43 n54 => (congrArg (fun x => fldI x j) ((congrFun ef_163 b).trans (up_ne (kd_ne ka_52 kb (by decide))))).trans (hfA12 b kb j n23 n43 n54)
              have hfo_167 : f_163 a_52 = .inl (cI, 8, .inl (upd g_161 (Int32.toNatClampNeg y_151) x_159)) := by rw [ef_163]; exact up_self
              obtain ⟨x_168, ex_168⟩ : ∃ y : Int32, y_151 + 1 = y := ⟨_, rfl⟩
              have hx_168 : x_168.toInt = y_151.toInt + 1 := by rw [← ex_168, ad_I (by rw [ti_1]; omega) (by rw [ti_1]; omega), ti_1]
              have bx_168 : (1 ≤ x_168.toInt ∧ x_168.toInt ≤ 8) := by constructor <;> omega
              refine lv_iinc (v := x_168) (lv' := [(4, .int x_168), (3, .int x_127), (0, .ref o0), (1, .int p1), (2, .int p2)]) hx hb dX12_triesOrders_54 hl (k := 0) rfl ex_168 (by decide) rfl (fun ls hl => ?_)
              refine lv_goto (tgt := 31) hx hb dX12_triesOrders_57 (by decide) ?_
              exact ih_hloop_150 x_168 (by constructor <;> omega) f_163 hG _ _ hP hS hD hfr0 hrA12 hfA12 hfo_164 hfo_165 (by omega) ls (lv_sub hl [0, 1, 2, 3, 4] rfl)
        exact hloop_150 9 0 (by decide) f_141 hG _ _ hP hS hD hfr0 hrA12 hfA12 hfo_142 hfo_143 (by (try rw [ti_0]) <;> omega) ls hl
      · skip
        rw [Int32.lt_iff_toInt_lt] at c_138
        exact W.vret hx hb hr (fun t ht hW => ⟨⟨f_128, rfl, ⟨hG, hfr0, hrA12, hfA12⟩, by rw [ht]; exact hP, va_K.moved hW.alike hK, pl_in hD⟩, hS.F ht⟩) hS.2.2 dX12_triesOrders_22
