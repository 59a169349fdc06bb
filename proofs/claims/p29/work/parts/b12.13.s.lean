set_option maxHeartbeats 8000000 in
set_option maxRecDepth 100000 in
theorem s_X12_walk_k12 (l : Launch) (D : va_G) (cI cL cZ cR cG cH : ClassId) (Z : zT) (kd : Nat → Nat) (L : List Nat) (f : Nat → va_E) (hG : GI (okc cI cL cZ cR cG cH L kd) kd L f) (o0 : Nat) (mo0 : o0 ∈ L) (ko0 : kd o0 = 12) : mPI l D cI cL cZ cR cG cH Z yX12_walk cX12_walk 4 (some .int) 6 157 [.ref o0] L f (fun (r : Int32) (f9 : Nat → va_E) => GI (okc cI cL cZ cR cG cH L kd) kd L f9 ∧ ((-2147483648) ≤ r.toInt ∧ r.toInt ≤ 2147483647) ∧ (∀ b, kd b ≠ 12 → kd b ≠ 588 → f9 b = f b) ∧ (∀ b, kd b = 12 → ∀ j, fldR (f9 b) j = fldR (f b) j) ∧ (∀ b, kd b = 12 → ∀ j, j ≠ 5 → j ≠ 39 → fldI (f9 b) j = fldI (f b) j) ∧ (∀ (w5 z5 : Int32), fldI (f o0) 5 = some w5 → fldI (f9 o0) 5 = some z5 → z5.toInt = 0)) := by
  obtain ⟨dC, dI⟩ := D
  refine Met.ofW (cc := cX12_walk) (maxL := 4) (ret := (some .int)) (by decide) rfl ?_
  intro p e s m args below meth c s₁ B hml hv
  obtain ⟨rfl, hP, hK, hD0, hN, hZ⟩ := hv
  have hx := B.exec
  have hb := B.bytes
  have hr := B.returns
  have hU : ∀ w ∈ wsU, w.before _ s = true := fun w h => atoms_spec (ws := wU yX12_walk cX12_walk 4 (some .int)) B.pre w (List.mem_cons_of_mem _ h)
  have hown : s.vm.findClass RX12 = some m.cls := findClass_of_methodNamed B.named
  have hlocks := B.notSynchronized
  have hD := pl_in hD0
  have hS : va_S (fun q => q ∈ L) s.heap s.heap [] := va_S.rf
  have hl := lv_entry ([.ref o0]) (n := 4) (Nat.le_of_ble_eq_true rfl)
  rw [lg_entry_eq]
  generalize (lg_sl ([.ref o0]) ++ List.replicate (4 - (lg_sl ([.ref o0])).length) Slot.unset).toArray = ls at hl ⊢
  have hl : lv_has ls 4 [(0, .ref o0)] := hl
  have hfr0 : ∀ b, kd b ≠ 12 → kd b ≠ 588 → f b = f b := fun _ _ _ => rfl
  have hrA12 : ∀ b, kd b = 12 → ∀ j, fldR (f b) j = fldR (f b) j := fun _ _ _ => rfl
  have hfA12 : ∀ b, kd b = 12 → ∀ j, j ≠ 5 → j ≠ 39 → fldI (f b) j = fldI (f b) j := fun _ _ _ _ _ => rfl
  obtain ⟨a_1, a_2, a_3, v_4, a_5, v_6, v_7, v_8, v_9, v_10, v_11, v_12, v_13, v_14, v_15, a_16, a_17, a_18, a_19, a_20, a_21, a_22, a_23, v_24, v_25, v_26, v_27, v_28, a_29, v_30, a_31, a_32, v_33, v_34, a_35, v_36, a_37, a_38, v_39, v_40, a_41, a_42, a_43, v_44, a_45, a_46, a_47, a_48, a_49, a_50, a_51, a_52, a_53, v_54, v_55, a_56, hfo_57, fa_58⟩ := un12 (hG _ mo0) ko0
  obtain ⟨ma_1, ka_1⟩ := fa12_0 fa_58
  have bv_6 : (0 ≤ v_6.toInt ∧ v_6.toInt ≤ 600) := fa12_5 fa_58
  obtain ⟨ma_21, ka_21⟩ := fa12_20 fa_58
  refine lv_aload_n hx hb dX12_walk_0 rfl (lv_at hl 0 rfl) ?_
  refine lv_iconst (v := (-1)) hx hb dX12_walk_1 (by decide) ?_
  refine tk_putP (D := (dC, dI)) (ci := 12) (v := .int (-1)) (ty := .int) (C := RX12) (T := TX12) (N := 56) hx hb hU inlX12 tyX12 tyX12_ok nmX12 hown hK hP hD hS mo0 hfo_57 rfl 39 (by decide) (hU _ wd_189) (fun _ h9 => h9) rfl (by decide +kernel) rfl rfl (Nat.le_of_ble_eq_true rfl) dX12_walk_2 (fun H locs hP hD hS => ?_)
  have fa_59 := fu12_39 (y := (-1)) fa_58
  obtain ⟨f_61, ef_61⟩ : ∃ y : Nat → va_E, y = va_up f o0 (.inr (12, [.ref a_1, .ref a_2, .ref a_3, .int v_4, .ref a_5, .int v_6, .int v_7, .int v_8, .int v_9, .int v_10, .int v_11, .int v_12, .int v_13, .int v_14, .int v_15, .ref a_16, .ref a_17, .ref a_18, .ref a_19, .ref a_20, .ref a_21, .ref a_22, .ref a_23, .int v_24, .int v_25, .int v_26, .int v_27, .int v_28, .ref a_29, .int v_30, .ref a_31, .ref a_32, .int v_33, .int v_34, .ref a_35, .int v_36, .ref a_37, .ref a_38, .int v_39, .int (-1), .ref a_41, .ref a_42, .ref a_43, .int v_44, .ref a_45, .ref a_46, .ref a_47, .ref a_48, .ref a_49, .ref a_50, .ref a_51, .ref a_52, .ref a_53, .int v_54, .int v_55, .ref a_56])) := ⟨_, rfl⟩
  have hP : va_P (dC, dI) vwCl (va_pl L f_61) H := by rw [ef_61]; exact hP
  have hD : va_D (fun q => q ∈ L) (va_pl L f_61) := by rw [ef_61]; exact hD
  have hG : GI (okc cI cL cZ cR cG cH L kd) kd L f_61 := by rw [ef_61]; exact hG.set o0 (mk_12 ko0 (fo12 fa_59))
  have hfr0 : ∀ b, kd b ≠ 12 → kd b ≠ 588 → f_61 b = f b := fun b q12 q588 => (congrFun ef_61 b).trans ((up_ne (fun e9 => q12 (by rw [e9]; exact ko0))).trans (hfr0 b q12 q588))
  have hrA12 : ∀ b, kd b = 12 → ∀ j, fldR (f_61 b) j = fldR (f b) j := fun b kb j => ((congrArg (fun x => fldR x j) (congrFun ef_61 b)).trans (fra_up (fun j => by rw [hfo_57]; exact fr_set (k := 39) rfl rfl) j b)).trans (hrA12 b kb j)
  have hfA12 : ∀ b, kd b = 12 → ∀ j, j ≠ 5 → j ≠ 39 → fldI (f_61 b) j = fldI (f b) j := fun b kb j n5 n39 => ((congrArg (fun x => fldI x j) (congrFun ef_61 b)).trans (fia_up (fun h9 => by rw [hfo_57]; exact fi_set (k := 39) rfl h9) n39 b)).trans (hfA12 b kb j n5 n39)
  have hfo_62 : f_61 o0 = .inr (12, [.ref a_1, .ref a_2, .ref a_3, .int v_4, .ref a_5, .int v_6, .int v_7, .int v_8, .int v_9, .int v_10, .int v_11, .int v_12, .int v_13, .int v_14, .int v_15, .ref a_16, .ref a_17, .ref a_18, .ref a_19, .ref a_20, .ref a_21, .ref a_22, .ref a_23, .int v_24, .int v_25, .int v_26, .int v_27, .int v_28, .ref a_29, .int v_30, .ref a_31, .ref a_32, .int v_33, .int v_34, .ref a_35, .int v_36, .ref a_37, .ref a_38, .int v_39, .int (-1), .ref a_41, .ref a_42, .ref a_43, .int v_44, .ref a_45, .ref a_46, .ref a_47, .ref a_48, .ref a_49, .ref a_50, .ref a_51, .ref a_52, .ref a_53, .int v_54, .int v_55, .ref a_56]) := by rw [ef_61]; exact up_self
  refine lv_aload_n hx hb dX12_walk_5 rfl (lv_at hl 0 rfl) ?_
  refine tk_ViP (As := []) (rest := []) (n := 0) hx hb hml hown hU hN hZ (s_X12_takesRow_k12 l (dC, dI) cI cL cZ cR cG cH Z kd L f_61 hG o0 mo0 ko0) wd_1085 wd_1086 wd_1087 wd_5 wd_1088 (by decide +kernel) ⟨Nat.le_of_ble_eq_true rfl, Nat.le_of_ble_eq_true rfl⟩ hK hP hD hS mo0 hfo_62 12 rfl rfl rfl hl.1 rfl (Nat.le_of_ble_eq_true rfl) dX12_walk_6 ⟨Nat.le_of_ble_eq_true rfl, Nat.le_of_ble_eq_true rfl⟩ (fun x_63 f_64 H locs hw hP hD hS => ?_)
  obtain ⟨hG, bx_63, hkc_65, hra_66, hfa_67, hpost_68⟩ := hw
  have hfr0 : ∀ b, kd b ≠ 12 → kd b ≠ 588 → f_64 b = f b := fun b q12 q588 => (hkc_65 b q12 q588).trans (hfr0 b q12 q588)
  have hrA12 : ∀ b, kd b = 12 → ∀ j, fldR (f_64 b) j = fldR (f b) j := fun b kb j => (hra_66 b kb j).trans (hrA12 b kb j)
  have hfA12 : ∀ b, kd b = 12 → ∀ j, j ≠ 5 → j ≠ 39 → fldI (f_64 b) j = fldI (f b) j := fun b kb j n5 n39 => (hfa_67 b kb j n5).trans (hfA12 b kb j n5 n39)
  obtain ⟨v_70, hfo_71, fa_72⟩ := op12_5 hfo_62 (hG _ mo0) ko0 (hra_66 o0 ko0) (hfa_67 o0 ko0)
  have bv_70 : (0 ≤ v_70.toInt ∧ v_70.toInt ≤ 600) := fa12_5 fa_72
  have hqhpost_68 := hpost_68 v_6 v_70 (by rw [hfo_62]; rfl) (by rw [hfo_71]; rfl)
  refine lv_istore_n (lv' := [(1, .int x_63), (0, .ref o0)]) hx hb dX12_walk_9 rfl hl (by decide) rfl (fun ls hl => ?_)
  refine lv_iload_n hx hb dX12_walk_10 rfl (lv_at hl 0 rfl) ?_
  refine lv_iconst (v := (-1)) hx hb dX12_walk_11 (by decide) ?_
  refine lv_icmp_ne (tgt := 18) hx hb dX12_walk_12 (by decide) (fun c_73 => ?_) (fun c_73 => ?_)
  · skip
    rw [← Int32.toInt_inj, ti_m1] at c_73
    refine lv_iconst (v := 0) hx hb dX12_walk_18 (by decide) ?_
    refine lv_istore_n (lv' := [(2, .int 0), (1, .int x_63), (0, .ref o0)]) hx hb dX12_walk_19 rfl hl (by decide) rfl (fun ls hl => ?_)
    have hloop_95 : ∀ (n : Nat), ∀ (y_96 : Int32), (0 ≤ y_96.toInt ∧ y_96.toInt ≤ 8) → ∀ (f_98 : Nat → va_E), GI (okc cI cL cZ cR cG cH L kd) kd L f_98 → ∀ (H : Heap) (locs : List Loc), va_P (dC, dI) vwCl (va_pl L f_98) H → va_S (fun q => q ∈ L) s.heap H locs → va_D (fun q => q ∈ L) (va_pl L f_98) → (∀ b, kd b ≠ 12 → kd b ≠ 588 → f_98 b = f b) → (∀ b, kd b = 12 → ∀ j, fldR (f_98 b) j = fldR (f b) j) → (∀ b, kd b = 12 → ∀ j, j ≠ 5 → j ≠ 39 → fldI (f_98 b) j = fldI (f b) j) → ∀ (whloop_95_0_5 : Int32), fldI (f_98 o0) 5 = some whloop_95_0_5 → (whloop_95_0_5.toInt = 0) → (0 ≤ whloop_95_0_5.toInt ∧ whloop_95_0_5.toInt ≤ 600) → 8 - y_96.toInt < (n : Int) → ∀ (ls : Array Slot), lv_has ls 4 [(2, .int y_96), (1, .int x_63), (0, .ref o0)] → W p l e (headSpec (wU yX12_walk cX12_walk 4 (some .int)) { frames := 6, cells := 0, slots := 0, locals := 157 }).room s m [.ref o0].toArray below meth c H locs 0 0 (MQ below (va_Qi (fun (r : Int32) (f9 : Nat → va_E) => GI (okc cI cL cZ cR cG cH L kd) kd L f9 ∧ ((-2147483648) ≤ r.toInt ∧ r.toInt ≤ 2147483647) ∧ (∀ b, kd b ≠ 12 → kd b ≠ 588 → f9 b = f b) ∧ (∀ b, kd b = 12 → ∀ j, fldR (f9 b) j = fldR (f b) j) ∧ (∀ b, kd b = 12 → ∀ j, j ≠ 5 → j ≠ 39 → fldI (f9 b) j = fldI (f b) j) ∧ (∀ (w5 z5 : Int32), fldI (f o0) 5 = some w5 → fldI (f9 o0) 5 = some z5 → z5.toInt = 0)) (qP (dC, dI) cI cL cZ cR cG cH L) (fun q => q ∈ L)) [.ref o0].toArray s 0 0 (fun q => q ∈ L)) (F0 m 20 ls []) := by
      intro n
      induction n with
      | zero => intro y_96 by_96 f_98 hG H locs hP hS hD hfr0 hrA12 hfA12 whloop_95_0_5 hghloop_95_0_5 hrelhloop_95_0 hrelhloop_95_1 hmuhloop_95 ls hl; exfalso; omega
      | succ n ih_hloop_95 =>
        intro y_96 by_96 f_98 hG H locs hP hS hD hfr0 hrA12 hfA12 whloop_95_0_5 hghloop_95_0_5 hrelhloop_95_0 hrelhloop_95_1 hmuhloop_95 ls hl
        obtain ⟨v_99, v_100, hfo_101, fa_102⟩ := op12_5_39 hfo_57 (hG _ mo0) ko0 (hrA12 o0 ko0) (hfA12 o0 ko0)
        have bv_99 : (0 ≤ v_99.toInt ∧ v_99.toInt ≤ 600) := fa12_5 fa_102
        have bv_100 : ((-2147483648) ≤ v_100.toInt ∧ v_100.toInt ≤ 2147483647) := ⟨i32_lo _, i32_hi _⟩
        obtain rfl : v_99 = whloop_95_0_5 := by rw [hfo_101] at hghloop_95_0_5; exact Option.some.inj hghloop_95_0_5
        refine lv_iload_n hx hb dX12_walk_20 rfl (lv_at hl 0 rfl) ?_
        refine lv_aload_n hx hb dX12_walk_21 rfl (lv_at hl 2 rfl) ?_
        refine tk_getP (D := (dC, dI)) (ci := 12) (v := .ref a_1) (C := RX12) (T := TX12) (N := 56) hx hb hU inlX12 hown hK hP mo0 hfo_101 rfl 0 (by decide) (hU _ wd_169) (fun _ h9 => h9) rfl dX12_walk_22 ?_
        refine lv_bipush (v := 17) hx hb dX12_walk_25 (by decide) ?_
        obtain ⟨g_104, hfo_103, hbg_104⟩ := un_575 (hG _ ma_1) ka_1
        refine tk_ildP hx hb hK hP 0 ma_1 hfo_103 rfl (vp_in_nI (n := 17) (by decide) (by decide)) dX12_walk_27 ?_
        refine lv_topi (fun x_105 ex_105 => ?_)
        have bx_105 : (0 ≤ x_105.toInt ∧ x_105.toInt ≤ 8) := by rw [ex_105]; exact hbg_104.2.2.1 _ (by decide) (by decide) (by decide)
        refine lv_icmp_ge (tgt := 89) hx hb dX12_walk_28 (by decide) (fun c_106 => ?_) (fun c_106 => ?_)
        · skip
          rw [Int32.le_iff_toInt_le] at c_106
          refine lv_iconst (v := (-1)) hx hb dX12_walk_89 (by decide) ?_
          exact W.iret (v := (-1)) hx hb hr (fun t ht hW => ⟨⟨(-1), f_98, rfl, ⟨hG, (by decide), hfr0, hrA12, hfA12, (by intro w5 z5 e5 d5; rw [hfo_57] at e5; rw [hfo_101] at d5; obtain rfl := Option.some.inj e5; obtain rfl := Option.some.inj d5; (try rw [ti_m1]) <;> omega)⟩, by rw [ht]; exact hP, va_K.moved hW.alike hK, pl_in hD⟩, hS.F ht⟩) hS.2.2 dX12_walk_90
        · skip
          rw [Int32.le_iff_toInt_le] at c_106
          refine lv_iconst (v := 0) hx hb dX12_walk_31 (by decide) ?_
          refine lv_istore_n (lv' := [(3, .int 0), (2, .int y_96), (1, .int x_63), (0, .ref o0)]) hx hb dX12_walk_32 rfl hl (by decide) rfl (fun ls hl => ?_)
          have hloop_134 : ∀ (n : Nat), ∀ (y_135 : Int32), (0 ≤ y_135.toInt ∧ y_135.toInt ≤ 16) → ∀ (f_137 : Nat → va_E), GI (okc cI cL cZ cR cG cH L kd) kd L f_137 → ∀ (H : Heap) (locs : List Loc), va_P (dC, dI) vwCl (va_pl L f_137) H → va_S (fun q => q ∈ L) s.heap H locs → va_D (fun q => q ∈ L) (va_pl L f_137) → (∀ b, kd b ≠ 12 → kd b ≠ 588 → f_137 b = f b) → (∀ b, kd b = 12 → ∀ j, fldR (f_137 b) j = fldR (f b) j) → (∀ b, kd b = 12 → ∀ j, j ≠ 5 → j ≠ 39 → fldI (f_137 b) j = fldI (f b) j) → (f_137 a_1 = .inl (cI, 1560, .inl g_104)) → ∀ (whloop_134_0_5 : Int32), fldI (f_137 o0) 5 = some whloop_134_0_5 → (whloop_134_0_5.toInt = 0) → (0 ≤ whloop_134_0_5.toInt ∧ whloop_134_0_5.toInt ≤ 600) → 16 - y_135.toInt < (n : Int) → ∀ (ls : Array Slot), lv_has ls 4 [(3, .int y_135), (2, .int y_96), (1, .int x_63), (0, .ref o0)] → W p l e (headSpec (wU yX12_walk cX12_walk 4 (some .int)) { frames := 6, cells := 0, slots := 0, locals := 157 }).room s m [.ref o0].toArray below meth c H locs 0 0 (MQ below (va_Qi (fun (r : Int32) (f9 : Nat → va_E) => GI (okc cI cL cZ cR cG cH L kd) kd L f9 ∧ ((-2147483648) ≤ r.toInt ∧ r.toInt ≤ 2147483647) ∧ (∀ b, kd b ≠ 12 → kd b ≠ 588 → f9 b = f b) ∧ (∀ b, kd b = 12 → ∀ j, fldR (f9 b) j = fldR (f b) j) ∧ (∀ b, kd b = 12 → ∀ j, j ≠ 5 → j ≠ 39 → fldI (f9 b) j = fldI (f b) j) ∧ (∀ (w5 z5 : Int32), fldI (f o0) 5 = some w5 → fldI (f9 o0) 5 = some z5 → z5.toInt = 0)) (qP (dC, dI) cI cL cZ cR cG cH L) (fun q => q ∈ L)) [.ref o0].toArray s 0 0 (fun q => q ∈ L)) (F0 m 33 ls []) := by
            intro n
            induction n with
            | zero => intro y_135 by_135 f_137 hG H locs hP hS hD hfr0 hrA12 hfA12 hfo_138 whloop_134_0_5 hghloop_134_0_5 hrelhloop_134_0 hrelhloop_134_1 hmuhloop_134 ls hl; exfalso; omega
            | succ n ih_hloop_134 =>
              intro y_135 by_135 f_137 hG H locs hP hS hD hfr0 hrA12 hfA12 hfo_138 whloop_134_0_5 hghloop_134_0_5 hrelhloop_134_0 hrelhloop_134_1 hmuhloop_134 ls hl
              obtain ⟨v_139, v_140, hfo_141, fa_142⟩ := op12_5_39 hfo_57 (hG _ mo0) ko0 (hrA12 o0 ko0) (hfA12 o0 ko0)
              have bv_139 : (0 ≤ v_139.toInt ∧ v_139.toInt ≤ 600) := fa12_5 fa_142
              have bv_140 : ((-2147483648) ≤ v_140.toInt ∧ v_140.toInt ≤ 2147483647) := ⟨i32_lo _, i32_hi _⟩
              obtain rfl : v_139 = whloop_134_0_5 := by rw [hfo_141] at hghloop_134_0_5; exact Option.some.inj hghloop_134_0_5
              refine lv_iload_n hx hb dX12_walk_33 rfl (lv_at hl 0 rfl) ?_
              refine lv_iload_n hx hb dX12_walk_34 rfl (lv_at hl 2 rfl) ?_
              refine lv_icmp_ge (tgt := 83) hx hb dX12_walk_35 (by decide) (fun c_143 => ?_) (fun c_143 => ?_)
              · skip
                rw [Int32.le_iff_toInt_le] at c_143
                obtain ⟨x_144, ex_144⟩ : ∃ y : Int32, y_96 + 1 = y := ⟨_, rfl⟩
                have hx_144 : x_144.toInt = y_96.toInt + 1 := by rw [← ex_144, ad_I (by rw [ti_1]; omega) (by rw [ti_1]; omega), ti_1]
                have bx_144 : (1 ≤ x_144.toInt ∧ x_144.toInt ≤ 8) := by constructor <;> omega
                refine lv_iinc (v := x_144) (lv' := [(2, .int x_144), (3, .int y_135), (1, .int x_63), (0, .ref o0)]) hx hb dX12_walk_83 hl (k := 1) rfl ex_144 (by decide) rfl (fun ls hl => ?_)
                refine lv_goto (tgt := 20) hx hb dX12_walk_86 (by decide) ?_
                exact ih_hloop_95 x_144 (by constructor <;> omega) f_137 hG _ _ hP hS hD hfr0 hrA12 hfA12 v_139 (by rw [hfo_141]; rfl) (by omega) (by omega) (by omega) ls (lv_sub hl [0, 2, 3] rfl)
              · skip
                rw [Int32.le_iff_toInt_le] at c_143
                refine lv_aload_n hx hb dX12_walk_38 rfl (lv_at hl 3 rfl) ?_
                refine tk_getP (D := (dC, dI)) (ci := 12) (v := .ref a_1) (C := RX12) (T := TX12) (N := 56) hx hb hU inlX12 hown hK hP mo0 hfo_141 rfl 0 (by decide) (hU _ wd_169) (fun _ h9 => h9) rfl dX12_walk_39 ?_
                refine lv_bipush (v := 40) hx hb dX12_walk_42 (by decide) ?_
                refine tk_ildP hx hb hK hP 0 ma_1 hfo_138 rfl (vp_in_nI (n := 40) (by decide) (by decide)) dX12_walk_44 ?_
                refine lv_topi (fun x_145 ex_145 => ?_)
                have bx_145 : (0 ≤ x_145.toInt ∧ x_145.toInt ≤ 255) := by rw [ex_145]; exact hbg_104.2.2.2.2.2.2.1 _ (by decide) (by decide) (by decide)
                refine lv_iload_n hx hb dX12_walk_45 rfl (lv_at hl 1 rfl) ?_
                refine lv_ishr hx hb dX12_walk_46 ?_
                refine lv_topi (fun x_146 ex_146 => ?_)
                have bx_146 : ((-2147483648) ≤ x_146.toInt ∧ x_146.toInt ≤ 2147483647) := ⟨i32_lo _, i32_hi _⟩
                refine lv_iconst (v := 1) hx hb dX12_walk_47 (by decide) ?_
                refine lv_iand hx hb dX12_walk_48 ?_
                refine lv_topi (fun x_147 ex_147 => ?_)
                have bx_147 : (0 ≤ x_147.toInt ∧ x_147.toInt ≤ 1) := by rw [ex_147]; have h8 := an_C x_146 (m := 1) (by decide); rw [ti_1] at h8; exact h8
                refine lv_iconst (v := 1) hx hb dX12_walk_49 (by decide) ?_
                refine lv_icmp_ne (tgt := 83) hx hb dX12_walk_50 (by decide) (fun c_148 => ?_) (fun c_148 => ?_)
                · skip
                  rw [← Int32.toInt_inj, ti_1] at c_148
                  obtain ⟨x_149, ex_149⟩ : ∃ y : Int32, y_96 + 1 = y := ⟨_, rfl⟩
                  have hx_149 : x_149.toInt = y_96.toInt + 1 := by rw [← ex_149, ad_I (by rw [ti_1]; omega) (by rw [ti_1]; omega), ti_1]
                  have bx_149 : (1 ≤ x_149.toInt ∧ x_149.toInt ≤ 8) := by constructor <;> omega
                  refine lv_iinc (v := x_149) (lv' := [(2, .int x_149), (3, .int y_135), (1, .int x_63), (0, .ref o0)]) hx hb dX12_walk_83 hl (k := 1) rfl ex_149 (by decide) rfl (fun ls hl => ?_)
                  refine lv_goto (tgt := 20) hx hb dX12_walk_86 (by decide) ?_
                  exact ih_hloop_95 x_149 (by constructor <;> omega) f_137 hG _ _ hP hS hD hfr0 hrA12 hfA12 v_139 (by rw [hfo_141]; rfl) (by omega) (by omega) (by omega) ls (lv_sub hl [0, 2, 3] rfl)
                · skip
                  rw [← Int32.toInt_inj, ti_1] at c_148
                  refine lv_aload_n hx hb dX12_walk_53 rfl (lv_at hl 3 rfl) ?_
                  refine lv_iload_n hx hb dX12_walk_54 rfl (lv_at hl 1 rfl) ?_
                  refine lv_iload_n hx hb dX12_walk_55 rfl (lv_at hl 0 rfl) ?_
                  refine lv_aload_n hx hb dX12_walk_56 rfl (lv_at hl 3 rfl) ?_
                  refine tk_getP (D := (dC, dI)) (ci := 12) (v := .ref a_21) (C := RX12) (T := TX12) (N := 56) hx hb hU inlX12 hown hK hP mo0 hfo_141 rfl 20 (by decide) (hU _ wd_180) (fun _ h9 => h9) rfl dX12_walk_57 ?_
                  refine lv_iload_n hx hb dX12_walk_60 rfl (lv_at hl 2 rfl) ?_
                  refine tk_ViP (As := [.int y_96, .int y_135, .ref a_21, .int x_63]) (rest := []) (n := 4) hx hb hml hown hU hN hZ (s_X12_isBroken_k12_a588 l (dC, dI) cI cL cZ cR cG cH Z kd L f_137 hG o0 mo0 ko0 y_96 (by constructor <;> omega) y_135 (by constructor <;> omega) a_21 ma_21 ka_21 x_63 (by constructor <;> omega)) wd_930 wd_931 wd_932 wd_5 wd_933 (by decide +kernel) ⟨Nat.le_of_ble_eq_true rfl, Nat.le_of_ble_eq_true rfl⟩ hK hP hD hS mo0 hfo_141 12 rfl rfl rfl hl.1 rfl (Nat.le_of_ble_eq_true rfl) dX12_walk_61 ⟨Nat.le_of_ble_eq_true rfl, Nat.le_of_ble_eq_true rfl⟩ (fun x_150 f_151 H locs hw hP hD hS => ?_)
                  obtain ⟨rfl, bx_150⟩ := hw
                  refine lv_if_ne (tgt := 70) hx hb dX12_walk_64 (by decide) (fun c_153 => ?_) (fun c_153 => ?_)
                  · skip
                    rw [← Int32.toInt_inj, ti_0] at c_153
                    refine lv_aload_n hx hb dX12_walk_70 rfl (lv_at hl 3 rfl) ?_
                    refine lv_iload_n hx hb dX12_walk_71 rfl (lv_at hl 0 rfl) ?_
                    refine tk_putP (D := (dC, dI)) (ci := 12) (v := .int y_135) (ty := .int) (C := RX12) (T := TX12) (N := 56) hx hb hU inlX12 tyX12 tyX12_ok nmX12 hown hK hP hD hS mo0 hfo_141 rfl 39 (by decide) (hU _ wd_189) (fun _ h9 => h9) rfl (by decide +kernel) rfl rfl (Nat.le_of_ble_eq_true rfl) dX12_walk_72 (fun H locs hP hD hS => ?_)
                    have fa_154 := fu12_39 (y := y_135) fa_142
                    obtain ⟨f_156, ef_156⟩ : ∃ y : Nat → va_E, y = va_up f_137 o0 (.inr (12, [.ref a_1, .ref a_2, .ref a_3, .int v_4, .ref a_5, .int v_139, .int v_7, .int v_8, .int v_9, .int v_10, .int v_11, .int v_12, .int v_13, .int v_14, .int v_15, .ref a_16, .ref a_17, .ref a_18, .ref a_19, .ref a_20, .ref a_21, .ref a_22, .ref a_23, .int v_24, .int v_25, .int v_26, .int v_27, .int v_28, .ref a_29, .int v_30, .ref a_31, .ref a_32, .int v_33, .int v_34, .ref a_35, .int v_36, .ref a_37, .ref a_38, .int v_39, .int y_135, .ref a_41, .ref a_42, .ref a_43, .int v_44, .ref a_45, .ref a_46, .ref a_47, .ref a_48, .ref a_49, .ref a_50, .ref a_51, .ref a_52, .ref a_53, .int v_54, .int v_55, .ref a_56])) := ⟨_, rfl⟩
                    have hP : va_P (dC, dI) vwCl (va_pl L f_156) H := by rw [ef_156]; exact hP
                    have hD : va_D (fun q => q ∈ L) (va_pl L f_156) := by rw [ef_156]; exact hD
                    have hG : GI (okc cI cL cZ cR cG cH L kd) kd L f_156 := by rw [ef_156]; exact hG.set o0 (mk_12 ko0 (fo12 fa_154))
                    have hfo_157 : f_156 a_1 = .inl (cI, 1560, .inl g_104) := by rw [ef_156, up_ne (kd_ne ko0 ka_1 (by decide))]; exact hfo_138
                    have hfr0 : ∀ b, kd b ≠ 12 → kd b ≠ 588 → f_156 b = f b := fun b q12 q588 => (congrFun ef_156 b).trans ((up_ne (fun e9 => q12 (by rw [e9]; exact ko0))).trans (hfr0 b q12 q588))
                    have hrA12 : ∀ b, kd b = 12 → ∀ j, fldR (f_156 b) j = fldR (f b) j := fun b kb j => ((congrArg (fun x => fldR x j) (congrFun ef_156 b)).trans (fra_up (fun j => by rw [hfo_141]; exact fr_set (k := 39) rfl rfl) j b)).trans (hrA12 b kb j)
                    have hfA12 : ∀ b, kd b = 12 → ∀ j, j ≠ 5 → j ≠ 39 → fldI (f_156 b) j = fldI (f b) j := fun b kb j n5 n39 => ((congrArg (fun x => fldI x j) (congrFun ef_156 b)).trans (fia_up (fun h9 => by rw [hfo_141]; exact fi_set (k := 39) rfl h9) n39 b)).trans (hfA12 b kb j n5 n39)
                    have hfo_158 : f_156 o0 = .inr (12, [.ref a_1, .ref a_2, .ref a_3, .int v_4, .ref a_5, .int v_139, .int v_7, .int v_8, .int v_9, .int v_10, .int v_11, .int v_12, .int v_13, .int v_14, .int v_15, .ref a_16, .ref a_17, .ref a_18, .ref a_19, .ref a_20, .ref a_21, .ref a_22, .ref a_23, .int v_24, .int v_25, .int v_26, .int v_27, .int v_28, .ref a_29, .int v_30, .ref a_31, .ref a_32, .int v_33, .int v_34, .ref a_35, .int v_36, .ref a_37, .ref a_38, .int v_39, .int y_135, .ref a_41, .ref a_42, .ref a_43, .int v_44, .ref a_45, .ref a_46, .ref a_47, .ref a_48, .ref a_49, .ref a_50, .ref a_51, .ref a_52, .ref a_53, .int v_54, .int v_55, .ref a_56]) := by rw [ef_156]; exact up_self
                    refine lv_iload_n hx hb dX12_walk_75 rfl (lv_at hl 1 rfl) ?_
                    exact W.iret (v := y_96) hx hb hr (fun t ht hW => ⟨⟨y_96, f_156, rfl, ⟨hG, (by constructor <;> omega), hfr0, hrA12, hfA12, (by intro w5 z5 e5 d5; rw [hfo_57] at e5; rw [hfo_158] at d5; obtain rfl := Option.some.inj e5; obtain rfl := Option.some.inj d5; omega)⟩, by rw [ht]; exact hP, va_K.moved hW.alike hK, pl_in hD⟩, hS.F ht⟩) hS.2.2 dX12_walk_76
                  · skip
                    rw [← Int32.toInt_inj, ti_0] at c_153
                    refine lv_goto (tgt := 77) hx hb dX12_walk_67 (by decide) ?_
                    obtain ⟨x_159, ex_159⟩ : ∃ y : Int32, y_135 + 1 = y := ⟨_, rfl⟩
                    have hx_159 : x_159.toInt = y_135.toInt + 1 := by rw [← ex_159, ad_I (by rw [ti_1]; omega) (by rw [ti_1]; omega), ti_1]
                    have bx_159 : (1 ≤ x_159.toInt ∧ x_159.toInt ≤ 16) := by constructor <;> omega
                    refine lv_iinc (v := x_159) (lv' := [(3, .int x_159), (2, .int y_96), (1, .int x_63), (0, .ref o0)]) hx hb dX12_walk_77 hl (k := 0) rfl ex_159 (by decide) rfl (fun ls hl => ?_)
                    refine lv_goto (tgt := 33) hx hb dX12_walk_80 (by decide) ?_
                    exact ih_hloop_134 x_159 (by constructor <;> omega) f_137 hG _ _ hP hS hD hfr0 hrA12 hfA12 hfo_138 v_139 (by rw [hfo_141]; rfl) (by omega) (by omega) (by omega) ls (lv_sub hl [0, 1, 2, 3] rfl)
          exact hloop_134 17 0 (by decide) f_98 hG _ _ hP hS hD hfr0 hrA12 hfA12 hfo_103 v_99 (by rw [hfo_101]; rfl) (by (try rw [ti_0]) <;> omega) (by (try rw [ti_0]) <;> omega) (by (try rw [ti_0]) <;> omega) ls hl
    exact hloop_95 9 0 (by decide) f_64 hG _ _ hP hS hD hfr0 hrA12 hfA12 v_70 (by rw [hfo_71]; rfl) (by (try rw [ti_0]) <;> omega) (by (try rw [ti_0]) <;> omega) (by (try rw [ti_0]) <;> omega) ls hl
  · skip
    rw [← Int32.toInt_inj, ti_m1] at c_73
    refine lv_bipush (v := (-2)) hx hb dX12_walk_15 (by decide) ?_
    exact W.iret (v := (-2)) hx hb hr (fun t ht hW => ⟨⟨(-2), f_64, rfl, ⟨hG, (by decide), hfr0, hrA12, hfA12, (by intro w5 z5 e5 d5; rw [hfo_57] at e5; rw [hfo_71] at d5; obtain rfl := Option.some.inj e5; obtain rfl := Option.some.inj d5; (try rw [ti_m2]) <;> omega)⟩, by rw [ht]; exact hP, va_K.moved hW.alike hK, pl_in hD⟩, hS.F ht⟩) hS.2.2 dX12_walk_17
set_option maxHeartbeats 8000000 in
set_option maxRecDepth 100000 in
theorem s_X12_where_k12 (l : Launch) (D : va_G) (cI cL cZ cR cG cH : ClassId) (Z : zT) (kd : Nat → Nat) (L : List Nat) (f : Nat → va_E) (hG : GI (okc cI cL cZ cR cG cH L kd) kd L f) (o0 : Nat) (mo0 : o0 ∈ L) (ko0 : kd o0 = 12) : mPI l D cI cL cZ cR cG cH Z yX12_where cX12_where 1 (some .int) 0 0 [.ref o0] L f (fun (r : Int32) (f9 : Nat → va_E) => f = f9 ∧ ((-2147483648) ≤ r.toInt ∧ r.toInt ≤ 2147483647)) := by
  obtain ⟨dC, dI⟩ := D
  refine Met.ofW (cc := cX12_where) (maxL := 1) (ret := (some .int)) (by decide) rfl ?_
  intro p e s m args below meth c s₁ B hml hv
  obtain ⟨rfl, hP, hK, hD0, hN, hZ⟩ := hv
  have hx := B.exec
  have hb := B.bytes
  have hr := B.returns
  have hU : ∀ w ∈ wsU, w.before _ s = true := fun w h => atoms_spec (ws := wU yX12_where cX12_where 1 (some .int)) B.pre w (List.mem_cons_of_mem _ h)
  have hown : s.vm.findClass RX12 = some m.cls := findClass_of_methodNamed B.named
  have hlocks := B.notSynchronized
  have hD := pl_in hD0
  have hS : va_S (fun q => q ∈ L) s.heap s.heap [] := va_S.rf
  have hl := lv_entry ([.ref o0]) (n := 1) (Nat.le_of_ble_eq_true rfl)
  rw [lg_entry_eq]
  generalize (lg_sl ([.ref o0]) ++ List.replicate (1 - (lg_sl ([.ref o0])).length) Slot.unset).toArray = ls at hl ⊢
  have hl : lv_has ls 1 [(0, .ref o0)] := hl
  refine lv_aload_n hx hb dX12_where_0 rfl (lv_at hl 0 rfl) ?_
  obtain ⟨a_1, a_2, a_3, v_4, a_5, v_6, v_7, v_8, v_9, v_10, v_11, v_12, v_13, v_14, v_15, a_16, a_17, a_18, a_19, a_20, a_21, a_22, a_23, v_24, v_25, v_26, v_27, v_28, a_29, v_30, a_31, a_32, v_33, v_34, a_35, v_36, a_37, a_38, v_39, v_40, a_41, a_42, a_43, v_44, a_45, a_46, a_47, a_48, a_49, a_50, a_51, a_52, a_53, v_54, v_55, a_56, hfo_57, fa_58⟩ := un12 (hG _ mo0) ko0
  have bv_40 : ((-2147483648) ≤ v_40.toInt ∧ v_40.toInt ≤ 2147483647) := ⟨i32_lo _, i32_hi _⟩
  refine tk_getP (D := (dC, dI)) (ci := 12) (v := .int v_40) (C := RX12) (T := TX12) (N := 56) hx hb hU inlX12 hown hK hP mo0 hfo_57 rfl 39 (by decide) (hU _ wd_189) (fun _ h9 => h9) rfl dX12_where_1 ?_
  exact W.iret (v := v_40) hx hb hr (fun t ht hW => ⟨⟨v_40, f, rfl, ⟨rfl, (by constructor <;> omega)⟩, by rw [ht]; exact hP, va_K.moved hW.alike hK, pl_in hD⟩, hS.F ht⟩) hS.2.2 dX12_where_4
set_option maxHeartbeats 8000000 in
set_option maxRecDepth 100000 in
theorem s_X12_age_k12 (l : Launch) (D : va_G) (cI cL cZ cR cG cH : ClassId) (Z : zT) (kd : Nat → Nat) (L : List Nat) (f : Nat → va_E) (hG : GI (okc cI cL cZ cR cG cH L kd) kd L f) (o0 : Nat) (mo0 : o0 ∈ L) (ko0 : kd o0 = 12) (p1 : Int32) (bp1 : (0 ≤ p1.toInt ∧ p1.toInt ≤ 7)) : mPV l D cI cL cZ cR cG cH Z yX12_age cX12_age 5 none 5 128 [.ref o0, .int p1] L f (fun (f9 : Nat → va_E) => GI (okc cI cL cZ cR cG cH L kd) kd L f9 ∧ (∀ b, kd b ≠ 12 → kd b ≠ 597 → kd b ≠ 598 → kd b ≠ 599 → f9 b = f b) ∧ (∀ b, kd b = 12 → ∀ j, fldR (f9 b) j = fldR (f b) j) ∧ (∀ b, kd b = 12 → ∀ j, j ≠ 43 → fldI (f9 b) j = fldI (f b) j) ∧ (∀ (w43 z43 : Int32), fldI (f o0) 43 = some w43 → fldI (f9 o0) 43 = some z43 → z43.toInt ≤ w43.toInt)) := by
  obtain ⟨dC, dI⟩ := D
  refine Met.ofW (cc := cX12_age) (maxL := 5) (ret := none) (by decide) rfl ?_
  intro p e s m args below meth c s₁ B hml hv
  obtain ⟨rfl, hP, hK, hD0, hN, hZ⟩ := hv
  have hx := B.exec
  have hb := B.bytes
  have hr := B.returns
  have hU : ∀ w ∈ wsU, w.before _ s = true := fun w h => atoms_spec (ws := wU yX12_age cX12_age 5 none) B.pre w (List.mem_cons_of_mem _ h)
  have hown : s.vm.findClass RX12 = some m.cls := findClass_of_methodNamed B.named
  have hlocks := B.notSynchronized
  have hD := pl_in hD0
  have hS : va_S (fun q => q ∈ L) s.heap s.heap [] := va_S.rf
  have hl := lv_entry ([.ref o0, .int p1]) (n := 5) (Nat.le_of_ble_eq_true rfl)
  rw [lg_entry_eq]
  generalize (lg_sl ([.ref o0, .int p1]) ++ List.replicate (5 - (lg_sl ([.ref o0, .int p1])).length) Slot.unset).toArray = ls at hl ⊢
  have hl : lv_has ls 5 [(0, .ref o0), (1, .int p1)] := hl
  have hfr0 : ∀ b, kd b ≠ 12 → kd b ≠ 597 → kd b ≠ 598 → kd b ≠ 599 → f b = f b := fun _ _ _ _ _ => rfl
  have hrA12 : ∀ b, kd b = 12 → ∀ j, fldR (f b) j = fldR (f b) j := fun _ _ _ => rfl
  have hfA12 : ∀ b, kd b = 12 → ∀ j, j ≠ 43 → fldI (f b) j = fldI (f b) j := fun _ _ _ _ => rfl
  obtain ⟨a_1, a_2, a_3, v_4, a_5, v_6, v_7, v_8, v_9, v_10, v_11, v_12, v_13, v_14, v_15, a_16, a_17, a_18, a_19, a_20, a_21, a_22, a_23, v_24, v_25, v_26, v_27, v_28, a_29, v_30, a_31, a_32, v_33, v_34, a_35, v_36, a_37, a_38, v_39, v_40, a_41, a_42, a_43, v_44, a_45, a_46, a_47, a_48, a_49, a_50, a_51, a_52, a_53, v_54, v_55, a_56, hfo_57, fa_58⟩ := un12 (hG _ mo0) ko0
  obtain ⟨ma_41, ka_41⟩ := fa12_40 fa_58
  obtain ⟨ma_42, ka_42⟩ := fa12_41 fa_58
  obtain ⟨ma_43, ka_43⟩ := fa12_42 fa_58
  have bv_44 : (0 ≤ v_44.toInt ∧ v_44.toInt ≤ 8) := fa12_43 fa_58
  refine lv_aload_n hx hb dX12_age_0 rfl (lv_at hl 0 rfl) ?_
  refine lv_iload_n hx hb dX12_age_1 rfl (lv_at hl 1 rfl) ?_
  refine lv_iconst (v := 2) hx hb dX12_age_2 (by decide) ?_
  refine tk_ViP (As := [.int p1, .int 2]) (rest := []) (n := 2) hx hb hml hown hU hN hZ (s_X12_ofRule_k12_c2_2 l (dC, dI) cI cL cZ cR cG cH Z kd L f hG o0 mo0 ko0 p1 (by constructor <;> omega)) wd_894 wd_895 wd_896 wd_5 wd_897 (by decide +kernel) ⟨Nat.le_of_ble_eq_true rfl, Nat.le_of_ble_eq_true rfl⟩ hK hP hD hS mo0 hfo_57 12 rfl rfl rfl hl.1 rfl (Nat.le_of_ble_eq_true rfl) dX12_age_3 ⟨Nat.le_of_ble_eq_true rfl, Nat.le_of_ble_eq_true rfl⟩ (fun x_59 f_60 H locs hw hP hD hS => ?_)
  obtain ⟨rfl, bx_59⟩ := hw
  refine lv_iconst (v := 3) hx hb dX12_age_6 (by decide) ?_
  refine lv_icmp_eq (tgt := 19) hx hb dX12_age_7 (by decide) (fun c_62 => ?_) (fun c_62 => ?_)
  · skip
    rw [← Int32.toInt_inj, ti_3] at c_62
    exact W.vret hx hb hr (fun t ht hW => ⟨⟨f, rfl, ⟨hG, hfr0, hrA12, hfA12, (by intro w43 z43 e43 d43; rw [hfo_57] at e43; rw [hfo_57] at d43; obtain rfl := Option.some.inj e43; obtain rfl := Option.some.inj d43; omega)⟩, by rw [ht]; exact hP, va_K.moved hW.alike hK, pl_in hD⟩, hS.F ht⟩) hS.2.2 dX12_age_19
  · skip
    rw [← Int32.toInt_inj, ti_3] at c_62
    refine lv_aload_n hx hb dX12_age_10 rfl (lv_at hl 0 rfl) ?_
    refine lv_iload_n hx hb dX12_age_11 rfl (lv_at hl 1 rfl) ?_
    refine lv_iconst (v := 0) hx hb dX12_age_12 (by decide) ?_
    refine tk_ViP (As := [.int p1, .int 0]) (rest := []) (n := 2) hx hb hml hown hU hN hZ (s_X12_ofRule_k12 l (dC, dI) cI cL cZ cR cG cH Z kd L f hG o0 mo0 ko0 p1 (by constructor <;> omega) 0 (by decide)) wd_894 wd_895 wd_896 wd_5 wd_897 (by decide +kernel) ⟨Nat.le_of_ble_eq_true rfl, Nat.le_of_ble_eq_true rfl⟩ hK hP hD hS mo0 hfo_57 12 rfl rfl rfl hl.1 rfl (Nat.le_of_ble_eq_true rfl) dX12_age_13 ⟨Nat.le_of_ble_eq_true rfl, Nat.le_of_ble_eq_true rfl⟩ (fun x_63 f_64 H locs hw hP hD hS => ?_)
    obtain ⟨rfl, bx_63⟩ := hw
    refine lv_if_ne (tgt := 20) hx hb dX12_age_16 (by decide) (fun c_66 => ?_) (fun c_66 => ?_)
    · skip
      rw [← Int32.toInt_inj, ti_0] at c_66
      refine lv_iconst (v := 0) hx hb dX12_age_20 (by decide) ?_
      refine lv_istore_n (lv' := [(2, .int 0), (0, .ref o0), (1, .int p1)]) hx hb dX12_age_21 rfl hl (by decide) rfl (fun ls hl => ?_)
      have hloop_82 : ∀ (n : Nat), ∀ (y_83 : Int32), (0 ≤ y_83.toInt ∧ y_83.toInt ≤ 8) → ∀ (f_85 : Nat → va_E), GI (okc cI cL cZ cR cG cH L kd) kd L f_85 → ∀ (H : Heap) (locs : List Loc), va_P (dC, dI) vwCl (va_pl L f_85) H → va_S (fun q => q ∈ L) s.heap H locs → va_D (fun q => q ∈ L) (va_pl L f_85) → (∀ b, kd b ≠ 12 → kd b ≠ 597 → kd b ≠ 598 → kd b ≠ 599 → f_85 b = f b) → (∀ b, kd b = 12 → ∀ j, fldR (f_85 b) j = fldR (f b) j) → (∀ b, kd b = 12 → ∀ j, j ≠ 43 → fldI (f_85 b) j = fldI (f b) j) → (f_85 o0 = .inr (12, [.ref a_1, .ref a_2, .ref a_3, .int v_4, .ref a_5, .int v_6, .int v_7, .int v_8, .int v_9, .int v_10, .int v_11, .int v_12, .int v_13, .int v_14, .int v_15, .ref a_16, .ref a_17, .ref a_18, .ref a_19, .ref a_20, .ref a_21, .ref a_22, .ref a_23, .int v_24, .int v_25, .int v_26, .int v_27, .int v_28, .ref a_29, .int v_30, .ref a_31, .ref a_32, .int v_33, .int v_34, .ref a_35, .int v_36, .ref a_37, .ref a_38, .int v_39, .int v_40, .ref a_41, .ref a_42, .ref a_43, .int v_44, .ref a_45, .ref a_46, .ref a_47, .ref a_48, .ref a_49, .ref a_50, .ref a_51, .ref a_52, .ref a_53, .int v_54, .int v_55, .ref a_56])) → 8 - y_83.toInt < (n : Int) → ∀ (ls : Array Slot), lv_has ls 5 [(2, .int y_83), (0, .ref o0), (1, .int p1)] → W p l e (headSpec (wU yX12_age cX12_age 5 none) { frames := 5, cells := 0, slots := 0, locals := 128 }).room s m [.ref o0, .int p1].toArray below meth c H locs 0 0 (MQ below (va_Qv (fun (f9 : Nat → va_E) => GI (okc cI cL cZ cR cG cH L kd) kd L f9 ∧ (∀ b, kd b ≠ 12 → kd b ≠ 597 → kd b ≠ 598 → kd b ≠ 599 → f9 b = f b) ∧ (∀ b, kd b = 12 → ∀ j, fldR (f9 b) j = fldR (f b) j) ∧ (∀ b, kd b = 12 → ∀ j, j ≠ 43 → fldI (f9 b) j = fldI (f b) j) ∧ (∀ (w43 z43 : Int32), fldI (f o0) 43 = some w43 → fldI (f9 o0) 43 = some z43 → z43.toInt ≤ w43.toInt)) (qP (dC, dI) cI cL cZ cR cG cH L) (fun q => q ∈ L)) [.ref o0, .int p1].toArray s 0 0 (fun q => q ∈ L)) (F0 m 22 ls []) := by
        intro n
        induction n with
        | zero => intro y_83 by_83 f_85 hG H locs hP hS hD hfr0 hrA12 hfA12 hfo_86 hmuhloop_82 ls hl; exfalso; omega
        | succ n ih_hloop_82 =>
          intro y_83 by_83 f_85 hG H locs hP hS hD hfr0 hrA12 hfA12 hfo_86 hmuhloop_82 ls hl
          refine lv_iload_n hx hb dX12_age_22 rfl (lv_at hl 0 rfl) ?_
          refine lv_aload_n hx hb dX12_age_23 rfl (lv_at hl 1 rfl) ?_
          refine tk_getP (D := (dC, dI)) (ci := 12) (v := .int v_44) (C := RX12) (T := TX12) (N := 56) hx hb hU inlX12 hown hK hP mo0 hfo_86 rfl 43 (by decide) (hU _ wd_572) (fun _ h9 => h9) rfl dX12_age_24 ?_
          refine lv_icmp_ge (tgt := 51) hx hb dX12_age_27 (by decide) (fun c_87 => ?_) (fun c_87 => ?_)
          · skip
            rw [Int32.le_iff_toInt_le] at c_87
            refine lv_iconst (v := 0) hx hb dX12_age_51 (by decide) ?_
            refine lv_istore_n (lv' := [(2, .int 0), (0, .ref o0), (1, .int p1)]) hx hb dX12_age_52 rfl hl (by decide) rfl (fun ls hl => ?_)
            refine lv_iconst (v := 0) hx hb dX12_age_53 (by decide) ?_
            refine lv_istore_n (lv' := [(3, .int 0), (2, .int 0), (0, .ref o0), (1, .int p1)]) hx hb dX12_age_54 rfl hl (by decide) rfl (fun ls hl => ?_)
            have hloop_94 : ∀ (n : Nat), ∀ (y_95 : Int32), (0 ≤ y_95.toInt ∧ y_95.toInt ≤ 8) → ∀ (y_96 : Int32), (0 ≤ y_96.toInt ∧ y_96.toInt ≤ 8) → ∀ (f_98 : Nat → va_E), GI (okc cI cL cZ cR cG cH L kd) kd L f_98 → ∀ (H : Heap) (locs : List Loc), va_P (dC, dI) vwCl (va_pl L f_98) H → va_S (fun q => q ∈ L) s.heap H locs → va_D (fun q => q ∈ L) (va_pl L f_98) → (∀ b, kd b ≠ 12 → kd b ≠ 597 → kd b ≠ 598 → kd b ≠ 599 → f_98 b = f b) → (∀ b, kd b = 12 → ∀ j, fldR (f_98 b) j = fldR (f b) j) → (∀ b, kd b = 12 → ∀ j, j ≠ 43 → fldI (f_98 b) j = fldI (f b) j) → (f_98 o0 = .inr (12, [.ref a_1, .ref a_2, .ref a_3, .int v_4, .ref a_5, .int v_6, .int v_7, .int v_8, .int v_9, .int v_10, .int v_11, .int v_12, .int v_13, .int v_14, .int v_15, .ref a_16, .ref a_17, .ref a_18, .ref a_19, .ref a_20, .ref a_21, .ref a_22, .ref a_23, .int v_24, .int v_25, .int v_26, .int v_27, .int v_28, .ref a_29, .int v_30, .ref a_31, .ref a_32, .int v_33, .int v_34, .ref a_35, .int v_36, .ref a_37, .ref a_38, .int v_39, .int v_40, .ref a_41, .ref a_42, .ref a_43, .int v_44, .ref a_45, .ref a_46, .ref a_47, .ref a_48, .ref a_49, .ref a_50, .ref a_51, .ref a_52, .ref a_53, .int v_54, .int v_55, .ref a_56])) → (y_96.toInt ≤ y_95.toInt ∧ y_95.toInt ≤ v_44.toInt) → 8 - y_95.toInt < (n : Int) → ∀ (ls : Array Slot), lv_has ls 5 [(3, .int y_95), (2, .int y_96), (0, .ref o0), (1, .int p1)] → W p l e (headSpec (wU yX12_age cX12_age 5 none) { frames := 5, cells := 0, slots := 0, locals := 128 }).room s m [.ref o0, .int p1].toArray below meth c H locs 0 0 (MQ below (va_Qv (fun (f9 : Nat → va_E) => GI (okc cI cL cZ cR cG cH L kd) kd L f9 ∧ (∀ b, kd b ≠ 12 → kd b ≠ 597 → kd b ≠ 598 → kd b ≠ 599 → f9 b = f b) ∧ (∀ b, kd b = 12 → ∀ j, fldR (f9 b) j = fldR (f b) j) ∧ (∀ b, kd b = 12 → ∀ j, j ≠ 43 → fldI (f9 b) j = fldI (f b) j) ∧ (∀ (w43 z43 : Int32), fldI (f o0) 43 = some w43 → fldI (f9 o0) 43 = some z43 → z43.toInt ≤ w43.toInt)) (qP (dC, dI) cI cL cZ cR cG cH L) (fun q => q ∈ L)) [.ref o0, .int p1].toArray s 0 0 (fun q => q ∈ L)) (F0 m 55 ls []) := by
              intro n
              induction n with
              | zero => intro y_95 by_95 y_96 by_96 f_98 hG H locs hP hS hD hfr0 hrA12 hfA12 hfo_99 hrelhloop_94_0 hmuhloop_94 ls hl; exfalso; omega
              | succ n ih_hloop_94 =>
                intro y_95 by_95 y_96 by_96 f_98 hG H locs hP hS hD hfr0 hrA12 hfA12 hfo_99 hrelhloop_94_0 hmuhloop_94 ls hl
                refine lv_iload_n hx hb dX12_age_55 rfl (lv_at hl 0 rfl) ?_
                refine lv_aload_n hx hb dX12_age_56 rfl (lv_at hl 2 rfl) ?_
                refine tk_getP (D := (dC, dI)) (ci := 12) (v := .int v_44) (C := RX12) (T := TX12) (N := 56) hx hb hU inlX12 hown hK hP mo0 hfo_99 rfl 43 (by decide) (hU _ wd_572) (fun _ h9 => h9) rfl dX12_age_57 ?_
                refine lv_icmp_ge (tgt := 137) hx hb dX12_age_60 (by decide) (fun c_100 => ?_) (fun c_100 => ?_)
                · skip
                  rw [Int32.le_iff_toInt_le] at c_100
                  refine lv_aload_n hx hb dX12_age_137 rfl (lv_at hl 2 rfl) ?_
                  refine lv_iload_n hx hb dX12_age_138 rfl (lv_at hl 1 rfl) ?_
                  refine tk_putP (D := (dC, dI)) (ci := 12) (v := .int y_96) (ty := .int) (C := RX12) (T := TX12) (N := 56) hx hb hU inlX12 tyX12 tyX12_ok nmX12 hown hK hP hD hS mo0 hfo_99 rfl 43 (by decide) (hU _ wd_572) (fun _ h9 => h9) rfl (by decide +kernel) rfl rfl (Nat.le_of_ble_eq_true rfl) dX12_age_139 (fun H locs hP hD hS => ?_)
                  have fa_101 := fu12_43 (y := y_96) fa_58 (by constructor <;> omega)
                  obtain ⟨f_103, ef_103⟩ : ∃ y : Nat → va_E, y = va_up f_98 o0 (.inr (12, [.ref a_1, .ref a_2, .ref a_3, .int v_4, .ref a_5, .int v_6, .int v_7, .int v_8, .int v_9, .int v_10, .int v_11, .int v_12, .int v_13, .int v_14, .int v_15, .ref a_16, .ref a_17, .ref a_18, .ref a_19, .ref a_20, .ref a_21, .ref a_22, .ref a_23, .int v_24, .int v_25, .int v_26, .int v_27, .int v_28, .ref a_29, .int v_30, .ref a_31, .ref a_32, .int v_33, .int v_34, .ref a_35, .int v_36, .ref a_37, .ref a_38, .int v_39, .int v_40, .ref a_41, .ref a_42, .ref a_43, .int y_96, .ref a_45, .ref a_46, .ref a_47, .ref a_48, .ref a_49, .ref a_50, .ref a_51, .ref a_52, .ref a_53, .int v_54, .int v_55, .ref a_56])) := ⟨_, rfl⟩
                  have hP : va_P (dC, dI) vwCl (va_pl L f_103) H := by rw [ef_103]; exact hP
                  have hD : va_D (fun q => q ∈ L) (va_pl L f_103) := by rw [ef_103]; exact hD
                  have hG : GI (okc cI cL cZ cR cG cH L kd) kd L f_103 := by rw [ef_103]; exact hG.set o0 (mk_12 ko0 (fo12 fa_101))
                  have hfr0 : ∀ b, kd b ≠ 12 → kd b ≠ 597 → kd b ≠ 598 → kd b ≠ 599 → f_103 b = f b := fun b q12 q597 q598 q599 => (congrFun ef_103 b).trans ((up_ne (fun e9 => q12 (by rw [e9]; exact ko0))).trans (hfr0 b q12 q597 q598 q599))
                  have hrA12 : ∀ b, kd b = 12 → ∀ j, fldR (f_103 b) j = fldR (f b) j := fun b kb j => ((congrArg (fun x => fldR x j) (congrFun ef_103 b)).trans (fra_up (fun j => by rw [hfo_99]; exact fr_set (k := 43) rfl rfl) j b)).trans (hrA12 b kb j)
                  have hfA12 : ∀ b, kd b = 12 → ∀ j, j ≠ 43 → fldI (f_103 b) j = fldI (f b) j := fun b kb j n43 => ((congrArg (fun x => fldI x j) (congrFun ef_103 b)).trans (fia_up (fun h9 => by rw [hfo_99]; exact fi_set (k := 43) rfl h9) n43 b)).trans (hfA12 b kb j n43)
                  have hfo_104 : f_103 o0 = .inr (12, [.ref a_1, .ref a_2, .ref a_3, .int v_4, .ref a_5, .int v_6, .int v_7, .int v_8, .int v_9, .int v_10, .int v_11, .int v_12, .int v_13, .int v_14, .int v_15, .ref a_16, .ref a_17, .ref a_18, .ref a_19, .ref a_20, .ref a_21, .ref a_22, .ref a_23, .int v_24, .int v_25, .int v_26, .int v_27, .int v_28, .ref a_29, .int v_30, .ref a_31, .ref a_32, .int v_33, .int v_34, .ref a_35, .int v_36, .ref a_37, .ref a_38, .int v_39, .int v_40, .ref a_41, .ref a_42, .ref a_43, .int y_96, .ref a_45, .ref a_46, .ref a_47, .ref a_48, .ref a_49, .ref a_50, .ref a_51, .ref a_52, .ref a_53, .int v_54, .int v_55, .ref a_56]) := by rw [ef_103]; exact up_self
                  refine lv_iconst (v := 0) hx hb dX12_age_142 (by decide) ?_
                  refine lv_istore_n (lv' := [(3, .int 0), (2, .int y_96), (0, .ref o0), (1, .int p1)]) hx hb dX12_age_143 rfl hl (by decide) rfl (fun ls hl => ?_)
                  have hloop_120 : ∀ (n : Nat), ∀ (y_121 : Int32), (0 ≤ y_121.toInt ∧ y_121.toInt ≤ 8) → ∀ (f_123 : Nat → va_E), GI (okc cI cL cZ cR cG cH L kd) kd L f_123 → ∀ (H : Heap) (locs : List Loc), va_P (dC, dI) vwCl (va_pl L f_123) H → va_S (fun q => q ∈ L) s.heap H locs → va_D (fun q => q ∈ L) (va_pl L f_123) → (∀ b, kd b ≠ 12 → kd b ≠ 597 → kd b ≠ 598 → kd b ≠ 599 → f_123 b = f b) → (∀ b, kd b = 12 → ∀ j, fldR (f_123 b) j = fldR (f b) j) → (∀ b, kd b = 12 → ∀ j, j ≠ 43 → fldI (f_123 b) j = fldI (f b) j) → (f_123 o0 = .inr (12, [.ref a_1, .ref a_2, .ref a_3, .int v_4, .ref a_5, .int v_6, .int v_7, .int v_8, .int v_9, .int v_10, .int v_11, .int v_12, .int v_13, .int v_14, .int v_15, .ref a_16, .ref a_17, .ref a_18, .ref a_19, .ref a_20, .ref a_21, .ref a_22, .ref a_23, .int v_24, .int v_25, .int v_26, .int v_27, .int v_28, .ref a_29, .int v_30, .ref a_31, .ref a_32, .int v_33, .int v_34, .ref a_35, .int v_36, .ref a_37, .ref a_38, .int v_39, .int v_40, .ref a_41, .ref a_42, .ref a_43, .int y_96, .ref a_45, .ref a_46, .ref a_47, .ref a_48, .ref a_49, .ref a_50, .ref a_51, .ref a_52, .ref a_53, .int v_54, .int v_55, .ref a_56])) → 8 - y_121.toInt < (n : Int) → ∀ (ls : Array Slot), lv_has ls 5 [(3, .int y_121), (2, .int y_96), (0, .ref o0), (1, .int p1)] → W p l e (headSpec (wU yX12_age cX12_age 5 none) { frames := 5, cells := 0, slots := 0, locals := 128 }).room s m [.ref o0, .int p1].toArray below meth c H locs 0 0 (MQ below (va_Qv (fun (f9 : Nat → va_E) => GI (okc cI cL cZ cR cG cH L kd) kd L f9 ∧ (∀ b, kd b ≠ 12 → kd b ≠ 597 → kd b ≠ 598 → kd b ≠ 599 → f9 b = f b) ∧ (∀ b, kd b = 12 → ∀ j, fldR (f9 b) j = fldR (f b) j) ∧ (∀ b, kd b = 12 → ∀ j, j ≠ 43 → fldI (f9 b) j = fldI (f b) j) ∧ (∀ (w43 z43 : Int32), fldI (f o0) 43 = some w43 → fldI (f9 o0) 43 = some z43 → z43.toInt ≤ w43.toInt)) (qP (dC, dI) cI cL cZ cR cG cH L) (fun q => q ∈ L)) [.ref o0, .int p1].toArray s 0 0 (fun q => q ∈ L)) (F0 m 144 ls []) := by
                    intro n
                    induction n with
                    | zero => intro y_121 by_121 f_123 hG H locs hP hS hD hfr0 hrA12 hfA12 hfo_124 hmuhloop_120 ls hl; exfalso; omega
                    | succ n ih_hloop_120 =>
                      intro y_121 by_121 f_123 hG H locs hP hS hD hfr0 hrA12 hfA12 hfo_124 hmuhloop_120 ls hl
                      refine lv_iload_n hx hb dX12_age_144 rfl (lv_at hl 0 rfl) ?_
                      refine lv_iload_n hx hb dX12_age_145 rfl (lv_at hl 1 rfl) ?_
                      refine lv_icmp_ge (tgt := 167) hx hb dX12_age_146 (by decide) (fun c_125 => ?_) (fun c_125 => ?_)
                      · skip
                        rw [Int32.le_iff_toInt_le] at c_125
                        exact W.vret hx hb hr (fun t ht hW => ⟨⟨f_123, rfl, ⟨hG, hfr0, hrA12, hfA12, (by intro w43 z43 e43 d43; rw [hfo_57] at e43; rw [hfo_124] at d43; obtain rfl := Option.some.inj e43; obtain rfl := Option.some.inj d43; omega)⟩, by rw [ht]; exact hP, va_K.moved hW.alike hK, pl_in hD⟩, hS.F ht⟩) hS.2.2 dX12_age_167
                      · skip
                        rw [Int32.le_iff_toInt_le] at c_125
                        refine lv_aload_n hx hb dX12_age_149 rfl (lv_at hl 2 rfl) ?_
                        refine tk_getP (D := (dC, dI)) (ci := 12) (v := .ref a_41) (C := RX12) (T := TX12) (N := 56) hx hb hU inlX12 hown hK hP mo0 hfo_124 rfl 40 (by decide) (hU _ wd_190) (fun _ h9 => h9) rfl dX12_age_150 ?_
                        refine lv_iload_n hx hb dX12_age_153 rfl (lv_at hl 0 rfl) ?_
                        refine lv_aload_n hx hb dX12_age_154 rfl (lv_at hl 2 rfl) ?_
                        refine tk_getP (D := (dC, dI)) (ci := 12) (v := .ref a_43) (C := RX12) (T := TX12) (N := 56) hx hb hU inlX12 hown hK hP mo0 hfo_124 rfl 42 (by decide) (hU _ wd_192) (fun _ h9 => h9) rfl dX12_age_155 ?_
                        refine lv_iload_n hx hb dX12_age_158 rfl (lv_at hl 0 rfl) ?_
                        obtain ⟨g_127, hfo_126, hbg_127⟩ := un_599 (hG _ ma_43) ka_43
                        refine tk_ildP hx hb hK hP 0 ma_43 hfo_126 rfl (vp_in_iff.mpr (by constructor <;> omega)) dX12_age_159 ?_
                        refine lv_topi (fun x_128 ex_128 => ?_)
                        have bx_128 : (0 ≤ x_128.toInt ∧ x_128.toInt ≤ 8) := by rw [ex_128]; exact hbg_127 _
                        obtain ⟨g_130, hfo_129, hbg_130⟩ := un_597 (hG _ ma_41) ka_41
                        refine tk_istP hx hb hK hP hD hS 0 ma_41 hfo_129 rfl (vp_in_iff.mpr (by constructor <;> omega)) dX12_age_160 (fun H locs hP hD hS => ?_)
                        obtain ⟨f_132, ef_132⟩ : ∃ y : Nat → va_E, y = va_up f_123 a_41 (.inl (cI, 16, .inl (upd g_130 (Int32.toNatClampNeg y_121) x_128))) := ⟨_, rfl⟩
                        have hP : va_P (dC, dI) vwCl (va_pl L f_132) H := by rw [ef_132]; exact hP
                        have hD : va_D (fun q => q ∈ L) (va_pl L f_132) := by rw [ef_132]; exact hD
                        have hG : GI (okc cI cL cZ cR cG cH L kd) kd L f_132 := by rw [ef_132]; exact hG.set a_41 (mk_597 ka_41 ⟨_, rfl, okI_up hbg_130 (by constructor <;> omega) _⟩)
                        have hfo_133 : f_132 o0 = .inr (12, [.ref a_1, .ref a_2, .ref a_3, .int v_4, .ref a_5, .int v_6, .int v_7, .int v_8, .int v_9, .int v_10, .int v_11, .int v_12, .int v_13, .int v_14, .int v_15, .ref a_16, .ref a_17, .ref a_18, .ref a_19, .ref a_20, .ref a_21, .ref a_22, .ref a_23, .int v_24, .int v_25, .int v_26, .int v_27, .int v_28, .ref a_29, .int v_30, .ref a_31, .ref a_32, .int v_33, .int v_34, .ref a_35, .int v_36, .ref a_37, .ref a_38, .int v_39, .int v_40, .ref a_41, .ref a_42, .ref a_43, .int y_96, .ref a_45, .ref a_46, .ref a_47, .ref a_48, .ref a_49, .ref a_50, .ref a_51, .ref a_52, .ref a_53, .int v_54, .int v_55, .ref a_56]) := by rw [ef_132, up_ne (kd_ne ka_41 ko0 (by decide))]; exact hfo_124
                        have hfo_134 : f_132 a_43 = .inl (cI, 16, .inl g_127) := by rw [ef_132, up_ne (kd_ne ka_41 ka_43 (by decide))]; exact hfo_126
                        have hfr0 : ∀ b, kd b ≠ 12 → kd b ≠ 597 → kd b ≠ 598 → kd b ≠ 599 → f_132 b = f b := fun b q12 q597 q598 q599 => (congrFun ef_132 b).trans ((up_ne (fun e9 => q597 (by rw [e9]; exact ka_41))).trans (hfr0 b q12 q597 q598 q599))
                        have hrA12 : ∀ b, kd b = 12 → ∀ j, fldR (f_132 b) j = fldR (f b) j := fun b kb j => (congrArg (fun x => fldR x j) ((congrFun ef_132 b).trans (up_ne (kd_ne ka_41 kb (by decide))))).trans (hrA12 b kb j)
                        have hfA12 : ∀ b, kd b = 12 → ∀ j, j ≠ 43 → fldI (f_132 b) j = fldI (f b) j := fun b kb j n43 => (congrArg (fun x => fldI x j) ((congrFun ef_132 b).trans (up_ne (kd_ne ka_41 kb (by decide))))).trans (hfA12 b kb j n43)
                        have hfo_135 : f_132 a_41 = .inl (cI, 16, .inl (upd g_130 (Int32.toNatClampNeg y_121) x_128)) := by rw [ef_132]; exact up_self
                        obtain ⟨x_136, ex_136⟩ : ∃ y : Int32, y_121 + 1 = y := ⟨_, rfl⟩
                        have hx_136 : x_136.toInt = y_121.toInt + 1 := by rw [← ex_136, ad_I (by rw [ti_1]; omega) (by rw [ti_1]; omega), ti_1]
                        have bx_136 : (1 ≤ x_136.toInt ∧ x_136.toInt ≤ 8) := by constructor <;> omega
                        refine lv_iinc (v := x_136) (lv' := [(3, .int x_136), (2, .int y_96), (0, .ref o0), (1, .int p1)]) hx hb dX12_age_161 hl (k := 0) rfl ex_136 (by decide) rfl (fun ls hl => ?_)
                        refine lv_goto (tgt := 144) hx hb dX12_age_164 (by decide) ?_
                        exact ih_hloop_120 x_136 (by constructor <;> omega) f_132 hG _ _ hP hS hD hfr0 hrA12 hfA12 hfo_133 (by omega) ls (lv_sub hl [0, 1, 2, 3] rfl)
                  exact hloop_120 9 0 (by decide) f_103 hG _ _ hP hS hD hfr0 hrA12 hfA12 hfo_104 (by (try rw [ti_0]) <;> omega) ls hl
                · skip
                  rw [Int32.le_iff_toInt_le] at c_100
                  refine lv_aload_n hx hb dX12_age_63 rfl (lv_at hl 2 rfl) ?_
                  refine tk_getP (D := (dC, dI)) (ci := 12) (v := .ref a_41) (C := RX12) (T := TX12) (N := 56) hx hb hU inlX12 hown hK hP mo0 hfo_99 rfl 40 (by decide) (hU _ wd_190) (fun _ h9 => h9) rfl dX12_age_64 ?_
                  refine lv_iload_n hx hb dX12_age_67 rfl (lv_at hl 0 rfl) ?_
                  obtain ⟨g_138, hfo_137, hbg_138⟩ := un_597 (hG _ ma_41) ka_41
                  refine tk_ildP hx hb hK hP 0 ma_41 hfo_137 rfl (vp_in_iff.mpr (by constructor <;> omega)) dX12_age_68 ?_
                  refine lv_topi (fun x_139 ex_139 => ?_)
                  have bx_139 : (0 ≤ x_139.toInt ∧ x_139.toInt ≤ 8) := by rw [ex_139]; exact hbg_138 _
                  refine lv_aload_n hx hb dX12_age_69 rfl (lv_at hl 2 rfl) ?_
                  refine lv_iload_n hx hb dX12_age_70 rfl (lv_at hl 3 rfl) ?_
                  refine lv_iconst (v := 0) hx hb dX12_age_71 (by decide) ?_
                  refine tk_ViP (As := [.int p1, .int 0]) (rest := [.int x_139]) (n := 2) hx hb hml hown hU hN hZ (s_X12_ofRule_k12 l (dC, dI) cI cL cZ cR cG cH Z kd L f_98 hG o0 mo0 ko0 p1 (by constructor <;> omega) 0 (by decide)) wd_894 wd_895 wd_896 wd_5 wd_897 (by decide +kernel) ⟨Nat.le_of_ble_eq_true rfl, Nat.le_of_ble_eq_true rfl⟩ hK hP hD hS mo0 hfo_99 12 rfl rfl rfl hl.1 rfl (Nat.le_of_ble_eq_true rfl) dX12_age_72 ⟨Nat.le_of_ble_eq_true rfl, Nat.le_of_ble_eq_true rfl⟩ (fun x_140 f_141 H locs hw hP hD hS => ?_)
                  obtain ⟨rfl, bx_140⟩ := hw
                  have hcut_145 : ∀ (y_143 : Int32), (0 ≤ y_143.toInt ∧ y_143.toInt ≤ 8) → ∀ (H : Heap) (locs : List Loc), va_P (dC, dI) vwCl (va_pl L f_98) H → va_S (fun q => q ∈ L) s.heap H locs → ∀ (ls : Array Slot), lv_has ls 5 [(3, .int y_95), (2, .int y_96), (0, .ref o0), (1, .int p1)] → W p l e (headSpec (wU yX12_age cX12_age 5 none) { frames := 5, cells := 0, slots := 0, locals := 128 }).room s m [.ref o0, .int p1].toArray below meth c H locs 0 0 (MQ below (va_Qv (fun (f9 : Nat → va_E) => GI (okc cI cL cZ cR cG cH L kd) kd L f9 ∧ (∀ b, kd b ≠ 12 → kd b ≠ 597 → kd b ≠ 598 → kd b ≠ 599 → f9 b = f b) ∧ (∀ b, kd b = 12 → ∀ j, fldR (f9 b) j = fldR (f b) j) ∧ (∀ b, kd b = 12 → ∀ j, j ≠ 43 → fldI (f9 b) j = fldI (f b) j) ∧ (∀ (w43 z43 : Int32), fldI (f o0) 43 = some w43 → fldI (f9 o0) 43 = some z43 → z43.toInt ≤ w43.toInt)) (qP (dC, dI) cI cL cZ cR cG cH L) (fun q => q ∈ L)) [.ref o0, .int p1].toArray s 0 0 (fun q => q ∈ L)) (F0 m 110 ls [.int y_143]) := by
                    intro y_143 by_143 H locs hP hS ls hl
                    refine lv_istore (lv' := [(4, .int y_143), (3, .int y_95), (2, .int y_96), (0, .ref o0), (1, .int p1)]) hx hb dX12_age_110 hl (by decide) rfl (fun ls hl => ?_)
                    refine lv_iload hx hb dX12_age_112 (lv_at hl 0 rfl) ?_
                    have hcut_151 : ∀ (y_146 : Int32), (0 ≤ y_146.toInt ∧ y_146.toInt ≤ 9) → ∀ (f_148 : Nat → va_E), GI (okc cI cL cZ cR cG cH L kd) kd L f_148 → ∀ (H : Heap) (locs : List Loc), va_P (dC, dI) vwCl (va_pl L f_148) H → va_S (fun q => q ∈ L) s.heap H locs → va_D (fun q => q ∈ L) (va_pl L f_148) → (∀ b, kd b ≠ 12 → kd b ≠ 597 → kd b ≠ 598 → kd b ≠ 599 → f_148 b = f b) → (∀ b, kd b = 12 → ∀ j, fldR (f_148 b) j = fldR (f b) j) → (∀ b, kd b = 12 → ∀ j, j ≠ 43 → fldI (f_148 b) j = fldI (f b) j) → (f_148 o0 = .inr (12, [.ref a_1, .ref a_2, .ref a_3, .int v_4, .ref a_5, .int v_6, .int v_7, .int v_8, .int v_9, .int v_10, .int v_11, .int v_12, .int v_13, .int v_14, .int v_15, .ref a_16, .ref a_17, .ref a_18, .ref a_19, .ref a_20, .ref a_21, .ref a_22, .ref a_23, .int v_24, .int v_25, .int v_26, .int v_27, .int v_28, .ref a_29, .int v_30, .ref a_31, .ref a_32, .int v_33, .int v_34, .ref a_35, .int v_36, .ref a_37, .ref a_38, .int v_39, .int v_40, .ref a_41, .ref a_42, .ref a_43, .int v_44, .ref a_45, .ref a_46, .ref a_47, .ref a_48, .ref a_49, .ref a_50, .ref a_51, .ref a_52, .ref a_53, .int v_54, .int v_55, .ref a_56])) → (f_148 a_41 = .inl (cI, 16, .inl g_138)) → (y_146.toInt ≤ y_95.toInt + 1) → ∀ (ls : Array Slot), lv_has ls 5 [(2, .int y_146), (4, .int y_143), (3, .int y_95), (0, .ref o0), (1, .int p1)] → W p l e (headSpec (wU yX12_age cX12_age 5 none) { frames := 5, cells := 0, slots := 0, locals := 128 }).room s m [.ref o0, .int p1].toArray below meth c H locs 0 0 (MQ below (va_Qv (fun (f9 : Nat → va_E) => GI (okc cI cL cZ cR cG cH L kd) kd L f9 ∧ (∀ b, kd b ≠ 12 → kd b ≠ 597 → kd b ≠ 598 → kd b ≠ 599 → f9 b = f b) ∧ (∀ b, kd b = 12 → ∀ j, fldR (f9 b) j = fldR (f b) j) ∧ (∀ b, kd b = 12 → ∀ j, j ≠ 43 → fldI (f9 b) j = fldI (f b) j) ∧ (∀ (w43 z43 : Int32), fldI (f o0) 43 = some w43 → fldI (f9 o0) 43 = some z43 → z43.toInt ≤ w43.toInt)) (qP (dC, dI) cI cL cZ cR cG cH L) (fun q => q ∈ L)) [.ref o0, .int p1].toArray s 0 0 (fun q => q ∈ L)) (F0 m 131 ls []) := by
                      intro y_146 by_146 f_148 hG H locs hP hS hD hfr0 hrA12 hfA12 hfo_149 hfo_150 hjhcut_151_0 ls hl
                      obtain ⟨x_152, ex_152⟩ : ∃ y : Int32, y_95 + 1 = y := ⟨_, rfl⟩
                      have hx_152 : x_152.toInt = y_95.toInt + 1 := by rw [← ex_152, ad_I (by rw [ti_1]; omega) (by rw [ti_1]; omega), ti_1]
                      have bx_152 : (1 ≤ x_152.toInt ∧ x_152.toInt ≤ 8) := by constructor <;> omega
                      refine lv_iinc (v := x_152) (lv' := [(3, .int x_152), (2, .int y_146), (4, .int y_143), (0, .ref o0), (1, .int p1)]) hx hb dX12_age_131 hl (k := 2) rfl ex_152 (by decide) rfl (fun ls hl => ?_)
                      refine lv_goto (tgt := 55) hx hb dX12_age_134 (by decide) ?_
                      exact ih_hloop_94 x_152 (by constructor <;> omega) y_146 (by constructor <;> omega) f_148 hG _ _ hP hS hD hfr0 hrA12 hfA12 hfo_149 (by omega) (by omega) ls (lv_sub hl [0, 1, 3, 4] rfl)
                    refine lv_if_ne (tgt := 120) hx hb dX12_age_114 (by decide) (fun c_153 => ?_) (fun c_153 => ?_)
                    · skip
                      rw [← Int32.toInt_inj, ti_0] at c_153
                      refine lv_aload_n hx hb dX12_age_120 rfl (lv_at hl 3 rfl) ?_
                      refine tk_getP (D := (dC, dI)) (ci := 12) (v := .ref a_43) (C := RX12) (T := TX12) (N := 56) hx hb hU inlX12 hown hK hP mo0 hfo_99 rfl 42 (by decide) (hU _ wd_192) (fun _ h9 => h9) rfl dX12_age_121 ?_
                      refine lv_iload_n hx hb dX12_age_124 rfl (lv_at hl 2 rfl) ?_
                      refine lv_iload hx hb dX12_age_125 (lv_at hl 0 rfl) ?_
                      obtain ⟨g_155, hfo_154, hbg_155⟩ := un_599 (hG _ ma_43) ka_43
                      refine tk_istP hx hb hK hP hD hS 0 ma_43 hfo_154 rfl (vp_in_iff.mpr (by constructor <;> omega)) dX12_age_127 (fun H locs hP hD hS => ?_)
                      obtain ⟨f_157, ef_157⟩ : ∃ y : Nat → va_E, y = va_up f_98 a_43 (.inl (cI, 16, .inl (upd g_155 (Int32.toNatClampNeg y_96) y_143))) := ⟨_, rfl⟩
                      have hP : va_P (dC, dI) vwCl (va_pl L f_157) H := by rw [ef_157]; exact hP
                      have hD : va_D (fun q => q ∈ L) (va_pl L f_157) := by rw [ef_157]; exact hD
                      have hG : GI (okc cI cL cZ cR cG cH L kd) kd L f_157 := by rw [ef_157]; exact hG.set a_43 (mk_599 ka_43 ⟨_, rfl, okI_up hbg_155 (by constructor <;> omega) _⟩)
                      have hfo_158 : f_157 o0 = .inr (12, [.ref a_1, .ref a_2, .ref a_3, .int v_4, .ref a_5, .int v_6, .int v_7, .int v_8, .int v_9, .int v_10, .int v_11, .int v_12, .int v_13, .int v_14, .int v_15, .ref a_16, .ref a_17, .ref a_18, .ref a_19, .ref a_20, .ref a_21, .ref a_22, .ref a_23, .int v_24, .int v_25, .int v_26, .int v_27, .int v_28, .ref a_29, .int v_30, .ref a_31, .ref a_32, .int v_33, .int v_34, .ref a_35, .int v_36, .ref a_37, .ref a_38, .int v_39, .int v_40, .ref a_41, .ref a_42, .ref a_43, .int v_44, .ref a_45, .ref a_46, .ref a_47, .ref a_48, .ref a_49, .ref a_50, .ref a_51, .ref a_52, .ref a_53, .int v_54, .int v_55, .ref a_56]) := by rw [ef_157, up_ne (kd_ne ka_43 ko0 (by decide))]; exact hfo_99
                      have hfo_159 : f_157 a_41 = .inl (cI, 16, .inl g_138) := by rw [ef_157, up_ne (kd_ne ka_43 ka_41 (by decide))]; exact hfo_137
                      have hfr0 : ∀ b, kd b ≠ 12 → kd b ≠ 597 → kd b ≠ 598 → kd b ≠ 599 → f_157 b = f b := fun b q12 q597 q598 q599 => (congrFun ef_157 b).trans ((up_ne (fun e9 => q599 (by rw [e9]; exact ka_43))).trans (hfr0 b q12 q597 q598 q599))
                      have hrA12 : ∀ b, kd b = 12 → ∀ j, fldR (f_157 b) j = fldR (f b) j := fun b kb j => (congrArg (fun x => fldR x j) ((congrFun ef_157 b).trans (up_ne (kd_ne ka_43 kb (by decide))))).trans (hrA12 b kb j)
                      have hfA12 : ∀ b, kd b = 12 → ∀ j, j ≠ 43 → fldI (f_157 b) j = fldI (f b) j := fun b kb j n43 => (congrArg (fun x => fldI x j) ((congrFun ef_157 b).trans (up_ne (kd_ne ka_43 kb (by decide))))).trans (hfA12 b kb j n43)
                      have hfo_160 : f_157 a_43 = .inl (cI, 16, .inl (upd g_155 (Int32.toNatClampNeg y_96) y_143)) := by rw [ef_157]; exact up_self
                      obtain ⟨x_161, ex_161⟩ : ∃ y : Int32, y_96 + 1 = y := ⟨_, rfl⟩
                      have hx_161 : x_161.toInt = y_96.toInt + 1 := by rw [← ex_161, ad_I (by rw [ti_1]; omega) (by rw [ti_1]; omega), ti_1]
                      have bx_161 : (1 ≤ x_161.toInt ∧ x_161.toInt ≤ 9) := by constructor <;> omega
                      refine lv_iinc (v := x_161) (lv' := [(2, .int x_161), (4, .int y_143), (3, .int y_95), (0, .ref o0), (1, .int p1)]) hx hb dX12_age_128 hl (k := 2) rfl ex_161 (by decide) rfl (fun ls hl => ?_)
                      exact hcut_151 x_161 (by constructor <;> omega) f_157 hG _ _ hP hS hD hfr0 hrA12 hfA12 hfo_158 hfo_159 (by omega) ls (lv_sub hl [0, 1, 2, 3, 4] rfl)
                    · skip
                      rw [← Int32.toInt_inj, ti_0] at c_153
                      refine lv_goto (tgt := 131) hx hb dX12_age_117 (by decide) ?_
                      exact hcut_151 y_96 (by constructor <;> omega) f_98 hG _ _ hP hS hD hfr0 hrA12 hfA12 hfo_99 hfo_137 (by omega) ls (lv_sub hl [2, 0, 1, 3, 4] rfl)
                  refine lv_icmp_ne (tgt := 104) hx hb dX12_age_75 (by decide) (fun c_162 => ?_) (fun c_162 => ?_)
                  · skip
                    rw [← Int32.toInt_inj] at c_162
                    refine lv_aload_n hx hb dX12_age_104 rfl (lv_at hl 2 rfl) ?_
                    refine tk_getP (D := (dC, dI)) (ci := 12) (v := .ref a_41) (C := RX12) (T := TX12) (N := 56) hx hb hU inlX12 hown hK hP mo0 hfo_99 rfl 40 (by decide) (hU _ wd_190) (fun _ h9 => h9) rfl dX12_age_105 ?_
                    refine lv_iload_n hx hb dX12_age_108 rfl (lv_at hl 0 rfl) ?_
                    refine tk_ildP hx hb hK hP 0 ma_41 hfo_137 rfl (vp_in_iff.mpr (by constructor <;> omega)) dX12_age_109 ?_
                    refine tk_topi (y := x_139) ex_139.symm ?_
                    exact hcut_145 x_139 (by constructor <;> omega) _ _ hP hS ls (lv_sub hl [0, 1, 2, 3] rfl)
                  · skip
                    rw [← Int32.toInt_inj] at c_162
                    refine lv_aload_n hx hb dX12_age_78 rfl (lv_at hl 2 rfl) ?_
                    refine lv_iload_n hx hb dX12_age_79 rfl (lv_at hl 3 rfl) ?_
                    refine lv_iload_n hx hb dX12_age_80 rfl (lv_at hl 0 rfl) ?_
                    refine lv_aload_n hx hb dX12_age_81 rfl (lv_at hl 2 rfl) ?_
                    refine tk_getP (D := (dC, dI)) (ci := 12) (v := .ref a_42) (C := RX12) (T := TX12) (N := 56) hx hb hU inlX12 hown hK hP mo0 hfo_99 rfl 41 (by decide) (hU _ wd_191) (fun _ h9 => h9) rfl dX12_age_82 ?_
                    refine lv_aload_n hx hb dX12_age_85 rfl (lv_at hl 2 rfl) ?_
                    refine tk_getP (D := (dC, dI)) (ci := 12) (v := .int v_44) (C := RX12) (T := TX12) (N := 56) hx hb hU inlX12 hown hK hP mo0 hfo_99 rfl 43 (by decide) (hU _ wd_572) (fun _ h9 => h9) rfl dX12_age_86 ?_
                    refine tk_ViP (As := [.int p1, .int y_95, .ref a_42, .int v_44]) (rest := []) (n := 4) hx hb hml hown hU hN hZ (s_X12_someHolds_k12_a598 l (dC, dI) cI cL cZ cR cG cH Z kd L f_98 hG o0 mo0 ko0 p1 (by constructor <;> omega) y_95 (by constructor <;> omega) a_42 ma_42 ka_42 v_44 (by constructor <;> omega)) wd_934 wd_935 wd_936 wd_5 wd_937 (by decide +kernel) ⟨Nat.le_of_ble_eq_true rfl, Nat.le_of_ble_eq_true rfl⟩ hK hP hD hS mo0 hfo_99 12 rfl rfl rfl hl.1 rfl (Nat.le_of_ble_eq_true rfl) dX12_age_89 ⟨Nat.le_of_ble_eq_true rfl, Nat.le_of_ble_eq_true rfl⟩ (fun x_163 f_164 H locs hw hP hD hS => ?_)
                    obtain ⟨rfl, bx_163⟩ := hw
                    refine lv_if_eq (tgt := 104) hx hb dX12_age_92 (by decide) (fun c_166 => ?_) (fun c_166 => ?_)
                    · skip
                      rw [← Int32.toInt_inj, ti_0] at c_166
                      refine lv_aload_n hx hb dX12_age_104 rfl (lv_at hl 2 rfl) ?_
                      refine tk_getP (D := (dC, dI)) (ci := 12) (v := .ref a_41) (C := RX12) (T := TX12) (N := 56) hx hb hU inlX12 hown hK hP mo0 hfo_99 rfl 40 (by decide) (hU _ wd_190) (fun _ h9 => h9) rfl dX12_age_105 ?_
                      refine lv_iload_n hx hb dX12_age_108 rfl (lv_at hl 0 rfl) ?_
                      refine tk_ildP hx hb hK hP 0 ma_41 hfo_137 rfl (vp_in_iff.mpr (by constructor <;> omega)) dX12_age_109 ?_
                      refine tk_topi (y := x_139) ex_139.symm ?_
                      exact hcut_145 x_139 (by constructor <;> omega) _ _ hP hS ls (lv_sub hl [0, 1, 2, 3] rfl)
                    · skip
                      rw [← Int32.toInt_inj, ti_0] at c_166
                      refine lv_aload_n hx hb dX12_age_95 rfl (lv_at hl 2 rfl) ?_
                      refine lv_iload_n hx hb dX12_age_96 rfl (lv_at hl 3 rfl) ?_
                      refine lv_iconst (v := 1) hx hb dX12_age_97 (by decide) ?_
                      refine tk_ViP (As := [.int p1, .int 1]) (rest := []) (n := 2) hx hb hml hown hU hN hZ (s_X12_ofRule_k12 l (dC, dI) cI cL cZ cR cG cH Z kd L f_98 hG o0 mo0 ko0 p1 (by constructor <;> omega) 1 (by decide)) wd_894 wd_895 wd_896 wd_5 wd_897 (by decide +kernel) ⟨Nat.le_of_ble_eq_true rfl, Nat.le_of_ble_eq_true rfl⟩ hK hP hD hS mo0 hfo_99 12 rfl rfl rfl hl.1 rfl (Nat.le_of_ble_eq_true rfl) dX12_age_98 ⟨Nat.le_of_ble_eq_true rfl, Nat.le_of_ble_eq_true rfl⟩ (fun x_167 f_168 H locs hw hP hD hS => ?_)
                      obtain ⟨rfl, bx_167⟩ := hw
                      refine lv_goto (tgt := 110) hx hb dX12_age_101 (by decide) ?_
                      exact hcut_145 x_167 (by constructor <;> omega) _ _ hP hS ls (lv_sub hl [0, 1, 2, 3] rfl)
            exact hloop_94 9 0 (by decide) 0 (by decide) f_85 hG _ _ hP hS hD hfr0 hrA12 hfA12 hfo_86 (by (try rw [ti_0]) <;> omega) (by (try rw [ti_0]) <;> omega) ls hl
          · skip
            rw [Int32.le_iff_toInt_le] at c_87
            refine lv_aload_n hx hb dX12_age_30 rfl (lv_at hl 1 rfl) ?_
            refine tk_getP (D := (dC, dI)) (ci := 12) (v := .ref a_42) (C := RX12) (T := TX12) (N := 56) hx hb hU inlX12 hown hK hP mo0 hfo_86 rfl 41 (by decide) (hU _ wd_191) (fun _ h9 => h9) rfl dX12_age_31 ?_
            refine lv_iload_n hx hb dX12_age_34 rfl (lv_at hl 0 rfl) ?_
            refine lv_bipush (v := 10) hx hb dX12_age_35 (by decide) ?_
            refine lv_aload_n hx hb dX12_age_37 rfl (lv_at hl 1 rfl) ?_
            refine tk_getP (D := (dC, dI)) (ci := 12) (v := .ref a_41) (C := RX12) (T := TX12) (N := 56) hx hb hU inlX12 hown hK hP mo0 hfo_86 rfl 40 (by decide) (hU _ wd_190) (fun _ h9 => h9) rfl dX12_age_38 ?_
            refine lv_iload_n hx hb dX12_age_41 rfl (lv_at hl 0 rfl) ?_
            obtain ⟨g_171, hfo_170, hbg_171⟩ := un_597 (hG _ ma_41) ka_41
            refine tk_ildP hx hb hK hP 0 ma_41 hfo_170 rfl (vp_in_iff.mpr (by constructor <;> omega)) dX12_age_42 ?_
            refine lv_topi (fun x_172 ex_172 => ?_)
            have bx_172 : (0 ≤ x_172.toInt ∧ x_172.toInt ≤ 8) := by rw [ex_172]; exact hbg_171 _
            refine lv_imul hx hb dX12_age_43 ?_
            refine lv_topi (fun x_173 ex_173 => ?_)
            have hx_173 : x_173.toInt = 10 * x_172.toInt := by rw [ex_173, ml_I (by rw [ti_10]; omega) (by rw [ti_10]; omega), ti_10]
            have bx_173 : (0 ≤ x_173.toInt ∧ x_173.toInt ≤ 80) := by constructor <;> omega
            obtain ⟨g_175, hfo_174, hbg_175⟩ := un_598 (hG _ ma_42) ka_42
            refine tk_istP hx hb hK hP hD hS 0 ma_42 hfo_174 rfl (vp_in_iff.mpr (by constructor <;> omega)) dX12_age_44 (fun H locs hP hD hS => ?_)
            obtain ⟨f_177, ef_177⟩ : ∃ y : Nat → va_E, y = va_up f_85 a_42 (.inl (cI, 16, .inl (upd g_175 (Int32.toNatClampNeg y_83) x_173))) := ⟨_, rfl⟩
            have hP : va_P (dC, dI) vwCl (va_pl L f_177) H := by rw [ef_177]; exact hP
            have hD : va_D (fun q => q ∈ L) (va_pl L f_177) := by rw [ef_177]; exact hD
            have hG : GI (okc cI cL cZ cR cG cH L kd) kd L f_177 := by rw [ef_177]; exact hG.set a_42 (mk_598 ka_42 ⟨_, rfl, okI_up hbg_175 ⟨i32_lo _, i32_hi _⟩ _⟩)
            have hfo_178 : f_177 o0 = .inr (12, [.ref a_1, .ref a_2, .ref a_3, .int v_4, .ref a_5, .int v_6, .int v_7, .int v_8, .int v_9, .int v_10, .int v_11, .int v_12, .int v_13, .int v_14, .int v_15, .ref a_16, .ref a_17, .ref a_18, .ref a_19, .ref a_20, .ref a_21, .ref a_22, .ref a_23, .int v_24, .int v_25, .int v_26, .int v_27, .int v_28, .ref a_29, .int v_30, .ref a_31, .ref a_32, .int v_33, .int v_34, .ref a_35, .int v_36, .ref a_37, .ref a_38, .int v_39, .int v_40, .ref a_41, .ref a_42, .ref a_43, .int v_44, .ref a_45, .ref a_46, .ref a_47, .ref a_48, .ref a_49, .ref a_50, .ref a_51, .ref a_52, .ref a_53, .int v_54, .int v_55, .ref a_56]) := by rw [ef_177, up_ne (kd_ne ka_42 ko0 (by decide))]; exact hfo_86
            have hfo_179 : f_177 a_41 = .inl (cI, 16, .inl g_171) := by rw [ef_177, up_ne (kd_ne ka_42 ka_41 (by decide))]; exact hfo_170
            have hfr0 : ∀ b, kd b ≠ 12 → kd b ≠ 597 → kd b ≠ 598 → kd b ≠ 599 → f_177 b = f b := fun b q12 q597 q598 q599 => (congrFun ef_177 b).trans ((up_ne (fun e9 => q598 (by rw [e9]; exact ka_42))).trans (hfr0 b q12 q597 q598 q599))
            have hrA12 : ∀ b, kd b = 12 → ∀ j, fldR (f_177 b) j = fldR (f b) j := fun b kb j => (congrArg (fun x => fldR x j) ((congrFun ef_177 b).trans (up_ne (kd_ne ka_42 kb (by decide))))).trans (hrA12 b kb j)
            have hfA12 : ∀ b, kd b = 12 → ∀ j, j ≠ 43 → fldI (f_177 b) j = fldI (f b) j := fun b kb j n43 => (congrArg (fun x => fldI x j) ((congrFun ef_177 b).trans (up_ne (kd_ne ka_42 kb (by decide))))).trans (hfA12 b kb j n43)
            have hfo_180 : f_177 a_42 = .inl (cI, 16, .inl (upd g_175 (Int32.toNatClampNeg y_83) x_173)) := by rw [ef_177]; exact up_self
            obtain ⟨x_181, ex_181⟩ : ∃ y : Int32, y_83 + 1 = y := ⟨_, rfl⟩
            have hx_181 : x_181.toInt = y_83.toInt + 1 := by rw [← ex_181, ad_I (by rw [ti_1]; omega) (by rw [ti_1]; omega), ti_1]
            have bx_181 : (1 ≤ x_181.toInt ∧ x_181.toInt ≤ 8) := by constructor <;> omega
            refine lv_iinc (v := x_181) (lv' := [(2, .int x_181), (0, .ref o0), (1, .int p1)]) hx hb dX12_age_45 hl (k := 0) rfl ex_181 (by decide) rfl (fun ls hl => ?_)
            refine lv_goto (tgt := 22) hx hb dX12_age_48 (by decide) ?_
            exact ih_hloop_82 x_181 (by constructor <;> omega) f_177 hG _ _ hP hS hD hfr0 hrA12 hfA12 hfo_178 (by omega) ls (lv_sub hl [0, 1, 2] rfl)
      exact hloop_82 9 0 (by decide) f hG _ _ hP hS hD hfr0 hrA12 hfA12 hfo_57 (by (try rw [ti_0]) <;> omega) ls hl
    · skip
      rw [← Int32.toInt_inj, ti_0] at c_66
      exact W.vret hx hb hr (fun t ht hW => ⟨⟨f, rfl, ⟨hG, hfr0, hrA12, hfA12, (by intro w43 z43 e43 d43; rw [hfo_57] at e43; rw [hfo_57] at d43; obtain rfl := Option.some.inj e43; obtain rfl := Option.some.inj d43; omega)⟩, by rw [ht]; exact hP, va_K.moved hW.alike hK, pl_in hD⟩, hS.F ht⟩) hS.2.2 dX12_age_19
