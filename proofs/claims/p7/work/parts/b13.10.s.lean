set_option maxHeartbeats 8000000 in
set_option maxRecDepth 100000 in
theorem s_X12_fewestPairs_k12 (l : Launch) (D : va_G) (cI cL cZ cR cG cH : ClassId) (Z : zT) (kd : Nat → Nat) (L : List Nat) (f : Nat → va_E) (hG : GI (okc cI cL cZ cR cG cH L kd) kd L f) (o0 : Nat) (mo0 : o0 ∈ L) (ko0 : kd o0 = 12) (p1 : Int32) (bp1 : (0 ≤ p1.toInt ∧ p1.toInt ≤ 23)) (p2 : Int32) (bp2 : (0 ≤ p2.toInt ∧ p2.toInt ≤ 23)) (p3 : Int32) (bp3 : (0 ≤ p3.toInt ∧ p3.toInt ≤ 1)) : mPI l D cI cL cZ cR cG cH Z yX12_fewestPairs cX12_fewestPairs 10 (some .int) 4 100 [.ref o0, .int p1, .int p2, .int p3] L f (fun (r : Int32) (f9 : Nat → va_E) => GI (okc cI cL cZ cR cG cH L kd) kd L f9 ∧ ((-1) ≤ r.toInt ∧ r.toInt ≤ 4) ∧ (∀ b, kd b ≠ 600 → kd b ≠ 601 → f9 b = f b)) := by
  obtain ⟨dC, dI⟩ := D
  refine Met.ofW (cc := cX12_fewestPairs) (maxL := 10) (ret := (some .int)) (by decide) rfl ?_
  intro p e s m args below meth c s₁ B hml hv
  obtain ⟨rfl, hP, hK, hD0, hN, hZ⟩ := hv
  have hx := B.exec
  have hb := B.bytes
  have hr := B.returns
  have hU : ∀ w ∈ wsU, w.before _ s = true := fun w h => atoms_spec (ws := wU yX12_fewestPairs cX12_fewestPairs 10 (some .int)) B.pre w (List.mem_cons_of_mem _ h)
  have hown : s.vm.findClass RX12 = some m.cls := findClass_of_methodNamed B.named
  have hlocks := B.notSynchronized
  have hD := pl_in hD0
  have hS : va_S (fun q => q ∈ L) s.heap s.heap [] := va_S.rf
  have hl := lv_entry ([.ref o0, .int p1, .int p2, .int p3]) (n := 10) (Nat.le_of_ble_eq_true rfl)
  rw [lg_entry_eq]
  generalize (lg_sl ([.ref o0, .int p1, .int p2, .int p3]) ++ List.replicate (10 - (lg_sl ([.ref o0, .int p1, .int p2, .int p3])).length) Slot.unset).toArray = ls at hl ⊢
  have hl : lv_has ls 10 [(0, .ref o0), (1, .int p1), (2, .int p2), (3, .int p3)] := hl
  have hfr0 : ∀ b, kd b ≠ 600 → kd b ≠ 601 → f b = f b := fun _ _ _ => rfl
  obtain ⟨a_2, a_3, a_4, v_5, a_6, v_7, v_8, v_9, v_10, v_11, v_12, v_13, v_14, v_15, v_16, a_17, a_18, a_19, a_20, a_21, a_22, a_23, a_24, v_25, v_26, v_27, v_28, v_29, a_30, v_31, a_32, a_33, v_34, v_35, a_36, v_37, a_38, a_39, v_40, v_41, a_42, a_43, a_44, v_45, a_46, a_47, a_48, a_49, a_50, a_51, a_52, a_53, a_54, v_55, v_56, a_57, hfo_1, ⟨ma_2, ka_2⟩, ⟨ma_3, ka_3⟩, ⟨ma_4, ka_4⟩, bv_5, ⟨ma_6, ka_6⟩, bv_7, bv_8, bv_13, bv_14, bv_15, ⟨ma_17, ka_17⟩, ⟨ma_18, ka_18⟩, ⟨ma_19, ka_19⟩, ⟨ma_20, ka_20⟩, ⟨ma_21, ka_21⟩, ⟨ma_22, ka_22⟩, ⟨ma_23, ka_23⟩, ⟨ma_24, ka_24⟩, bv_25, bv_27, bv_29, ⟨ma_30, ka_30⟩, bv_31, ⟨ma_32, ka_32⟩, ⟨ma_33, ka_33⟩, bv_34, ⟨ma_36, ka_36⟩, bv_37, ⟨ma_38, ka_38⟩, ⟨ma_39, ka_39⟩, bv_40, ⟨ma_42, ka_42⟩, ⟨ma_43, ka_43⟩, ⟨ma_44, ka_44⟩, bv_45, ⟨ma_46, ka_46⟩, ⟨ma_47, ka_47⟩, ⟨ma_48, ka_48⟩, ⟨ma_49, ka_49⟩, ⟨ma_50, ka_50⟩, ⟨ma_51, ka_51⟩, ⟨ma_52, ka_52⟩, ⟨ma_53, ka_53⟩, ⟨ma_54, ka_54⟩, bv_55, ⟨ma_57, ka_57⟩⟩ := un_12 (hG _ mo0) ko0
  have bv_9 : ((-2147483648) ≤ v_9.toInt ∧ v_9.toInt ≤ 2147483647) := ⟨i32_lo _, i32_hi _⟩
  have bv_10 : ((-2147483648) ≤ v_10.toInt ∧ v_10.toInt ≤ 2147483647) := ⟨i32_lo _, i32_hi _⟩
  have bv_11 : ((-2147483648) ≤ v_11.toInt ∧ v_11.toInt ≤ 2147483647) := ⟨i32_lo _, i32_hi _⟩
  have bv_12 : ((-2147483648) ≤ v_12.toInt ∧ v_12.toInt ≤ 2147483647) := ⟨i32_lo _, i32_hi _⟩
  have bv_16 : ((-2147483648) ≤ v_16.toInt ∧ v_16.toInt ≤ 2147483647) := ⟨i32_lo _, i32_hi _⟩
  have bv_26 : ((-2147483648) ≤ v_26.toInt ∧ v_26.toInt ≤ 2147483647) := ⟨i32_lo _, i32_hi _⟩
  have bv_28 : ((-2147483648) ≤ v_28.toInt ∧ v_28.toInt ≤ 2147483647) := ⟨i32_lo _, i32_hi _⟩
  have bv_35 : ((-2147483648) ≤ v_35.toInt ∧ v_35.toInt ≤ 2147483647) := ⟨i32_lo _, i32_hi _⟩
  have bv_41 : ((-2147483648) ≤ v_41.toInt ∧ v_41.toInt ≤ 2147483647) := ⟨i32_lo _, i32_hi _⟩
  have bv_56 : ((-2147483648) ≤ v_56.toInt ∧ v_56.toInt ≤ 2147483647) := ⟨i32_lo _, i32_hi _⟩
  obtain ⟨g_59, hfo_58, hbg_59⟩ := un_601 (hG _ ma_47) ka_47
  obtain ⟨g_61, hfo_60, hbg_61⟩ := un_600 (hG _ ma_46) ka_46
  refine lv_iconst (v := 0) hx hb dX12_fewestPairs_0 (by decide) ?_
  refine lv_istore (lv' := [(4, .int 0), (0, .ref o0), (1, .int p1), (2, .int p2), (3, .int p3)]) hx hb dX12_fewestPairs_1 hl (by decide) rfl (fun ls hl => ?_)
  have hloop_81 : ∀ (n : Nat), ∀ (y_82 : Int32), (0 ≤ y_82.toInt ∧ y_82.toInt ≤ 4096) → ∀ (f_84 : Nat → va_E), GI (okc cI cL cZ cR cG cH L kd) kd L f_84 → ∀ (H : Heap) (locs : List Loc), va_P (dC, dI) vwCl (va_pl L f_84) H → va_S (fun q => q ∈ L) s.heap H locs → va_D (fun q => q ∈ L) (va_pl L f_84) → (∀ b, kd b ≠ 600 → kd b ≠ 601 → f_84 b = f b) → (f_84 o0 = .inr (12, [.ref a_2, .ref a_3, .ref a_4, .int v_5, .ref a_6, .int v_7, .int v_8, .int v_9, .int v_10, .int v_11, .int v_12, .int v_13, .int v_14, .int v_15, .int v_16, .ref a_17, .ref a_18, .ref a_19, .ref a_20, .ref a_21, .ref a_22, .ref a_23, .ref a_24, .int v_25, .int v_26, .int v_27, .int v_28, .int v_29, .ref a_30, .int v_31, .ref a_32, .ref a_33, .int v_34, .int v_35, .ref a_36, .int v_37, .ref a_38, .ref a_39, .int v_40, .int v_41, .ref a_42, .ref a_43, .ref a_44, .int v_45, .ref a_46, .ref a_47, .ref a_48, .ref a_49, .ref a_50, .ref a_51, .ref a_52, .ref a_53, .ref a_54, .int v_55, .int v_56, .ref a_57])) → (f_84 a_46 = .inl (cI, 4096, .inl g_61)) → 4096 - y_82.toInt < (n : Int) → ∀ (ls : Array Slot), lv_has ls 10 [(4, .int y_82), (0, .ref o0), (1, .int p1), (2, .int p2), (3, .int p3)] → W p l e (headSpec (wU yX12_fewestPairs cX12_fewestPairs 10 (some .int)) { frames := 4, cells := 0, slots := 0, locals := 100 }).room s m [.ref o0, .int p1, .int p2, .int p3].toArray below meth c H locs 0 0 (MQ below (va_Qi (fun (r : Int32) (f9 : Nat → va_E) => GI (okc cI cL cZ cR cG cH L kd) kd L f9 ∧ ((-1) ≤ r.toInt ∧ r.toInt ≤ 4) ∧ (∀ b, kd b ≠ 600 → kd b ≠ 601 → f9 b = f b)) (qP (dC, dI) cI cL cZ cR cG cH L) (fun q => q ∈ L)) [.ref o0, .int p1, .int p2, .int p3].toArray s 0 0 (fun q => q ∈ L)) (F0 m 3 ls []) := by
    intro n
    induction n with
    | zero => intro y_82 by_82 f_84 hG H locs hP hS hD hfr0 hfo_85 hfo_86 hmuhloop_81 ls hl; exfalso; omega
    | succ n ih_hloop_81 =>
      intro y_82 by_82 f_84 hG H locs hP hS hD hfr0 hfo_85 hfo_86 hmuhloop_81 ls hl
      refine lv_iload hx hb dX12_fewestPairs_3 (lv_at hl 0 rfl) ?_
      refine lv_sipush (v := 4096) hx hb dX12_fewestPairs_5 (by decide) ?_
      refine lv_icmp_ge (tgt := 25) hx hb dX12_fewestPairs_8 (by decide) (fun c_87 => ?_) (fun c_87 => ?_)
      · skip
        rw [Int32.le_iff_toInt_le, ti_4096] at c_87
        refine lv_bipush (v := 64) hx hb dX12_fewestPairs_25 (by decide) ?_
        refine lv_aload_n hx hb dX12_fewestPairs_27 rfl (lv_at hl 1 rfl) ?_
        refine lv_iload_n hx hb dX12_fewestPairs_28 rfl (lv_at hl 2 rfl) ?_
        refine lv_iload_n hx hb dX12_fewestPairs_29 rfl (lv_at hl 4 rfl) ?_
        refine lv_iconst (v := 1) hx hb dX12_fewestPairs_30 (by decide) ?_
        refine tk_ViP (As := [.int p1, .int p3, .int 1]) (rest := [.int 64]) (n := 3) hx hb hml hown hU hN hZ (s_X12_closed_k12 l (dC, dI) cI cL cZ cR cG cH Z kd L f_84 hG o0 mo0 ko0 p1 (by constructor <;> omega) p3 (by constructor <;> omega) 1 (by decide)) wd_878 wd_879 wd_880 wd_5 wd_881 (by decide +kernel) ⟨Nat.le_of_ble_eq_true rfl, Nat.le_of_ble_eq_true rfl⟩ hK hP hD hS mo0 hfo_85 12 rfl rfl rfl hl.1 rfl (Nat.le_of_ble_eq_true rfl) dX12_fewestPairs_31 ⟨Nat.le_of_ble_eq_true rfl, Nat.le_of_ble_eq_true rfl⟩ (fun x_88 f_89 H locs hw hP hD hS => ?_)
        obtain ⟨rfl, bx_88⟩ := hw
        refine lv_imul hx hb dX12_fewestPairs_34 ?_
        refine lv_topi (fun x_91 ex_91 => ?_)
        have hx_91 : x_91.toInt = 64 * x_88.toInt := by rw [ex_91, ml_I (by rw [ti_64]; omega) (by rw [ti_64]; omega), ti_64]
        have bx_91 : (0 ≤ x_91.toInt ∧ x_91.toInt ≤ 4032) := by constructor <;> omega
        refine lv_aload_n hx hb dX12_fewestPairs_35 rfl (lv_at hl 1 rfl) ?_
        refine lv_iload_n hx hb dX12_fewestPairs_36 rfl (lv_at hl 3 rfl) ?_
        refine lv_iload_n hx hb dX12_fewestPairs_37 rfl (lv_at hl 4 rfl) ?_
        refine lv_iconst (v := 1) hx hb dX12_fewestPairs_38 (by decide) ?_
        refine tk_ViP (As := [.int p2, .int p3, .int 1]) (rest := [.int x_91]) (n := 3) hx hb hml hown hU hN hZ (s_X12_closed_k12 l (dC, dI) cI cL cZ cR cG cH Z kd L f_84 hG o0 mo0 ko0 p2 (by constructor <;> omega) p3 (by constructor <;> omega) 1 (by decide)) wd_878 wd_879 wd_880 wd_5 wd_881 (by decide +kernel) ⟨Nat.le_of_ble_eq_true rfl, Nat.le_of_ble_eq_true rfl⟩ hK hP hD hS mo0 hfo_85 12 rfl rfl rfl hl.1 rfl (Nat.le_of_ble_eq_true rfl) dX12_fewestPairs_39 ⟨Nat.le_of_ble_eq_true rfl, Nat.le_of_ble_eq_true rfl⟩ (fun x_92 f_93 H locs hw hP hD hS => ?_)
        obtain ⟨rfl, bx_92⟩ := hw
        refine lv_iadd hx hb dX12_fewestPairs_42 ?_
        refine lv_topi (fun x_95 ex_95 => ?_)
        have hx_95 : x_95.toInt = x_91.toInt + x_92.toInt := by rw [ex_95, ad_I (by omega) (by omega)]
        have bx_95 : (0 ≤ x_95.toInt ∧ x_95.toInt ≤ 4095) := by constructor <;> omega
        refine lv_istore (lv' := [(4, .int x_95), (0, .ref o0), (1, .int p1), (2, .int p2), (3, .int p3)]) hx hb dX12_fewestPairs_43 hl (by decide) rfl (fun ls hl => ?_)
        refine lv_aload_n hx hb dX12_fewestPairs_45 rfl (lv_at hl 1 rfl) ?_
        refine tk_getP (D := (dC, dI)) (ci := 12) (v := .ref a_47) (C := RX12) (T := TX12) (N := 56) hx hb hU inlX12 hown hK hP mo0 hfo_85 rfl 45 (by decide) (hU _ wd_194) (fun _ h9 => h9) rfl dX12_fewestPairs_46 ?_
        refine lv_iload hx hb dX12_fewestPairs_49 (lv_at hl 0 rfl) ?_
        refine lv_iconst (v := 0) hx hb dX12_fewestPairs_51 (by decide) ?_
        obtain ⟨g_97, hfo_96, hbg_97⟩ := un_601 (hG _ ma_47) ka_47
        refine tk_istP hx hb hK hP hD hS 0 ma_47 hfo_96 rfl (vp_in_iff.mpr (by constructor <;> omega)) dX12_fewestPairs_52 (fun H locs hP hD hS => ?_)
        obtain ⟨g_98, eqg_98⟩ : ∃ y : Nat → Int32, y = upd g_97 (Int32.toNatClampNeg x_95) 0 := ⟨_, rfl⟩
        rw [← eqg_98] at hP hD
        have hbg_98 : ∀ j, (-1) ≤ (g_98 j).toInt ∧ (g_98 j).toInt ≤ 4 := by rw [eqg_98]; exact okI_up hbg_97 (by decide) _
        obtain ⟨f_100, ef_100⟩ : ∃ y : Nat → va_E, y = va_up f_84 a_47 (.inl (cI, 4096, .inl g_98)) := ⟨_, rfl⟩
        have hP : va_P (dC, dI) vwCl (va_pl L f_100) H := by rw [ef_100]; exact hP
        have hD : va_D (fun q => q ∈ L) (va_pl L f_100) := by rw [ef_100]; exact hD
        have hG : GI (okc cI cL cZ cR cG cH L kd) kd L f_100 := by rw [ef_100]; exact hG.set a_47 (mk_601 ka_47 ⟨_, rfl, hbg_98⟩)
        have hfo_101 : f_100 o0 = .inr (12, [.ref a_2, .ref a_3, .ref a_4, .int v_5, .ref a_6, .int v_7, .int v_8, .int v_9, .int v_10, .int v_11, .int v_12, .int v_13, .int v_14, .int v_15, .int v_16, .ref a_17, .ref a_18, .ref a_19, .ref a_20, .ref a_21, .ref a_22, .ref a_23, .ref a_24, .int v_25, .int v_26, .int v_27, .int v_28, .int v_29, .ref a_30, .int v_31, .ref a_32, .ref a_33, .int v_34, .int v_35, .ref a_36, .int v_37, .ref a_38, .ref a_39, .int v_40, .int v_41, .ref a_42, .ref a_43, .ref a_44, .int v_45, .ref a_46, .ref a_47, .ref a_48, .ref a_49, .ref a_50, .ref a_51, .ref a_52, .ref a_53, .ref a_54, .int v_55, .int v_56, .ref a_57]) := by rw [ef_100, up_ne (kd_ne ka_47 ko0 (by decide))]; exact hfo_85
        have hfo_102 : f_100 a_46 = .inl (cI, 4096, .inl g_61) := by rw [ef_100, up_ne (kd_ne ka_47 ka_46 (by decide))]; exact hfo_86
        have hfr0 : ∀ b, kd b ≠ 600 → kd b ≠ 601 → f_100 b = f b := fun b q600 q601 => (congrFun ef_100 b).trans ((up_ne (fun e9 => q601 (by rw [e9]; exact ka_47))).trans (hfr0 b q600 q601))
        have hfo_103 : f_100 a_47 = .inl (cI, 4096, .inl g_98) := by rw [ef_100]; exact up_self
        refine lv_aload_n hx hb dX12_fewestPairs_53 rfl (lv_at hl 1 rfl) ?_
        refine tk_getP (D := (dC, dI)) (ci := 12) (v := .ref a_46) (C := RX12) (T := TX12) (N := 56) hx hb hU inlX12 hown hK hP mo0 hfo_101 rfl 44 (by decide) (hU _ wd_193) (fun _ h9 => h9) rfl dX12_fewestPairs_54 ?_
        refine lv_iconst (v := 0) hx hb dX12_fewestPairs_57 (by decide) ?_
        refine lv_iload hx hb dX12_fewestPairs_58 (lv_at hl 0 rfl) ?_
        refine tk_istP hx hb hK hP hD hS 0 ma_46 hfo_102 rfl (vp_in_nI (n := 0) (by decide) (by decide)) dX12_fewestPairs_60 (fun H locs hP hD hS => ?_)
        obtain ⟨g_104, eqg_104⟩ : ∃ y : Nat → Int32, y = upd g_61 (Int32.toNatClampNeg 0) x_95 := ⟨_, rfl⟩
        rw [← eqg_104] at hP hD
        have hbg_104 : ∀ j, 0 ≤ (g_104 j).toInt ∧ (g_104 j).toInt ≤ 4095 := by rw [eqg_104]; exact okI_up hbg_61 (by constructor <;> omega) _
        obtain ⟨f_106, ef_106⟩ : ∃ y : Nat → va_E, y = va_up f_100 a_46 (.inl (cI, 4096, .inl g_104)) := ⟨_, rfl⟩
        have hP : va_P (dC, dI) vwCl (va_pl L f_106) H := by rw [ef_106]; exact hP
        have hD : va_D (fun q => q ∈ L) (va_pl L f_106) := by rw [ef_106]; exact hD
        have hG : GI (okc cI cL cZ cR cG cH L kd) kd L f_106 := by rw [ef_106]; exact hG.set a_46 (mk_600 ka_46 ⟨_, rfl, hbg_104⟩)
        have hfo_107 : f_106 o0 = .inr (12, [.ref a_2, .ref a_3, .ref a_4, .int v_5, .ref a_6, .int v_7, .int v_8, .int v_9, .int v_10, .int v_11, .int v_12, .int v_13, .int v_14, .int v_15, .int v_16, .ref a_17, .ref a_18, .ref a_19, .ref a_20, .ref a_21, .ref a_22, .ref a_23, .ref a_24, .int v_25, .int v_26, .int v_27, .int v_28, .int v_29, .ref a_30, .int v_31, .ref a_32, .ref a_33, .int v_34, .int v_35, .ref a_36, .int v_37, .ref a_38, .ref a_39, .int v_40, .int v_41, .ref a_42, .ref a_43, .ref a_44, .int v_45, .ref a_46, .ref a_47, .ref a_48, .ref a_49, .ref a_50, .ref a_51, .ref a_52, .ref a_53, .ref a_54, .int v_55, .int v_56, .ref a_57]) := by rw [ef_106, up_ne (kd_ne ka_46 ko0 (by decide))]; exact hfo_101
        have hfo_108 : f_106 a_47 = .inl (cI, 4096, .inl g_98) := by rw [ef_106, up_ne (kd_ne ka_46 ka_47 (by decide))]; exact hfo_103
        have hfr0 : ∀ b, kd b ≠ 600 → kd b ≠ 601 → f_106 b = f b := fun b q600 q601 => (congrFun ef_106 b).trans ((up_ne (fun e9 => q600 (by rw [e9]; exact ka_46))).trans (hfr0 b q600 q601))
        have hfo_109 : f_106 a_46 = .inl (cI, 4096, .inl g_104) := by rw [ef_106]; exact up_self
        refine lv_iconst (v := 1) hx hb dX12_fewestPairs_61 (by decide) ?_
        refine lv_istore (lv' := [(5, .int 1), (4, .int x_95), (0, .ref o0), (1, .int p1), (2, .int p2), (3, .int p3)]) hx hb dX12_fewestPairs_62 hl (by decide) rfl (fun ls hl => ?_)
        refine lv_iconst (v := 0) hx hb dX12_fewestPairs_64 (by decide) ?_
        refine lv_istore (lv' := [(6, .int 0), (5, .int 1), (4, .int x_95), (0, .ref o0), (1, .int p1), (2, .int p2), (3, .int p3)]) hx hb dX12_fewestPairs_65 hl (by decide) rfl (fun ls hl => ?_)
        have hloop_116 : ∀ (n : Nat), ∀ (y_117 : Int32), (0 ≤ y_117.toInt ∧ y_117.toInt ≤ 4096) → ∀ (y_118 : Int32), (1 ≤ y_118.toInt ∧ y_118.toInt ≤ 4096) → ∀ (f_120 : Nat → va_E), GI (okc cI cL cZ cR cG cH L kd) kd L f_120 → ∀ (H : Heap) (locs : List Loc), va_P (dC, dI) vwCl (va_pl L f_120) H → va_S (fun q => q ∈ L) s.heap H locs → va_D (fun q => q ∈ L) (va_pl L f_120) → (∀ b, kd b ≠ 600 → kd b ≠ 601 → f_120 b = f b) → (f_120 o0 = .inr (12, [.ref a_2, .ref a_3, .ref a_4, .int v_5, .ref a_6, .int v_7, .int v_8, .int v_9, .int v_10, .int v_11, .int v_12, .int v_13, .int v_14, .int v_15, .int v_16, .ref a_17, .ref a_18, .ref a_19, .ref a_20, .ref a_21, .ref a_22, .ref a_23, .ref a_24, .int v_25, .int v_26, .int v_27, .int v_28, .int v_29, .ref a_30, .int v_31, .ref a_32, .ref a_33, .int v_34, .int v_35, .ref a_36, .int v_37, .ref a_38, .ref a_39, .int v_40, .int v_41, .ref a_42, .ref a_43, .ref a_44, .int v_45, .ref a_46, .ref a_47, .ref a_48, .ref a_49, .ref a_50, .ref a_51, .ref a_52, .ref a_53, .ref a_54, .int v_55, .int v_56, .ref a_57])) → (y_117.toInt ≤ y_118.toInt) → (∀ gl gs, f_120 a_47 = .inl (cI, 4096, .inl gl) → f_120 a_46 = .inl (cI, 4096, .inl gs) → (∀ j : Nat, j < (y_118.toInt).toNat → 0 ≤ (gl (Int32.toNatClampNeg (gs j))).toInt) ∧ (y_118.toInt).toNat + ctE gl (-1) 4096 ≤ 4096) → 4096 - y_117.toInt < (n : Int) → ∀ (ls : Array Slot), lv_has ls 10 [(6, .int y_117), (5, .int y_118), (4, .int x_95), (0, .ref o0), (1, .int p1), (2, .int p2), (3, .int p3)] → W p l e (headSpec (wU yX12_fewestPairs cX12_fewestPairs 10 (some .int)) { frames := 4, cells := 0, slots := 0, locals := 100 }).room s m [.ref o0, .int p1, .int p2, .int p3].toArray below meth c H locs 0 0 (MQ below (va_Qi (fun (r : Int32) (f9 : Nat → va_E) => GI (okc cI cL cZ cR cG cH L kd) kd L f9 ∧ ((-1) ≤ r.toInt ∧ r.toInt ≤ 4) ∧ (∀ b, kd b ≠ 600 → kd b ≠ 601 → f9 b = f b)) (qP (dC, dI) cI cL cZ cR cG cH L) (fun q => q ∈ L)) [.ref o0, .int p1, .int p2, .int p3].toArray s 0 0 (fun q => q ∈ L)) (F0 m 67 ls []) := by
          intro n
          induction n with
          | zero => intro y_117 by_117 y_118 by_118 f_120 hG H locs hP hS hD hfr0 hfo_121 hrelhloop_116_0 hxi hmuhloop_116 ls hl; exfalso; omega
          | succ n ih_hloop_116 =>
            intro y_117 by_117 y_118 by_118 f_120 hG H locs hP hS hD hfr0 hfo_121 hrelhloop_116_0 hxi hmuhloop_116 ls hl
            refine lv_iload hx hb dX12_fewestPairs_67 (lv_at hl 0 rfl) ?_
            refine lv_iload hx hb dX12_fewestPairs_69 (lv_at hl 1 rfl) ?_
            refine lv_icmp_ge (tgt := 250) hx hb dX12_fewestPairs_71 (by decide) (fun c_122 => ?_) (fun c_122 => ?_)
            · skip
              rw [Int32.le_iff_toInt_le] at c_122
              refine lv_iconst (v := (-1)) hx hb dX12_fewestPairs_250 (by decide) ?_
              exact W.iret (v := (-1)) hx hb hr (fun t ht hW => ⟨⟨(-1), f_120, rfl, ⟨hG, (by decide), hfr0⟩, by rw [ht]; exact hP, va_K.moved hW.alike hK, pl_in hD⟩, hS.F ht⟩) hS.2.2 dX12_fewestPairs_251
            · skip
              rw [Int32.le_iff_toInt_le] at c_122
              refine lv_aload_n hx hb dX12_fewestPairs_74 rfl (lv_at hl 3 rfl) ?_
              refine tk_getP (D := (dC, dI)) (ci := 12) (v := .ref a_46) (C := RX12) (T := TX12) (N := 56) hx hb hU inlX12 hown hK hP mo0 hfo_121 rfl 44 (by decide) (hU _ wd_193) (fun _ h9 => h9) rfl dX12_fewestPairs_75 ?_
              refine lv_iload hx hb dX12_fewestPairs_78 (lv_at hl 0 rfl) ?_
              obtain ⟨g_124, hfo_123, hbg_124⟩ := un_600 (hG _ ma_46) ka_46
              refine tk_ildP hx hb hK hP 0 ma_46 hfo_123 rfl (vp_in_iff.mpr (by constructor <;> omega)) dX12_fewestPairs_80 ?_
              refine lv_topi (fun x_125 ex_125 => ?_)
              have bx_125 : (0 ≤ x_125.toInt ∧ x_125.toInt ≤ 4095) := by rw [ex_125]; exact hbg_124 _
              refine lv_istore (lv' := [(7, .int x_125), (6, .int y_117), (5, .int y_118), (4, .int x_95), (0, .ref o0), (1, .int p1), (2, .int p2), (3, .int p3)]) hx hb dX12_fewestPairs_81 hl (by decide) rfl (fun ls hl => ?_)
              obtain ⟨g_127, hfo_126, hbg_127⟩ := un_601 (hG _ ma_47) ka_47
              have hfo := hxi g_127 g_124 hfo_126 hfo_123
              have hs0 : 0 ≤ (g_127 (Int32.toNatClampNeg x_125)).toInt := by have hc9 := cl_I (i := y_117) (by omega); have h7 := hfo.1 (Int32.toNatClampNeg y_117) (by omega); rw [← ex_125] at h7; exact h7
              refine lv_aload_n hx hb dX12_fewestPairs_83 rfl (lv_at hl 4 rfl) ?_
              refine lv_iload_n hx hb dX12_fewestPairs_84 rfl (lv_at hl 5 rfl) ?_
              refine lv_iload_n hx hb dX12_fewestPairs_85 rfl (lv_at hl 7 rfl) ?_
              refine lv_iload hx hb dX12_fewestPairs_86 (lv_at hl 0 rfl) ?_
              refine lv_bipush (v := 64) hx hb dX12_fewestPairs_88 (by decide) ?_
              refine lv_idiv hx hb dX12_fewestPairs_90 (by decide) ?_
              refine lv_topi (fun x_128 ex_128 => ?_)
              have hx_128 : x_128.toInt = x_125.toInt / 64 := by rw [ex_128, dv_I (by omega) (by rw [ti_64]; omega), ti_64]
              have bx_128 : (0 ≤ x_128.toInt ∧ x_128.toInt ≤ 63) := by constructor <;> omega
              refine tk_ViP (As := [.int p1, .int p3, .int x_128]) (rest := []) (n := 3) hx hb hml hown hU hN hZ (s_X12_isDone_k12 l (dC, dI) cI cL cZ cR cG cH Z kd L f_120 hG o0 mo0 ko0 p1 (by constructor <;> omega) p3 (by constructor <;> omega) x_128) wd_898 wd_899 wd_900 wd_5 wd_901 (by decide +kernel) ⟨Nat.le_of_ble_eq_true rfl, Nat.le_of_ble_eq_true rfl⟩ hK hP hD hS mo0 hfo_121 12 rfl rfl rfl hl.1 rfl (Nat.le_of_ble_eq_true rfl) dX12_fewestPairs_91 ⟨Nat.le_of_ble_eq_true rfl, Nat.le_of_ble_eq_true rfl⟩ (fun x_129 f_130 H locs hw hP hD hS => ?_)
              obtain ⟨rfl, bx_129⟩ := hw
              refine lv_if_eq (tgt := 119) hx hb dX12_fewestPairs_94 (by decide) (fun c_132 => ?_) (fun c_132 => ?_)
              · skip
                rw [← Int32.toInt_inj, ti_0] at c_132
                refine lv_aload_n hx hb dX12_fewestPairs_119 rfl (lv_at hl 4 rfl) ?_
                refine tk_getP (D := (dC, dI)) (ci := 12) (v := .ref a_47) (C := RX12) (T := TX12) (N := 56) hx hb hU inlX12 hown hK hP mo0 hfo_121 rfl 45 (by decide) (hU _ wd_194) (fun _ h9 => h9) rfl dX12_fewestPairs_120 ?_
                refine lv_iload hx hb dX12_fewestPairs_123 (lv_at hl 0 rfl) ?_
                refine tk_ildP hx hb hK hP 0 ma_47 hfo_126 rfl (vp_in_iff.mpr (by constructor <;> omega)) dX12_fewestPairs_125 ?_
                refine lv_topi (fun x_133 ex_133 => ?_)
                have bx_133 : ((-1) ≤ x_133.toInt ∧ x_133.toInt ≤ 4) := by rw [ex_133]; exact hbg_127 _
                refine lv_iconst (v := 4) hx hb dX12_fewestPairs_126 (by decide) ?_
                have hcut_138 : ∀ (y_134 : Int32), (1 ≤ y_134.toInt ∧ y_134.toInt ≤ 4096) → ∀ (f_136 : Nat → va_E), GI (okc cI cL cZ cR cG cH L kd) kd L f_136 → ∀ (H : Heap) (locs : List Loc), va_P (dC, dI) vwCl (va_pl L f_136) H → va_S (fun q => q ∈ L) s.heap H locs → va_D (fun q => q ∈ L) (va_pl L f_136) → (∀ b, kd b ≠ 600 → kd b ≠ 601 → f_136 b = f b) → (f_136 o0 = .inr (12, [.ref a_2, .ref a_3, .ref a_4, .int v_5, .ref a_6, .int v_7, .int v_8, .int v_9, .int v_10, .int v_11, .int v_12, .int v_13, .int v_14, .int v_15, .int v_16, .ref a_17, .ref a_18, .ref a_19, .ref a_20, .ref a_21, .ref a_22, .ref a_23, .ref a_24, .int v_25, .int v_26, .int v_27, .int v_28, .int v_29, .ref a_30, .int v_31, .ref a_32, .ref a_33, .int v_34, .int v_35, .ref a_36, .int v_37, .ref a_38, .ref a_39, .int v_40, .int v_41, .ref a_42, .ref a_43, .ref a_44, .int v_45, .ref a_46, .ref a_47, .ref a_48, .ref a_49, .ref a_50, .ref a_51, .ref a_52, .ref a_53, .ref a_54, .int v_55, .int v_56, .ref a_57])) → ∀ (ls : Array Slot), lv_has ls 10 [(7, .int x_125), (6, .int y_117), (5, .int y_134), (4, .int x_95), (0, .ref o0), (1, .int p1), (2, .int p2), (3, .int p3)] → W p l e (headSpec (wU yX12_fewestPairs cX12_fewestPairs 10 (some .int)) { frames := 4, cells := 0, slots := 0, locals := 100 }).room s m [.ref o0, .int p1, .int p2, .int p3].toArray below meth c H locs 0 0 (MQ below (va_Qi (fun (r : Int32) (f9 : Nat → va_E) => GI (okc cI cL cZ cR cG cH L kd) kd L f9 ∧ ((-1) ≤ r.toInt ∧ r.toInt ≤ 4) ∧ (∀ b, kd b ≠ 600 → kd b ≠ 601 → f9 b = f b)) (qP (dC, dI) cI cL cZ cR cG cH L) (fun q => q ∈ L)) [.ref o0, .int p1, .int p2, .int p3].toArray s 0 0 (fun q => q ∈ L)) (F0 m 244 ls []) := by
                  intro y_134 by_134 f_136 hG H locs hP hS hD hfr0 hfo_137 ls hl
                  obtain ⟨x_139, ex_139⟩ : ∃ y : Int32, y_117 + 1 = y := ⟨_, rfl⟩
                  have hx_139 : x_139.toInt = y_117.toInt + 1 := by rw [← ex_139, ad_I (by rw [ti_1]; omega) (by rw [ti_1]; omega), ti_1]
                  have bx_139 : (1 ≤ x_139.toInt ∧ x_139.toInt ≤ 4096) := by constructor <;> omega
                  refine lv_iinc (v := x_139) (lv' := [(6, .int x_139), (7, .int x_125), (5, .int y_134), (4, .int x_95), (0, .ref o0), (1, .int p1), (2, .int p2), (3, .int p3)]) hx hb dX12_fewestPairs_244 hl (k := 1) rfl ex_139 (by decide) rfl (fun ls hl => ?_)
                  refine lv_goto (tgt := 67) hx hb dX12_fewestPairs_247 (by decide) ?_
                  obtain ⟨g_141, hfo_140, hbg_141⟩ := un_601 (hG _ ma_47) ka_47
                  obtain ⟨g_143, hfo_142, hbg_143⟩ := un_600 (hG _ ma_46) ka_46
                  exact ih_hloop_116 x_139 (by constructor <;> omega) y_134 (by constructor <;> omega) f_136 hG _ _ hP hS hD hfr0 hfo_137 (by omega) (fun gl gs h1 h2 => by first | exact ⟨(hxj gl gs h1 h2).1, (hxj gl gs h1 h2).2.1⟩ | exact hxi gl gs h1 h2) (by omega) ls (lv_sub hl [0, 2, 3, 4, 5, 6, 7] rfl)
                refine lv_icmp_ne (tgt := 133) hx hb dX12_fewestPairs_127 (by decide) (fun c_144 => ?_) (fun c_144 => ?_)
                · skip
                  rw [← Int32.toInt_inj, ti_4] at c_144
                  refine lv_iconst (v := 0) hx hb dX12_fewestPairs_133 (by decide) ?_
                  refine lv_istore (lv' := [(8, .int 0), (7, .int x_125), (6, .int y_117), (5, .int y_118), (4, .int x_95), (0, .ref o0), (1, .int p1), (2, .int p2), (3, .int p3)]) hx hb dX12_fewestPairs_134 hl (by decide) rfl (fun ls hl => ?_)
                  have hloop_151 : ∀ (n : Nat), ∀ (y_152 : Int32), (0 ≤ y_152.toInt ∧ y_152.toInt ≤ 20) → ∀ (y_153 : Int32), (1 ≤ y_153.toInt ∧ y_153.toInt ≤ 4096) → ∀ (f_155 : Nat → va_E), GI (okc cI cL cZ cR cG cH L kd) kd L f_155 → ∀ (H : Heap) (locs : List Loc), va_P (dC, dI) vwCl (va_pl L f_155) H → va_S (fun q => q ∈ L) s.heap H locs → va_D (fun q => q ∈ L) (va_pl L f_155) → (∀ b, kd b ≠ 600 → kd b ≠ 601 → f_155 b = f b) → (f_155 o0 = .inr (12, [.ref a_2, .ref a_3, .ref a_4, .int v_5, .ref a_6, .int v_7, .int v_8, .int v_9, .int v_10, .int v_11, .int v_12, .int v_13, .int v_14, .int v_15, .int v_16, .ref a_17, .ref a_18, .ref a_19, .ref a_20, .ref a_21, .ref a_22, .ref a_23, .ref a_24, .int v_25, .int v_26, .int v_27, .int v_28, .int v_29, .ref a_30, .int v_31, .ref a_32, .ref a_33, .int v_34, .int v_35, .ref a_36, .int v_37, .ref a_38, .ref a_39, .int v_40, .int v_41, .ref a_42, .ref a_43, .ref a_44, .int v_45, .ref a_46, .ref a_47, .ref a_48, .ref a_49, .ref a_50, .ref a_51, .ref a_52, .ref a_53, .ref a_54, .int v_55, .int v_56, .ref a_57])) → (y_117.toInt + 1 ≤ y_153.toInt) → (∀ gl gs, f_155 a_47 = .inl (cI, 4096, .inl gl) → f_155 a_46 = .inl (cI, 4096, .inl gs) → (∀ j : Nat, j < (y_153.toInt).toNat → 0 ≤ (gl (Int32.toNatClampNeg (gs j))).toInt) ∧ (y_153.toInt).toNat + ctE gl (-1) 4096 ≤ 4096 ∧ 0 ≤ (gl (Int32.toNatClampNeg x_125)).toInt ∧ (gl (Int32.toNatClampNeg x_125)).toInt ≤ 3) → 20 - y_152.toInt < (n : Int) → ∀ (ls : Array Slot), lv_has ls 10 [(8, .int y_152), (7, .int x_125), (6, .int y_117), (5, .int y_153), (4, .int x_95), (0, .ref o0), (1, .int p1), (2, .int p2), (3, .int p3)] → W p l e (headSpec (wU yX12_fewestPairs cX12_fewestPairs 10 (some .int)) { frames := 4, cells := 0, slots := 0, locals := 100 }).room s m [.ref o0, .int p1, .int p2, .int p3].toArray below meth c H locs 0 0 (MQ below (va_Qi (fun (r : Int32) (f9 : Nat → va_E) => GI (okc cI cL cZ cR cG cH L kd) kd L f9 ∧ ((-1) ≤ r.toInt ∧ r.toInt ≤ 4) ∧ (∀ b, kd b ≠ 600 → kd b ≠ 601 → f9 b = f b)) (qP (dC, dI) cI cL cZ cR cG cH L) (fun q => q ∈ L)) [.ref o0, .int p1, .int p2, .int p3].toArray s 0 0 (fun q => q ∈ L)) (F0 m 136 ls []) := by
                    intro n
                    induction n with
                    | zero => intro y_152 by_152 y_153 by_153 f_155 hG H locs hP hS hD hfr0 hfo_156 hrelhloop_151_0 hxj hmuhloop_151 ls hl; exfalso; omega
                    | succ n ih_hloop_151 =>
                      intro y_152 by_152 y_153 by_153 f_155 hG H locs hP hS hD hfr0 hfo_156 hrelhloop_151_0 hxj hmuhloop_151 ls hl
                      refine lv_iload hx hb dX12_fewestPairs_136 (lv_at hl 0 rfl) ?_
                      refine lv_aload_n hx hb dX12_fewestPairs_138 rfl (lv_at hl 5 rfl) ?_
                      refine tk_getP (D := (dC, dI)) (ci := 12) (v := .ref a_2) (C := RX12) (T := TX12) (N := 56) hx hb hU inlX12 hown hK hP mo0 hfo_156 rfl 0 (by decide) (hU _ wd_169) (fun _ h9 => h9) rfl dX12_fewestPairs_139 ?_
                      refine lv_bipush (v := 16) hx hb dX12_fewestPairs_142 (by decide) ?_
                      obtain ⟨g_158, hfo_157, hbg_158⟩ := un_575 (hG _ ma_2) ka_2
                      refine tk_ildP hx hb hK hP 0 ma_2 hfo_157 rfl (vp_in_nI (n := 16) (by decide) (by decide)) dX12_fewestPairs_144 ?_
                      refine lv_topi (fun x_159 ex_159 => ?_)
                      have bx_159 : (0 ≤ x_159.toInt ∧ x_159.toInt ≤ 20) := by rw [ex_159]; exact hbg_158.2.1 _ (by decide) (by decide) (by decide)
                      refine lv_icmp_ge (tgt := 244) hx hb dX12_fewestPairs_145 (by decide) (fun c_160 => ?_) (fun c_160 => ?_)
                      · skip
                        rw [Int32.le_iff_toInt_le] at c_160
                        exact hcut_138 y_153 (by constructor <;> omega) f_155 hG _ _ hP hS hD hfr0 hfo_156 ls (lv_sub hl [1, 2, 3, 4, 5, 6, 7, 8] rfl)
                      · skip
                        rw [Int32.le_iff_toInt_le] at c_160
                        refine lv_bipush (v := 64) hx hb dX12_fewestPairs_148 (by decide) ?_
                        refine lv_aload_n hx hb dX12_fewestPairs_150 rfl (lv_at hl 5 rfl) ?_
                        refine lv_iload_n hx hb dX12_fewestPairs_151 rfl (lv_at hl 6 rfl) ?_
                        refine lv_iload_n hx hb dX12_fewestPairs_152 rfl (lv_at hl 8 rfl) ?_
                        refine lv_iload hx hb dX12_fewestPairs_153 (lv_at hl 1 rfl) ?_
                        refine lv_bipush (v := 64) hx hb dX12_fewestPairs_155 (by decide) ?_
                        refine lv_idiv hx hb dX12_fewestPairs_157 (by decide) ?_
                        refine lv_topi (fun x_161 ex_161 => ?_)
                        have hx_161 : x_161.toInt = x_125.toInt / 64 := by rw [ex_161, dv_I (by omega) (by rw [ti_64]; omega), ti_64]
                        have bx_161 : (0 ≤ x_161.toInt ∧ x_161.toInt ≤ 63) := by constructor <;> omega
                        refine lv_aload_n hx hb dX12_fewestPairs_158 rfl (lv_at hl 5 rfl) ?_
                        refine tk_getP (D := (dC, dI)) (ci := 12) (v := .ref a_2) (C := RX12) (T := TX12) (N := 56) hx hb hU inlX12 hown hK hP mo0 hfo_156 rfl 0 (by decide) (hU _ wd_169) (fun _ h9 => h9) rfl dX12_fewestPairs_159 ?_
                        refine lv_bipush (v := 20) hx hb dX12_fewestPairs_162 (by decide) ?_
                        refine lv_iload hx hb dX12_fewestPairs_164 (lv_at hl 0 rfl) ?_
                        refine lv_iadd hx hb dX12_fewestPairs_166 ?_
                        refine lv_topi (fun x_162 ex_162 => ?_)
                        have hx_162 : x_162.toInt = 20 + y_152.toInt := by rw [ex_162, ad_I (by rw [ti_20]; omega) (by rw [ti_20]; omega), ti_20]
                        have bx_162 : (20 ≤ x_162.toInt ∧ x_162.toInt ≤ 39) := by constructor <;> omega
                        refine tk_ildP hx hb hK hP 0 ma_2 hfo_157 rfl (vp_in_iff.mpr (by constructor <;> omega)) dX12_fewestPairs_167 ?_
                        refine lv_topi (fun x_163 ex_163 => ?_)
                        have bx_163 : (0 ≤ x_163.toInt ∧ x_163.toInt ≤ 80) := by have hc9 := cl_I (i := x_162) (by omega); rw [ex_163]; exact hbg_158.2.2.2.2.2.1 _ (by omega) (by omega) (by omega)
                        refine tk_ViP (As := [.int p1, .int p3, .int x_161, .int x_163]) (rest := [.int 64]) (n := 4) hx hb hml hown hU hN hZ (s_X12_sideGoes_k12 l (dC, dI) cI cL cZ cR cG cH Z kd L f_155 hG o0 mo0 ko0 p1 (by constructor <;> omega) p3 (by constructor <;> omega) x_161 x_163) wd_1305 wd_1306 wd_1307 wd_5 wd_1308 (by decide +kernel) ⟨Nat.le_of_ble_eq_true rfl, Nat.le_of_ble_eq_true rfl⟩ hK hP hD hS mo0 hfo_156 12 rfl rfl rfl hl.1 rfl (Nat.le_of_ble_eq_true rfl) dX12_fewestPairs_168 ⟨Nat.le_of_ble_eq_true rfl, Nat.le_of_ble_eq_true rfl⟩ (fun x_164 f_165 H locs hw hP hD hS => ?_)
                        obtain ⟨rfl, bx_164⟩ := hw
                        refine lv_imul hx hb dX12_fewestPairs_171 ?_
                        refine lv_topi (fun x_167 ex_167 => ?_)
                        have hx_167 : x_167.toInt = 64 * x_164.toInt := by rw [ex_167, ml_I (by rw [ti_64]; omega) (by rw [ti_64]; omega), ti_64]
                        have bx_167 : (0 ≤ x_167.toInt ∧ x_167.toInt ≤ 4032) := by constructor <;> omega
                        refine lv_aload_n hx hb dX12_fewestPairs_172 rfl (lv_at hl 5 rfl) ?_
                        refine lv_iload_n hx hb dX12_fewestPairs_173 rfl (lv_at hl 7 rfl) ?_
                        refine lv_iload_n hx hb dX12_fewestPairs_174 rfl (lv_at hl 8 rfl) ?_
                        refine lv_iload hx hb dX12_fewestPairs_175 (lv_at hl 1 rfl) ?_
                        refine lv_bipush (v := 64) hx hb dX12_fewestPairs_177 (by decide) ?_
                        refine lv_irem hx hb dX12_fewestPairs_179 (by decide) ?_
                        refine lv_topi (fun x_168 ex_168 => ?_)
                        have hx_168 : x_168.toInt = x_125.toInt % 64 := by rw [ex_168, rm_I (by omega) (by rw [ti_64]; omega), ti_64]
                        have bx_168 : (0 ≤ x_168.toInt ∧ x_168.toInt ≤ 63) := by constructor <;> omega
                        refine lv_aload_n hx hb dX12_fewestPairs_180 rfl (lv_at hl 5 rfl) ?_
                        refine tk_getP (D := (dC, dI)) (ci := 12) (v := .ref a_2) (C := RX12) (T := TX12) (N := 56) hx hb hU inlX12 hown hK hP mo0 hfo_156 rfl 0 (by decide) (hU _ wd_169) (fun _ h9 => h9) rfl dX12_fewestPairs_181 ?_
                        refine lv_bipush (v := 20) hx hb dX12_fewestPairs_184 (by decide) ?_
                        refine lv_iload hx hb dX12_fewestPairs_186 (lv_at hl 0 rfl) ?_
                        refine lv_iadd hx hb dX12_fewestPairs_188 ?_
                        refine lv_topi (fun x_169 ex_169 => ?_)
                        have hx_169 : x_169.toInt = 20 + y_152.toInt := by rw [ex_169, ad_I (by rw [ti_20]; omega) (by rw [ti_20]; omega), ti_20]
                        have bx_169 : (20 ≤ x_169.toInt ∧ x_169.toInt ≤ 39) := by constructor <;> omega
                        refine tk_ildP hx hb hK hP 0 ma_2 hfo_157 rfl (vp_in_iff.mpr (by constructor <;> omega)) dX12_fewestPairs_189 ?_
                        refine lv_topi (fun x_170 ex_170 => ?_)
                        have bx_170 : (0 ≤ x_170.toInt ∧ x_170.toInt ≤ 80) := by have hc9 := cl_I (i := x_169) (by omega); rw [ex_170]; exact hbg_158.2.2.2.2.2.1 _ (by omega) (by omega) (by omega)
                        refine tk_ViP (As := [.int p2, .int p3, .int x_168, .int x_170]) (rest := [.int x_167]) (n := 4) hx hb hml hown hU hN hZ (s_X12_sideGoes_k12 l (dC, dI) cI cL cZ cR cG cH Z kd L f_155 hG o0 mo0 ko0 p2 (by constructor <;> omega) p3 (by constructor <;> omega) x_168 x_170) wd_1305 wd_1306 wd_1307 wd_5 wd_1308 (by decide +kernel) ⟨Nat.le_of_ble_eq_true rfl, Nat.le_of_ble_eq_true rfl⟩ hK hP hD hS mo0 hfo_156 12 rfl rfl rfl hl.1 rfl (Nat.le_of_ble_eq_true rfl) dX12_fewestPairs_190 ⟨Nat.le_of_ble_eq_true rfl, Nat.le_of_ble_eq_true rfl⟩ (fun x_171 f_172 H locs hw hP hD hS => ?_)
                        obtain ⟨rfl, bx_171⟩ := hw
                        refine lv_iadd hx hb dX12_fewestPairs_193 ?_
                        refine lv_topi (fun x_174 ex_174 => ?_)
                        have hx_174 : x_174.toInt = x_167.toInt + x_171.toInt := by rw [ex_174, ad_I (by omega) (by omega)]
                        have bx_174 : (0 ≤ x_174.toInt ∧ x_174.toInt ≤ 4095) := by constructor <;> omega
                        refine lv_istore (lv' := [(9, .int x_174), (8, .int y_152), (7, .int x_125), (6, .int y_117), (5, .int y_153), (4, .int x_95), (0, .ref o0), (1, .int p1), (2, .int p2), (3, .int p3)]) hx hb dX12_fewestPairs_194 hl (by decide) rfl (fun ls hl => ?_)
                        refine lv_aload_n hx hb dX12_fewestPairs_196 rfl (lv_at hl 6 rfl) ?_
                        refine tk_getP (D := (dC, dI)) (ci := 12) (v := .ref a_47) (C := RX12) (T := TX12) (N := 56) hx hb hU inlX12 hown hK hP mo0 hfo_156 rfl 45 (by decide) (hU _ wd_194) (fun _ h9 => h9) rfl dX12_fewestPairs_197 ?_
                        refine lv_iload hx hb dX12_fewestPairs_200 (lv_at hl 0 rfl) ?_
                        obtain ⟨g_176, hfo_175, hbg_176⟩ := un_601 (hG _ ma_47) ka_47
                        refine tk_ildP hx hb hK hP 0 ma_47 hfo_175 rfl (vp_in_iff.mpr (by constructor <;> omega)) dX12_fewestPairs_202 ?_
                        refine lv_topi (fun x_177 ex_177 => ?_)
                        have bx_177 : ((-1) ≤ x_177.toInt ∧ x_177.toInt ≤ 4) := by rw [ex_177]; exact hbg_176 _
                        refine lv_iconst (v := (-1)) hx hb dX12_fewestPairs_203 (by decide) ?_
                        have hcut_183 : ∀ (y_178 : Int32), (1 ≤ y_178.toInt ∧ y_178.toInt ≤ 4096) → ∀ (f_180 : Nat → va_E), GI (okc cI cL cZ cR cG cH L kd) kd L f_180 → ∀ (H : Heap) (locs : List Loc), va_P (dC, dI) vwCl (va_pl L f_180) H → va_S (fun q => q ∈ L) s.heap H locs → va_D (fun q => q ∈ L) (va_pl L f_180) → (∀ b, kd b ≠ 600 → kd b ≠ 601 → f_180 b = f b) → (f_180 o0 = .inr (12, [.ref a_2, .ref a_3, .ref a_4, .int v_5, .ref a_6, .int v_7, .int v_8, .int v_9, .int v_10, .int v_11, .int v_12, .int v_13, .int v_14, .int v_15, .int v_16, .ref a_17, .ref a_18, .ref a_19, .ref a_20, .ref a_21, .ref a_22, .ref a_23, .ref a_24, .int v_25, .int v_26, .int v_27, .int v_28, .int v_29, .ref a_30, .int v_31, .ref a_32, .ref a_33, .int v_34, .int v_35, .ref a_36, .int v_37, .ref a_38, .ref a_39, .int v_40, .int v_41, .ref a_42, .ref a_43, .ref a_44, .int v_45, .ref a_46, .ref a_47, .ref a_48, .ref a_49, .ref a_50, .ref a_51, .ref a_52, .ref a_53, .ref a_54, .int v_55, .int v_56, .ref a_57])) → (f_180 a_2 = .inl (cI, 1560, .inl g_158)) → ∀ (ls : Array Slot), lv_has ls 10 [(5, .int y_178), (9, .int x_174), (8, .int y_152), (7, .int x_125), (6, .int y_117), (4, .int x_95), (0, .ref o0), (1, .int p1), (2, .int p2), (3, .int p3)] → W p l e (headSpec (wU yX12_fewestPairs cX12_fewestPairs 10 (some .int)) { frames := 4, cells := 0, slots := 0, locals := 100 }).room s m [.ref o0, .int p1, .int p2, .int p3].toArray below meth c H locs 0 0 (MQ below (va_Qi (fun (r : Int32) (f9 : Nat → va_E) => GI (okc cI cL cZ cR cG cH L kd) kd L f9 ∧ ((-1) ≤ r.toInt ∧ r.toInt ≤ 4) ∧ (∀ b, kd b ≠ 600 → kd b ≠ 601 → f9 b = f b)) (qP (dC, dI) cI cL cZ cR cG cH L) (fun q => q ∈ L)) [.ref o0, .int p1, .int p2, .int p3].toArray s 0 0 (fun q => q ∈ L)) (F0 m 238 ls []) := by
                          intro y_178 by_178 f_180 hG H locs hP hS hD hfr0 hfo_181 hfo_182 ls hl
                          obtain ⟨x_184, ex_184⟩ : ∃ y : Int32, y_152 + 1 = y := ⟨_, rfl⟩
                          have hx_184 : x_184.toInt = y_152.toInt + 1 := by rw [← ex_184, ad_I (by rw [ti_1]; omega) (by rw [ti_1]; omega), ti_1]
                          have bx_184 : (1 ≤ x_184.toInt ∧ x_184.toInt ≤ 20) := by constructor <;> omega
                          refine lv_iinc (v := x_184) (lv' := [(8, .int x_184), (5, .int y_178), (9, .int x_174), (7, .int x_125), (6, .int y_117), (4, .int x_95), (0, .ref o0), (1, .int p1), (2, .int p2), (3, .int p3)]) hx hb dX12_fewestPairs_238 hl (k := 2) rfl ex_184 (by decide) rfl (fun ls hl => ?_)
                          refine lv_goto (tgt := 136) hx hb dX12_fewestPairs_241 (by decide) ?_
                          obtain ⟨g_186, hfo_185, hbg_186⟩ := un_601 (hG _ ma_47) ka_47
                          obtain ⟨g_188, hfo_187, hbg_188⟩ := un_600 (hG _ ma_46) ka_46
                          exact ih_hloop_151 x_184 (by constructor <;> omega) y_178 (by constructor <;> omega) f_180 hG _ _ hP hS hD hfr0 hfo_181 (by omega) (fun gl gs h1 h2 => hxj gl gs h1 h2) (by omega) ls (lv_sub hl [0, 3, 4, 1, 5, 6, 7, 8, 9] rfl)
                        refine lv_icmp_eq (tgt := 210) hx hb dX12_fewestPairs_204 (by decide) (fun c_189 => ?_) (fun c_189 => ?_)
                        · skip
                          rw [← Int32.toInt_inj, ti_m1] at c_189
                          obtain ⟨g_191, hfo_190, hbg_191⟩ := un_600 (hG _ ma_46) ka_46
                          have hfp := hxj g_176 g_191 hfo_175 hfo_190
                          refine lv_aload_n hx hb dX12_fewestPairs_210 rfl (lv_at hl 6 rfl) ?_
                          refine tk_getP (D := (dC, dI)) (ci := 12) (v := .ref a_47) (C := RX12) (T := TX12) (N := 56) hx hb hU inlX12 hown hK hP mo0 hfo_156 rfl 45 (by decide) (hU _ wd_194) (fun _ h9 => h9) rfl dX12_fewestPairs_211 ?_
                          refine lv_iload hx hb dX12_fewestPairs_214 (lv_at hl 0 rfl) ?_
                          refine lv_aload_n hx hb dX12_fewestPairs_216 rfl (lv_at hl 6 rfl) ?_
                          refine tk_getP (D := (dC, dI)) (ci := 12) (v := .ref a_47) (C := RX12) (T := TX12) (N := 56) hx hb hU inlX12 hown hK hP mo0 hfo_156 rfl 45 (by decide) (hU _ wd_194) (fun _ h9 => h9) rfl dX12_fewestPairs_217 ?_
                          refine lv_iload hx hb dX12_fewestPairs_220 (lv_at hl 2 rfl) ?_
                          refine tk_ildP hx hb hK hP 0 ma_47 hfo_175 rfl (vp_in_iff.mpr (by constructor <;> omega)) dX12_fewestPairs_222 ?_
                          refine lv_topi (fun x_192 ex_192 => ?_)
                          have bx_192 : ((-1) ≤ x_192.toInt ∧ x_192.toInt ≤ 4) := by rw [ex_192]; exact hbg_176 _
                          have hnrc_193 : (0 ≤ x_192.toInt ∧ x_192.toInt ≤ 3) := by have h7 := hfp.2.2; have h8 : x_192.toInt = (g_176 (Int32.toNatClampNeg x_125)).toInt := (by rw [ex_192]); constructor <;> omega
                          refine lv_iconst (v := 1) hx hb dX12_fewestPairs_223 (by decide) ?_
                          refine lv_iadd hx hb dX12_fewestPairs_224 ?_
                          refine lv_topi (fun x_194 ex_194 => ?_)
                          have hx_194 : x_194.toInt = x_192.toInt + 1 := by rw [ex_194, ad_I (by rw [ti_1]; omega) (by rw [ti_1]; omega), ti_1]
                          have bx_194 : (1 ≤ x_194.toInt ∧ x_194.toInt ≤ 4) := by constructor <;> omega
                          have hfq := fp_step (m := Int32.toNatClampNeg y_153) (s := Int32.toNatClampNeg x_125) (v := x_194) (nx := x_174) (gs := g_191) (by have hcm := cl_I (i := y_153) (by omega); intro j hj; exact hfp.1 j (by omega)) (by have hcm := cl_I (i := y_153) (by omega); have h7 := hfp.2.1; omega) hfp.2.2 rfl (by rw [← ex_177]; exact Int32.toInt_inj.mp (by rw [show ((-1 : Int32)).toInt = -1 from by decide]; omega)) (by have hc9 := cl_I (i := x_174) (by omega); omega) (by have h8 : x_192.toInt = (g_176 (Int32.toNatClampNeg x_125)).toInt := (by rw [ex_192]); omega)
                          have hmm : y_153.toInt ≤ 4095 := by have hcm := cl_I (i := y_153) (by omega); have h7 := hfq.2.2.2; omega
                          refine tk_istP hx hb hK hP hD hS 0 ma_47 hfo_175 rfl (vp_in_iff.mpr (by constructor <;> omega)) dX12_fewestPairs_225 (fun H locs hP hD hS => ?_)
                          obtain ⟨g_195, eqg_195⟩ : ∃ y : Nat → Int32, y = upd g_176 (Int32.toNatClampNeg x_174) x_194 := ⟨_, rfl⟩
                          rw [← eqg_195] at hP hD
                          have hbg_195 : ∀ j, (-1) ≤ (g_195 j).toInt ∧ (g_195 j).toInt ≤ 4 := by rw [eqg_195]; exact okI_up hbg_176 (by constructor <;> omega) _
                          obtain ⟨f_197, ef_197⟩ : ∃ y : Nat → va_E, y = va_up f_155 a_47 (.inl (cI, 4096, .inl g_195)) := ⟨_, rfl⟩
                          have hP : va_P (dC, dI) vwCl (va_pl L f_197) H := by rw [ef_197]; exact hP
                          have hD : va_D (fun q => q ∈ L) (va_pl L f_197) := by rw [ef_197]; exact hD
                          have hG : GI (okc cI cL cZ cR cG cH L kd) kd L f_197 := by rw [ef_197]; exact hG.set a_47 (mk_601 ka_47 ⟨_, rfl, hbg_195⟩)
                          have hfo_198 : f_197 o0 = .inr (12, [.ref a_2, .ref a_3, .ref a_4, .int v_5, .ref a_6, .int v_7, .int v_8, .int v_9, .int v_10, .int v_11, .int v_12, .int v_13, .int v_14, .int v_15, .int v_16, .ref a_17, .ref a_18, .ref a_19, .ref a_20, .ref a_21, .ref a_22, .ref a_23, .ref a_24, .int v_25, .int v_26, .int v_27, .int v_28, .int v_29, .ref a_30, .int v_31, .ref a_32, .ref a_33, .int v_34, .int v_35, .ref a_36, .int v_37, .ref a_38, .ref a_39, .int v_40, .int v_41, .ref a_42, .ref a_43, .ref a_44, .int v_45, .ref a_46, .ref a_47, .ref a_48, .ref a_49, .ref a_50, .ref a_51, .ref a_52, .ref a_53, .ref a_54, .int v_55, .int v_56, .ref a_57]) := by rw [ef_197, up_ne (kd_ne ka_47 ko0 (by decide))]; exact hfo_156
                          have hfo_199 : f_197 a_2 = .inl (cI, 1560, .inl g_158) := by rw [ef_197, up_ne (kd_ne ka_47 ka_2 (by decide))]; exact hfo_157
                          have hfo_200 : f_197 a_46 = .inl (cI, 4096, .inl g_191) := by rw [ef_197, up_ne (kd_ne ka_47 ka_46 (by decide))]; exact hfo_190
                          have hfr0 : ∀ b, kd b ≠ 600 → kd b ≠ 601 → f_197 b = f b := fun b q600 q601 => (congrFun ef_197 b).trans ((up_ne (fun e9 => q601 (by rw [e9]; exact ka_47))).trans (hfr0 b q600 q601))
                          have hfo_201 : f_197 a_47 = .inl (cI, 4096, .inl g_195) := by rw [ef_197]; exact up_self
                          refine lv_aload_n hx hb dX12_fewestPairs_226 rfl (lv_at hl 6 rfl) ?_
                          refine tk_getP (D := (dC, dI)) (ci := 12) (v := .ref a_46) (C := RX12) (T := TX12) (N := 56) hx hb hU inlX12 hown hK hP mo0 hfo_198 rfl 44 (by decide) (hU _ wd_193) (fun _ h9 => h9) rfl dX12_fewestPairs_227 ?_
                          refine lv_iload hx hb dX12_fewestPairs_230 (lv_at hl 4 rfl) ?_
                          refine lv_iload hx hb dX12_fewestPairs_232 (lv_at hl 0 rfl) ?_
                          refine tk_istP hx hb hK hP hD hS 0 ma_46 hfo_200 rfl (vp_in_iff.mpr (by constructor <;> omega)) dX12_fewestPairs_234 (fun H locs hP hD hS => ?_)
                          obtain ⟨g_202, eqg_202⟩ : ∃ y : Nat → Int32, y = upd g_191 (Int32.toNatClampNeg y_153) x_174 := ⟨_, rfl⟩
                          rw [← eqg_202] at hP hD
                          have hbg_202 : ∀ j, 0 ≤ (g_202 j).toInt ∧ (g_202 j).toInt ≤ 4095 := by rw [eqg_202]; exact okI_up hbg_191 (by constructor <;> omega) _
                          obtain ⟨f_204, ef_204⟩ : ∃ y : Nat → va_E, y = va_up f_197 a_46 (.inl (cI, 4096, .inl g_202)) := ⟨_, rfl⟩
                          have hP : va_P (dC, dI) vwCl (va_pl L f_204) H := by rw [ef_204]; exact hP
                          have hD : va_D (fun q => q ∈ L) (va_pl L f_204) := by rw [ef_204]; exact hD
                          have hG : GI (okc cI cL cZ cR cG cH L kd) kd L f_204 := by rw [ef_204]; exact hG.set a_46 (mk_600 ka_46 ⟨_, rfl, hbg_202⟩)
                          have hfo_205 : f_204 o0 = .inr (12, [.ref a_2, .ref a_3, .ref a_4, .int v_5, .ref a_6, .int v_7, .int v_8, .int v_9, .int v_10, .int v_11, .int v_12, .int v_13, .int v_14, .int v_15, .int v_16, .ref a_17, .ref a_18, .ref a_19, .ref a_20, .ref a_21, .ref a_22, .ref a_23, .ref a_24, .int v_25, .int v_26, .int v_27, .int v_28, .int v_29, .ref a_30, .int v_31, .ref a_32, .ref a_33, .int v_34, .int v_35, .ref a_36, .int v_37, .ref a_38, .ref a_39, .int v_40, .int v_41, .ref a_42, .ref a_43, .ref a_44, .int v_45, .ref a_46, .ref a_47, .ref a_48, .ref a_49, .ref a_50, .ref a_51, .ref a_52, .ref a_53, .ref a_54, .int v_55, .int v_56, .ref a_57]) := by rw [ef_204, up_ne (kd_ne ka_46 ko0 (by decide))]; exact hfo_198
                          have hfo_206 : f_204 a_2 = .inl (cI, 1560, .inl g_158) := by rw [ef_204, up_ne (kd_ne ka_46 ka_2 (by decide))]; exact hfo_199
                          have hfo_207 : f_204 a_47 = .inl (cI, 4096, .inl g_195) := by rw [ef_204, up_ne (kd_ne ka_46 ka_47 (by decide))]; exact hfo_201
                          have hfr0 : ∀ b, kd b ≠ 600 → kd b ≠ 601 → f_204 b = f b := fun b q600 q601 => (congrFun ef_204 b).trans ((up_ne (fun e9 => q600 (by rw [e9]; exact ka_46))).trans (hfr0 b q600 q601))
                          have hfo_208 : f_204 a_46 = .inl (cI, 4096, .inl g_202) := by rw [ef_204]; exact up_self
                          obtain ⟨x_209, ex_209⟩ : ∃ y : Int32, y_153 + 1 = y := ⟨_, rfl⟩
                          have hx_209 : x_209.toInt = y_153.toInt + 1 := by rw [← ex_209, ad_I (by rw [ti_1]; omega) (by rw [ti_1]; omega), ti_1]
                          have bx_209 : (2 ≤ x_209.toInt ∧ x_209.toInt ≤ 4096) := by constructor <;> omega
                          refine lv_iinc (v := x_209) (lv' := [(5, .int x_209), (9, .int x_174), (8, .int y_152), (7, .int x_125), (6, .int y_117), (4, .int x_95), (0, .ref o0), (1, .int p1), (2, .int p2), (3, .int p3)]) hx hb dX12_fewestPairs_235 hl (k := 4) rfl ex_209 (by decide) rfl (fun ls hl => ?_)
                          exact hcut_183 x_209 (by constructor <;> omega) f_204 hG _ _ hP hS hD hfr0 hfo_205 hfo_206 ls (lv_sub hl [0, 1, 2, 3, 4, 5, 6, 7, 8, 9] rfl)
                        · skip
                          rw [← Int32.toInt_inj, ti_m1] at c_189
                          refine lv_goto (tgt := 238) hx hb dX12_fewestPairs_207 (by decide) ?_
                          exact hcut_183 y_153 (by constructor <;> omega) f_155 hG _ _ hP hS hD hfr0 hfo_156 hfo_157 ls (lv_sub hl [4, 0, 1, 2, 3, 5, 6, 7, 8, 9] rfl)
                  exact hloop_151 21 0 (by decide) y_118 (by constructor <;> omega) f_120 hG _ _ hP hS hD hfr0 hfo_121 (by (try rw [ti_0]) <;> omega) (fun gl gs h1 h2 => by have h7 := hxi gl gs h1 h2; rw [hfo_126] at h1; cases h1; refine ⟨h7.1, h7.2, hs0, ?_⟩; have h8 : x_133.toInt = (g_127 (Int32.toNatClampNeg x_125)).toInt := (by rw [ex_133]); omega) (by (try rw [ti_0]) <;> omega) ls hl
                · skip
                  rw [← Int32.toInt_inj, ti_4] at c_144
                  refine lv_goto (tgt := 244) hx hb dX12_fewestPairs_130 (by decide) ?_
                  exact hcut_138 y_118 (by constructor <;> omega) f_120 hG _ _ hP hS hD hfr0 hfo_121 ls (lv_sub hl [0, 1, 2, 3, 4, 5, 6, 7] rfl)
              · skip
                rw [← Int32.toInt_inj, ti_0] at c_132
                refine lv_aload_n hx hb dX12_fewestPairs_97 rfl (lv_at hl 4 rfl) ?_
                refine lv_iload_n hx hb dX12_fewestPairs_98 rfl (lv_at hl 6 rfl) ?_
                refine lv_iload_n hx hb dX12_fewestPairs_99 rfl (lv_at hl 7 rfl) ?_
                refine lv_iload hx hb dX12_fewestPairs_100 (lv_at hl 0 rfl) ?_
                refine lv_bipush (v := 64) hx hb dX12_fewestPairs_102 (by decide) ?_
                refine lv_irem hx hb dX12_fewestPairs_104 (by decide) ?_
                refine lv_topi (fun x_210 ex_210 => ?_)
                have hx_210 : x_210.toInt = x_125.toInt % 64 := by rw [ex_210, rm_I (by omega) (by rw [ti_64]; omega), ti_64]
                have bx_210 : (0 ≤ x_210.toInt ∧ x_210.toInt ≤ 63) := by constructor <;> omega
                refine tk_ViP (As := [.int p2, .int p3, .int x_210]) (rest := []) (n := 3) hx hb hml hown hU hN hZ (s_X12_isDone_k12 l (dC, dI) cI cL cZ cR cG cH Z kd L f_120 hG o0 mo0 ko0 p2 (by constructor <;> omega) p3 (by constructor <;> omega) x_210) wd_898 wd_899 wd_900 wd_5 wd_901 (by decide +kernel) ⟨Nat.le_of_ble_eq_true rfl, Nat.le_of_ble_eq_true rfl⟩ hK hP hD hS mo0 hfo_121 12 rfl rfl rfl hl.1 rfl (Nat.le_of_ble_eq_true rfl) dX12_fewestPairs_105 ⟨Nat.le_of_ble_eq_true rfl, Nat.le_of_ble_eq_true rfl⟩ (fun x_211 f_212 H locs hw hP hD hS => ?_)
                obtain ⟨rfl, bx_211⟩ := hw
                refine lv_if_eq (tgt := 119) hx hb dX12_fewestPairs_108 (by decide) (fun c_214 => ?_) (fun c_214 => ?_)
                · skip
                  rw [← Int32.toInt_inj, ti_0] at c_214
                  refine lv_aload_n hx hb dX12_fewestPairs_119 rfl (lv_at hl 4 rfl) ?_
                  refine tk_getP (D := (dC, dI)) (ci := 12) (v := .ref a_47) (C := RX12) (T := TX12) (N := 56) hx hb hU inlX12 hown hK hP mo0 hfo_121 rfl 45 (by decide) (hU _ wd_194) (fun _ h9 => h9) rfl dX12_fewestPairs_120 ?_
                  refine lv_iload hx hb dX12_fewestPairs_123 (lv_at hl 0 rfl) ?_
                  refine tk_ildP hx hb hK hP 0 ma_47 hfo_126 rfl (vp_in_iff.mpr (by constructor <;> omega)) dX12_fewestPairs_125 ?_
                  refine lv_topi (fun x_215 ex_215 => ?_)
                  have bx_215 : ((-1) ≤ x_215.toInt ∧ x_215.toInt ≤ 4) := by rw [ex_215]; exact hbg_127 _
                  refine lv_iconst (v := 4) hx hb dX12_fewestPairs_126 (by decide) ?_
                  have hcut_220 : ∀ (y_216 : Int32), (1 ≤ y_216.toInt ∧ y_216.toInt ≤ 4096) → ∀ (f_218 : Nat → va_E), GI (okc cI cL cZ cR cG cH L kd) kd L f_218 → ∀ (H : Heap) (locs : List Loc), va_P (dC, dI) vwCl (va_pl L f_218) H → va_S (fun q => q ∈ L) s.heap H locs → va_D (fun q => q ∈ L) (va_pl L f_218) → (∀ b, kd b ≠ 600 → kd b ≠ 601 → f_218 b = f b) → (f_218 o0 = .inr (12, [.ref a_2, .ref a_3, .ref a_4, .int v_5, .ref a_6, .int v_7, .int v_8, .int v_9, .int v_10, .int v_11, .int v_12, .int v_13, .int v_14, .int v_15, .int v_16, .ref a_17, .ref a_18, .ref a_19, .ref a_20, .ref a_21, .ref a_22, .ref a_23, .ref a_24, .int v_25, .int v_26, .int v_27, .int v_28, .int v_29, .ref a_30, .int v_31, .ref a_32, .ref a_33, .int v_34, .int v_35, .ref a_36, .int v_37, .ref a_38, .ref a_39, .int v_40, .int v_41, .ref a_42, .ref a_43, .ref a_44, .int v_45, .ref a_46, .ref a_47, .ref a_48, .ref a_49, .ref a_50, .ref a_51, .ref a_52, .ref a_53, .ref a_54, .int v_55, .int v_56, .ref a_57])) → ∀ (ls : Array Slot), lv_has ls 10 [(7, .int x_125), (6, .int y_117), (5, .int y_216), (4, .int x_95), (0, .ref o0), (1, .int p1), (2, .int p2), (3, .int p3)] → W p l e (headSpec (wU yX12_fewestPairs cX12_fewestPairs 10 (some .int)) { frames := 4, cells := 0, slots := 0, locals := 100 }).room s m [.ref o0, .int p1, .int p2, .int p3].toArray below meth c H locs 0 0 (MQ below (va_Qi (fun (r : Int32) (f9 : Nat → va_E) => GI (okc cI cL cZ cR cG cH L kd) kd L f9 ∧ ((-1) ≤ r.toInt ∧ r.toInt ≤ 4) ∧ (∀ b, kd b ≠ 600 → kd b ≠ 601 → f9 b = f b)) (qP (dC, dI) cI cL cZ cR cG cH L) (fun q => q ∈ L)) [.ref o0, .int p1, .int p2, .int p3].toArray s 0 0 (fun q => q ∈ L)) (F0 m 244 ls []) := by
                    intro y_216 by_216 f_218 hG H locs hP hS hD hfr0 hfo_219 ls hl
                    obtain ⟨x_221, ex_221⟩ : ∃ y : Int32, y_117 + 1 = y := ⟨_, rfl⟩
                    have hx_221 : x_221.toInt = y_117.toInt + 1 := by rw [← ex_221, ad_I (by rw [ti_1]; omega) (by rw [ti_1]; omega), ti_1]
                    have bx_221 : (1 ≤ x_221.toInt ∧ x_221.toInt ≤ 4096) := by constructor <;> omega
                    refine lv_iinc (v := x_221) (lv' := [(6, .int x_221), (7, .int x_125), (5, .int y_216), (4, .int x_95), (0, .ref o0), (1, .int p1), (2, .int p2), (3, .int p3)]) hx hb dX12_fewestPairs_244 hl (k := 1) rfl ex_221 (by decide) rfl (fun ls hl => ?_)
                    refine lv_goto (tgt := 67) hx hb dX12_fewestPairs_247 (by decide) ?_
                    obtain ⟨g_223, hfo_222, hbg_223⟩ := un_601 (hG _ ma_47) ka_47
                    obtain ⟨g_225, hfo_224, hbg_225⟩ := un_600 (hG _ ma_46) ka_46
                    exact ih_hloop_116 x_221 (by constructor <;> omega) y_216 (by constructor <;> omega) f_218 hG _ _ hP hS hD hfr0 hfo_219 (by omega) (fun gl gs h1 h2 => by first | exact ⟨(hxj gl gs h1 h2).1, (hxj gl gs h1 h2).2.1⟩ | exact hxi gl gs h1 h2) (by omega) ls (lv_sub hl [0, 2, 3, 4, 5, 6, 7] rfl)
                  refine lv_icmp_ne (tgt := 133) hx hb dX12_fewestPairs_127 (by decide) (fun c_226 => ?_) (fun c_226 => ?_)
                  · skip
                    rw [← Int32.toInt_inj, ti_4] at c_226
                    refine lv_iconst (v := 0) hx hb dX12_fewestPairs_133 (by decide) ?_
                    refine lv_istore (lv' := [(8, .int 0), (7, .int x_125), (6, .int y_117), (5, .int y_118), (4, .int x_95), (0, .ref o0), (1, .int p1), (2, .int p2), (3, .int p3)]) hx hb dX12_fewestPairs_134 hl (by decide) rfl (fun ls hl => ?_)
                    have hloop_233 : ∀ (n : Nat), ∀ (y_234 : Int32), (0 ≤ y_234.toInt ∧ y_234.toInt ≤ 20) → ∀ (y_235 : Int32), (1 ≤ y_235.toInt ∧ y_235.toInt ≤ 4096) → ∀ (f_237 : Nat → va_E), GI (okc cI cL cZ cR cG cH L kd) kd L f_237 → ∀ (H : Heap) (locs : List Loc), va_P (dC, dI) vwCl (va_pl L f_237) H → va_S (fun q => q ∈ L) s.heap H locs → va_D (fun q => q ∈ L) (va_pl L f_237) → (∀ b, kd b ≠ 600 → kd b ≠ 601 → f_237 b = f b) → (f_237 o0 = .inr (12, [.ref a_2, .ref a_3, .ref a_4, .int v_5, .ref a_6, .int v_7, .int v_8, .int v_9, .int v_10, .int v_11, .int v_12, .int v_13, .int v_14, .int v_15, .int v_16, .ref a_17, .ref a_18, .ref a_19, .ref a_20, .ref a_21, .ref a_22, .ref a_23, .ref a_24, .int v_25, .int v_26, .int v_27, .int v_28, .int v_29, .ref a_30, .int v_31, .ref a_32, .ref a_33, .int v_34, .int v_35, .ref a_36, .int v_37, .ref a_38, .ref a_39, .int v_40, .int v_41, .ref a_42, .ref a_43, .ref a_44, .int v_45, .ref a_46, .ref a_47, .ref a_48, .ref a_49, .ref a_50, .ref a_51, .ref a_52, .ref a_53, .ref a_54, .int v_55, .int v_56, .ref a_57])) → (y_117.toInt + 1 ≤ y_235.toInt) → (∀ gl gs, f_237 a_47 = .inl (cI, 4096, .inl gl) → f_237 a_46 = .inl (cI, 4096, .inl gs) → (∀ j : Nat, j < (y_235.toInt).toNat → 0 ≤ (gl (Int32.toNatClampNeg (gs j))).toInt) ∧ (y_235.toInt).toNat + ctE gl (-1) 4096 ≤ 4096 ∧ 0 ≤ (gl (Int32.toNatClampNeg x_125)).toInt ∧ (gl (Int32.toNatClampNeg x_125)).toInt ≤ 3) → 20 - y_234.toInt < (n : Int) → ∀ (ls : Array Slot), lv_has ls 10 [(8, .int y_234), (7, .int x_125), (6, .int y_117), (5, .int y_235), (4, .int x_95), (0, .ref o0), (1, .int p1), (2, .int p2), (3, .int p3)] → W p l e (headSpec (wU yX12_fewestPairs cX12_fewestPairs 10 (some .int)) { frames := 4, cells := 0, slots := 0, locals := 100 }).room s m [.ref o0, .int p1, .int p2, .int p3].toArray below meth c H locs 0 0 (MQ below (va_Qi (fun (r : Int32) (f9 : Nat → va_E) => GI (okc cI cL cZ cR cG cH L kd) kd L f9 ∧ ((-1) ≤ r.toInt ∧ r.toInt ≤ 4) ∧ (∀ b, kd b ≠ 600 → kd b ≠ 601 → f9 b = f b)) (qP (dC, dI) cI cL cZ cR cG cH L) (fun q => q ∈ L)) [.ref o0, .int p1, .int p2, .int p3].toArray s 0 0 (fun q => q ∈ L)) (F0 m 136 ls []) := by
                      intro n
                      induction n with
                      | zero => intro y_234 by_234 y_235 by_235 f_237 hG H locs hP hS hD hfr0 hfo_238 hrelhloop_233_0 hxj hmuhloop_233 ls hl; exfalso; omega
                      | succ n ih_hloop_233 =>
                        intro y_234 by_234 y_235 by_235 f_237 hG H locs hP hS hD hfr0 hfo_238 hrelhloop_233_0 hxj hmuhloop_233 ls hl
                        refine lv_iload hx hb dX12_fewestPairs_136 (lv_at hl 0 rfl) ?_
                        refine lv_aload_n hx hb dX12_fewestPairs_138 rfl (lv_at hl 5 rfl) ?_
                        refine tk_getP (D := (dC, dI)) (ci := 12) (v := .ref a_2) (C := RX12) (T := TX12) (N := 56) hx hb hU inlX12 hown hK hP mo0 hfo_238 rfl 0 (by decide) (hU _ wd_169) (fun _ h9 => h9) rfl dX12_fewestPairs_139 ?_
                        refine lv_bipush (v := 16) hx hb dX12_fewestPairs_142 (by decide) ?_
                        obtain ⟨g_240, hfo_239, hbg_240⟩ := un_575 (hG _ ma_2) ka_2
                        refine tk_ildP hx hb hK hP 0 ma_2 hfo_239 rfl (vp_in_nI (n := 16) (by decide) (by decide)) dX12_fewestPairs_144 ?_
                        refine lv_topi (fun x_241 ex_241 => ?_)
                        have bx_241 : (0 ≤ x_241.toInt ∧ x_241.toInt ≤ 20) := by rw [ex_241]; exact hbg_240.2.1 _ (by decide) (by decide) (by decide)
                        refine lv_icmp_ge (tgt := 244) hx hb dX12_fewestPairs_145 (by decide) (fun c_242 => ?_) (fun c_242 => ?_)
                        · skip
                          rw [Int32.le_iff_toInt_le] at c_242
                          exact hcut_220 y_235 (by constructor <;> omega) f_237 hG _ _ hP hS hD hfr0 hfo_238 ls (lv_sub hl [1, 2, 3, 4, 5, 6, 7, 8] rfl)
                        · skip
                          rw [Int32.le_iff_toInt_le] at c_242
                          refine lv_bipush (v := 64) hx hb dX12_fewestPairs_148 (by decide) ?_
                          refine lv_aload_n hx hb dX12_fewestPairs_150 rfl (lv_at hl 5 rfl) ?_
                          refine lv_iload_n hx hb dX12_fewestPairs_151 rfl (lv_at hl 6 rfl) ?_
                          refine lv_iload_n hx hb dX12_fewestPairs_152 rfl (lv_at hl 8 rfl) ?_
                          refine lv_iload hx hb dX12_fewestPairs_153 (lv_at hl 1 rfl) ?_
                          refine lv_bipush (v := 64) hx hb dX12_fewestPairs_155 (by decide) ?_
                          refine lv_idiv hx hb dX12_fewestPairs_157 (by decide) ?_
                          refine lv_topi (fun x_243 ex_243 => ?_)
                          have hx_243 : x_243.toInt = x_125.toInt / 64 := by rw [ex_243, dv_I (by omega) (by rw [ti_64]; omega), ti_64]
                          have bx_243 : (0 ≤ x_243.toInt ∧ x_243.toInt ≤ 63) := by constructor <;> omega
                          refine lv_aload_n hx hb dX12_fewestPairs_158 rfl (lv_at hl 5 rfl) ?_
                          refine tk_getP (D := (dC, dI)) (ci := 12) (v := .ref a_2) (C := RX12) (T := TX12) (N := 56) hx hb hU inlX12 hown hK hP mo0 hfo_238 rfl 0 (by decide) (hU _ wd_169) (fun _ h9 => h9) rfl dX12_fewestPairs_159 ?_
                          refine lv_bipush (v := 20) hx hb dX12_fewestPairs_162 (by decide) ?_
                          refine lv_iload hx hb dX12_fewestPairs_164 (lv_at hl 0 rfl) ?_
                          refine lv_iadd hx hb dX12_fewestPairs_166 ?_
                          refine lv_topi (fun x_244 ex_244 => ?_)
                          have hx_244 : x_244.toInt = 20 + y_234.toInt := by rw [ex_244, ad_I (by rw [ti_20]; omega) (by rw [ti_20]; omega), ti_20]
                          have bx_244 : (20 ≤ x_244.toInt ∧ x_244.toInt ≤ 39) := by constructor <;> omega
                          refine tk_ildP hx hb hK hP 0 ma_2 hfo_239 rfl (vp_in_iff.mpr (by constructor <;> omega)) dX12_fewestPairs_167 ?_
                          refine lv_topi (fun x_245 ex_245 => ?_)
                          have bx_245 : (0 ≤ x_245.toInt ∧ x_245.toInt ≤ 80) := by have hc9 := cl_I (i := x_244) (by omega); rw [ex_245]; exact hbg_240.2.2.2.2.2.1 _ (by omega) (by omega) (by omega)
                          refine tk_ViP (As := [.int p1, .int p3, .int x_243, .int x_245]) (rest := [.int 64]) (n := 4) hx hb hml hown hU hN hZ (s_X12_sideGoes_k12 l (dC, dI) cI cL cZ cR cG cH Z kd L f_237 hG o0 mo0 ko0 p1 (by constructor <;> omega) p3 (by constructor <;> omega) x_243 x_245) wd_1305 wd_1306 wd_1307 wd_5 wd_1308 (by decide +kernel) ⟨Nat.le_of_ble_eq_true rfl, Nat.le_of_ble_eq_true rfl⟩ hK hP hD hS mo0 hfo_238 12 rfl rfl rfl hl.1 rfl (Nat.le_of_ble_eq_true rfl) dX12_fewestPairs_168 ⟨Nat.le_of_ble_eq_true rfl, Nat.le_of_ble_eq_true rfl⟩ (fun x_246 f_247 H locs hw hP hD hS => ?_)
                          obtain ⟨rfl, bx_246⟩ := hw
                          refine lv_imul hx hb dX12_fewestPairs_171 ?_
                          refine lv_topi (fun x_249 ex_249 => ?_)
                          have hx_249 : x_249.toInt = 64 * x_246.toInt := by rw [ex_249, ml_I (by rw [ti_64]; omega) (by rw [ti_64]; omega), ti_64]
                          have bx_249 : (0 ≤ x_249.toInt ∧ x_249.toInt ≤ 4032) := by constructor <;> omega
                          refine lv_aload_n hx hb dX12_fewestPairs_172 rfl (lv_at hl 5 rfl) ?_
                          refine lv_iload_n hx hb dX12_fewestPairs_173 rfl (lv_at hl 7 rfl) ?_
                          refine lv_iload_n hx hb dX12_fewestPairs_174 rfl (lv_at hl 8 rfl) ?_
                          refine lv_iload hx hb dX12_fewestPairs_175 (lv_at hl 1 rfl) ?_
                          refine lv_bipush (v := 64) hx hb dX12_fewestPairs_177 (by decide) ?_
                          refine lv_irem hx hb dX12_fewestPairs_179 (by decide) ?_
                          refine lv_topi (fun x_250 ex_250 => ?_)
                          have hx_250 : x_250.toInt = x_125.toInt % 64 := by rw [ex_250, rm_I (by omega) (by rw [ti_64]; omega), ti_64]
                          have bx_250 : (0 ≤ x_250.toInt ∧ x_250.toInt ≤ 63) := by constructor <;> omega
                          refine lv_aload_n hx hb dX12_fewestPairs_180 rfl (lv_at hl 5 rfl) ?_
                          refine tk_getP (D := (dC, dI)) (ci := 12) (v := .ref a_2) (C := RX12) (T := TX12) (N := 56) hx hb hU inlX12 hown hK hP mo0 hfo_238 rfl 0 (by decide) (hU _ wd_169) (fun _ h9 => h9) rfl dX12_fewestPairs_181 ?_
                          refine lv_bipush (v := 20) hx hb dX12_fewestPairs_184 (by decide) ?_
                          refine lv_iload hx hb dX12_fewestPairs_186 (lv_at hl 0 rfl) ?_
                          refine lv_iadd hx hb dX12_fewestPairs_188 ?_
                          refine lv_topi (fun x_251 ex_251 => ?_)
                          have hx_251 : x_251.toInt = 20 + y_234.toInt := by rw [ex_251, ad_I (by rw [ti_20]; omega) (by rw [ti_20]; omega), ti_20]
                          have bx_251 : (20 ≤ x_251.toInt ∧ x_251.toInt ≤ 39) := by constructor <;> omega
                          refine tk_ildP hx hb hK hP 0 ma_2 hfo_239 rfl (vp_in_iff.mpr (by constructor <;> omega)) dX12_fewestPairs_189 ?_
                          refine lv_topi (fun x_252 ex_252 => ?_)
                          have bx_252 : (0 ≤ x_252.toInt ∧ x_252.toInt ≤ 80) := by have hc9 := cl_I (i := x_251) (by omega); rw [ex_252]; exact hbg_240.2.2.2.2.2.1 _ (by omega) (by omega) (by omega)
                          refine tk_ViP (As := [.int p2, .int p3, .int x_250, .int x_252]) (rest := [.int x_249]) (n := 4) hx hb hml hown hU hN hZ (s_X12_sideGoes_k12 l (dC, dI) cI cL cZ cR cG cH Z kd L f_237 hG o0 mo0 ko0 p2 (by constructor <;> omega) p3 (by constructor <;> omega) x_250 x_252) wd_1305 wd_1306 wd_1307 wd_5 wd_1308 (by decide +kernel) ⟨Nat.le_of_ble_eq_true rfl, Nat.le_of_ble_eq_true rfl⟩ hK hP hD hS mo0 hfo_238 12 rfl rfl rfl hl.1 rfl (Nat.le_of_ble_eq_true rfl) dX12_fewestPairs_190 ⟨Nat.le_of_ble_eq_true rfl, Nat.le_of_ble_eq_true rfl⟩ (fun x_253 f_254 H locs hw hP hD hS => ?_)
                          obtain ⟨rfl, bx_253⟩ := hw
                          refine lv_iadd hx hb dX12_fewestPairs_193 ?_
                          refine lv_topi (fun x_256 ex_256 => ?_)
                          have hx_256 : x_256.toInt = x_249.toInt + x_253.toInt := by rw [ex_256, ad_I (by omega) (by omega)]
                          have bx_256 : (0 ≤ x_256.toInt ∧ x_256.toInt ≤ 4095) := by constructor <;> omega
                          refine lv_istore (lv' := [(9, .int x_256), (8, .int y_234), (7, .int x_125), (6, .int y_117), (5, .int y_235), (4, .int x_95), (0, .ref o0), (1, .int p1), (2, .int p2), (3, .int p3)]) hx hb dX12_fewestPairs_194 hl (by decide) rfl (fun ls hl => ?_)
                          refine lv_aload_n hx hb dX12_fewestPairs_196 rfl (lv_at hl 6 rfl) ?_
                          refine tk_getP (D := (dC, dI)) (ci := 12) (v := .ref a_47) (C := RX12) (T := TX12) (N := 56) hx hb hU inlX12 hown hK hP mo0 hfo_238 rfl 45 (by decide) (hU _ wd_194) (fun _ h9 => h9) rfl dX12_fewestPairs_197 ?_
                          refine lv_iload hx hb dX12_fewestPairs_200 (lv_at hl 0 rfl) ?_
                          obtain ⟨g_258, hfo_257, hbg_258⟩ := un_601 (hG _ ma_47) ka_47
                          refine tk_ildP hx hb hK hP 0 ma_47 hfo_257 rfl (vp_in_iff.mpr (by constructor <;> omega)) dX12_fewestPairs_202 ?_
                          refine lv_topi (fun x_259 ex_259 => ?_)
                          have bx_259 : ((-1) ≤ x_259.toInt ∧ x_259.toInt ≤ 4) := by rw [ex_259]; exact hbg_258 _
                          refine lv_iconst (v := (-1)) hx hb dX12_fewestPairs_203 (by decide) ?_
                          have hcut_265 : ∀ (y_260 : Int32), (1 ≤ y_260.toInt ∧ y_260.toInt ≤ 4096) → ∀ (f_262 : Nat → va_E), GI (okc cI cL cZ cR cG cH L kd) kd L f_262 → ∀ (H : Heap) (locs : List Loc), va_P (dC, dI) vwCl (va_pl L f_262) H → va_S (fun q => q ∈ L) s.heap H locs → va_D (fun q => q ∈ L) (va_pl L f_262) → (∀ b, kd b ≠ 600 → kd b ≠ 601 → f_262 b = f b) → (f_262 o0 = .inr (12, [.ref a_2, .ref a_3, .ref a_4, .int v_5, .ref a_6, .int v_7, .int v_8, .int v_9, .int v_10, .int v_11, .int v_12, .int v_13, .int v_14, .int v_15, .int v_16, .ref a_17, .ref a_18, .ref a_19, .ref a_20, .ref a_21, .ref a_22, .ref a_23, .ref a_24, .int v_25, .int v_26, .int v_27, .int v_28, .int v_29, .ref a_30, .int v_31, .ref a_32, .ref a_33, .int v_34, .int v_35, .ref a_36, .int v_37, .ref a_38, .ref a_39, .int v_40, .int v_41, .ref a_42, .ref a_43, .ref a_44, .int v_45, .ref a_46, .ref a_47, .ref a_48, .ref a_49, .ref a_50, .ref a_51, .ref a_52, .ref a_53, .ref a_54, .int v_55, .int v_56, .ref a_57])) → (f_262 a_2 = .inl (cI, 1560, .inl g_240)) → ∀ (ls : Array Slot), lv_has ls 10 [(5, .int y_260), (9, .int x_256), (8, .int y_234), (7, .int x_125), (6, .int y_117), (4, .int x_95), (0, .ref o0), (1, .int p1), (2, .int p2), (3, .int p3)] → W p l e (headSpec (wU yX12_fewestPairs cX12_fewestPairs 10 (some .int)) { frames := 4, cells := 0, slots := 0, locals := 100 }).room s m [.ref o0, .int p1, .int p2, .int p3].toArray below meth c H locs 0 0 (MQ below (va_Qi (fun (r : Int32) (f9 : Nat → va_E) => GI (okc cI cL cZ cR cG cH L kd) kd L f9 ∧ ((-1) ≤ r.toInt ∧ r.toInt ≤ 4) ∧ (∀ b, kd b ≠ 600 → kd b ≠ 601 → f9 b = f b)) (qP (dC, dI) cI cL cZ cR cG cH L) (fun q => q ∈ L)) [.ref o0, .int p1, .int p2, .int p3].toArray s 0 0 (fun q => q ∈ L)) (F0 m 238 ls []) := by
                            intro y_260 by_260 f_262 hG H locs hP hS hD hfr0 hfo_263 hfo_264 ls hl
                            obtain ⟨x_266, ex_266⟩ : ∃ y : Int32, y_234 + 1 = y := ⟨_, rfl⟩
                            have hx_266 : x_266.toInt = y_234.toInt + 1 := by rw [← ex_266, ad_I (by rw [ti_1]; omega) (by rw [ti_1]; omega), ti_1]
                            have bx_266 : (1 ≤ x_266.toInt ∧ x_266.toInt ≤ 20) := by constructor <;> omega
                            refine lv_iinc (v := x_266) (lv' := [(8, .int x_266), (5, .int y_260), (9, .int x_256), (7, .int x_125), (6, .int y_117), (4, .int x_95), (0, .ref o0), (1, .int p1), (2, .int p2), (3, .int p3)]) hx hb dX12_fewestPairs_238 hl (k := 2) rfl ex_266 (by decide) rfl (fun ls hl => ?_)
                            refine lv_goto (tgt := 136) hx hb dX12_fewestPairs_241 (by decide) ?_
                            obtain ⟨g_268, hfo_267, hbg_268⟩ := un_601 (hG _ ma_47) ka_47
                            obtain ⟨g_270, hfo_269, hbg_270⟩ := un_600 (hG _ ma_46) ka_46
                            exact ih_hloop_233 x_266 (by constructor <;> omega) y_260 (by constructor <;> omega) f_262 hG _ _ hP hS hD hfr0 hfo_263 (by omega) (fun gl gs h1 h2 => hxj gl gs h1 h2) (by omega) ls (lv_sub hl [0, 3, 4, 1, 5, 6, 7, 8, 9] rfl)
                          refine lv_icmp_eq (tgt := 210) hx hb dX12_fewestPairs_204 (by decide) (fun c_271 => ?_) (fun c_271 => ?_)
                          · skip
                            rw [← Int32.toInt_inj, ti_m1] at c_271
                            obtain ⟨g_273, hfo_272, hbg_273⟩ := un_600 (hG _ ma_46) ka_46
                            have hfp := hxj g_258 g_273 hfo_257 hfo_272
                            refine lv_aload_n hx hb dX12_fewestPairs_210 rfl (lv_at hl 6 rfl) ?_
                            refine tk_getP (D := (dC, dI)) (ci := 12) (v := .ref a_47) (C := RX12) (T := TX12) (N := 56) hx hb hU inlX12 hown hK hP mo0 hfo_238 rfl 45 (by decide) (hU _ wd_194) (fun _ h9 => h9) rfl dX12_fewestPairs_211 ?_
                            refine lv_iload hx hb dX12_fewestPairs_214 (lv_at hl 0 rfl) ?_
                            refine lv_aload_n hx hb dX12_fewestPairs_216 rfl (lv_at hl 6 rfl) ?_
                            refine tk_getP (D := (dC, dI)) (ci := 12) (v := .ref a_47) (C := RX12) (T := TX12) (N := 56) hx hb hU inlX12 hown hK hP mo0 hfo_238 rfl 45 (by decide) (hU _ wd_194) (fun _ h9 => h9) rfl dX12_fewestPairs_217 ?_
                            refine lv_iload hx hb dX12_fewestPairs_220 (lv_at hl 2 rfl) ?_
                            refine tk_ildP hx hb hK hP 0 ma_47 hfo_257 rfl (vp_in_iff.mpr (by constructor <;> omega)) dX12_fewestPairs_222 ?_
                            refine lv_topi (fun x_274 ex_274 => ?_)
                            have bx_274 : ((-1) ≤ x_274.toInt ∧ x_274.toInt ≤ 4) := by rw [ex_274]; exact hbg_258 _
                            have hnrc_275 : (0 ≤ x_274.toInt ∧ x_274.toInt ≤ 3) := by have h7 := hfp.2.2; have h8 : x_274.toInt = (g_258 (Int32.toNatClampNeg x_125)).toInt := (by rw [ex_274]); constructor <;> omega
                            refine lv_iconst (v := 1) hx hb dX12_fewestPairs_223 (by decide) ?_
                            refine lv_iadd hx hb dX12_fewestPairs_224 ?_
                            refine lv_topi (fun x_276 ex_276 => ?_)
                            have hx_276 : x_276.toInt = x_274.toInt + 1 := by rw [ex_276, ad_I (by rw [ti_1]; omega) (by rw [ti_1]; omega), ti_1]
                            have bx_276 : (1 ≤ x_276.toInt ∧ x_276.toInt ≤ 4) := by constructor <;> omega
                            have hfq := fp_step (m := Int32.toNatClampNeg y_235) (s := Int32.toNatClampNeg x_125) (v := x_276) (nx := x_256) (gs := g_273) (by have hcm := cl_I (i := y_235) (by omega); intro j hj; exact hfp.1 j (by omega)) (by have hcm := cl_I (i := y_235) (by omega); have h7 := hfp.2.1; omega) hfp.2.2 rfl (by rw [← ex_259]; exact Int32.toInt_inj.mp (by rw [show ((-1 : Int32)).toInt = -1 from by decide]; omega)) (by have hc9 := cl_I (i := x_256) (by omega); omega) (by have h8 : x_274.toInt = (g_258 (Int32.toNatClampNeg x_125)).toInt := (by rw [ex_274]); omega)
                            have hmm : y_235.toInt ≤ 4095 := by have hcm := cl_I (i := y_235) (by omega); have h7 := hfq.2.2.2; omega
                            refine tk_istP hx hb hK hP hD hS 0 ma_47 hfo_257 rfl (vp_in_iff.mpr (by constructor <;> omega)) dX12_fewestPairs_225 (fun H locs hP hD hS => ?_)
                            obtain ⟨g_277, eqg_277⟩ : ∃ y : Nat → Int32, y = upd g_258 (Int32.toNatClampNeg x_256) x_276 := ⟨_, rfl⟩
                            rw [← eqg_277] at hP hD
                            have hbg_277 : ∀ j, (-1) ≤ (g_277 j).toInt ∧ (g_277 j).toInt ≤ 4 := by rw [eqg_277]; exact okI_up hbg_258 (by constructor <;> omega) _
                            obtain ⟨f_279, ef_279⟩ : ∃ y : Nat → va_E, y = va_up f_237 a_47 (.inl (cI, 4096, .inl g_277)) := ⟨_, rfl⟩
                            have hP : va_P (dC, dI) vwCl (va_pl L f_279) H := by rw [ef_279]; exact hP
                            have hD : va_D (fun q => q ∈ L) (va_pl L f_279) := by rw [ef_279]; exact hD
                            have hG : GI (okc cI cL cZ cR cG cH L kd) kd L f_279 := by rw [ef_279]; exact hG.set a_47 (mk_601 ka_47 ⟨_, rfl, hbg_277⟩)
                            have hfo_280 : f_279 o0 = .inr (12, [.ref a_2, .ref a_3, .ref a_4, .int v_5, .ref a_6, .int v_7, .int v_8, .int v_9, .int v_10, .int v_11, .int v_12, .int v_13, .int v_14, .int v_15, .int v_16, .ref a_17, .ref a_18, .ref a_19, .ref a_20, .ref a_21, .ref a_22, .ref a_23, .ref a_24, .int v_25, .int v_26, .int v_27, .int v_28, .int v_29, .ref a_30, .int v_31, .ref a_32, .ref a_33, .int v_34, .int v_35, .ref a_36, .int v_37, .ref a_38, .ref a_39, .int v_40, .int v_41, .ref a_42, .ref a_43, .ref a_44, .int v_45, .ref a_46, .ref a_47, .ref a_48, .ref a_49, .ref a_50, .ref a_51, .ref a_52, .ref a_53, .ref a_54, .int v_55, .int v_56, .ref a_57]) := by rw [ef_279, up_ne (kd_ne ka_47 ko0 (by decide))]; exact hfo_238
                            have hfo_281 : f_279 a_2 = .inl (cI, 1560, .inl g_240) := by rw [ef_279, up_ne (kd_ne ka_47 ka_2 (by decide))]; exact hfo_239
                            have hfo_282 : f_279 a_46 = .inl (cI, 4096, .inl g_273) := by rw [ef_279, up_ne (kd_ne ka_47 ka_46 (by decide))]; exact hfo_272
                            have hfr0 : ∀ b, kd b ≠ 600 → kd b ≠ 601 → f_279 b = f b := fun b q600 q601 => (congrFun ef_279 b).trans ((up_ne (fun e9 => q601 (by rw [e9]; exact ka_47))).trans (hfr0 b q600 q601))
                            have hfo_283 : f_279 a_47 = .inl (cI, 4096, .inl g_277) := by rw [ef_279]; exact up_self
                            refine lv_aload_n hx hb dX12_fewestPairs_226 rfl (lv_at hl 6 rfl) ?_
                            refine tk_getP (D := (dC, dI)) (ci := 12) (v := .ref a_46) (C := RX12) (T := TX12) (N := 56) hx hb hU inlX12 hown hK hP mo0 hfo_280 rfl 44 (by decide) (hU _ wd_193) (fun _ h9 => h9) rfl dX12_fewestPairs_227 ?_
                            refine lv_iload hx hb dX12_fewestPairs_230 (lv_at hl 4 rfl) ?_
                            refine lv_iload hx hb dX12_fewestPairs_232 (lv_at hl 0 rfl) ?_
                            refine tk_istP hx hb hK hP hD hS 0 ma_46 hfo_282 rfl (vp_in_iff.mpr (by constructor <;> omega)) dX12_fewestPairs_234 (fun H locs hP hD hS => ?_)
                            obtain ⟨g_284, eqg_284⟩ : ∃ y : Nat → Int32, y = upd g_273 (Int32.toNatClampNeg y_235) x_256 := ⟨_, rfl⟩
                            rw [← eqg_284] at hP hD
                            have hbg_284 : ∀ j, 0 ≤ (g_284 j).toInt ∧ (g_284 j).toInt ≤ 4095 := by rw [eqg_284]; exact okI_up hbg_273 (by constructor <;> omega) _
                            obtain ⟨f_286, ef_286⟩ : ∃ y : Nat → va_E, y = va_up f_279 a_46 (.inl (cI, 4096, .inl g_284)) := ⟨_, rfl⟩
                            have hP : va_P (dC, dI) vwCl (va_pl L f_286) H := by rw [ef_286]; exact hP
                            have hD : va_D (fun q => q ∈ L) (va_pl L f_286) := by rw [ef_286]; exact hD
                            have hG : GI (okc cI cL cZ cR cG cH L kd) kd L f_286 := by rw [ef_286]; exact hG.set a_46 (mk_600 ka_46 ⟨_, rfl, hbg_284⟩)
                            have hfo_287 : f_286 o0 = .inr (12, [.ref a_2, .ref a_3, .ref a_4, .int v_5, .ref a_6, .int v_7, .int v_8, .int v_9, .int v_10, .int v_11, .int v_12, .int v_13, .int v_14, .int v_15, .int v_16, .ref a_17, .ref a_18, .ref a_19, .ref a_20, .ref a_21, .ref a_22, .ref a_23, .ref a_24, .int v_25, .int v_26, .int v_27, .int v_28, .int v_29, .ref a_30, .int v_31, .ref a_32, .ref a_33, .int v_34, .int v_35, .ref a_36, .int v_37, .ref a_38, .ref a_39, .int v_40, .int v_41, .ref a_42, .ref a_43, .ref a_44, .int v_45, .ref a_46, .ref a_47, .ref a_48, .ref a_49, .ref a_50, .ref a_51, .ref a_52, .ref a_53, .ref a_54, .int v_55, .int v_56, .ref a_57]) := by rw [ef_286, up_ne (kd_ne ka_46 ko0 (by decide))]; exact hfo_280
                            have hfo_288 : f_286 a_2 = .inl (cI, 1560, .inl g_240) := by rw [ef_286, up_ne (kd_ne ka_46 ka_2 (by decide))]; exact hfo_281
                            have hfo_289 : f_286 a_47 = .inl (cI, 4096, .inl g_277) := by rw [ef_286, up_ne (kd_ne ka_46 ka_47 (by decide))]; exact hfo_283
                            have hfr0 : ∀ b, kd b ≠ 600 → kd b ≠ 601 → f_286 b = f b := fun b q600 q601 => (congrFun ef_286 b).trans ((up_ne (fun e9 => q600 (by rw [e9]; exact ka_46))).trans (hfr0 b q600 q601))
                            have hfo_290 : f_286 a_46 = .inl (cI, 4096, .inl g_284) := by rw [ef_286]; exact up_self
                            obtain ⟨x_291, ex_291⟩ : ∃ y : Int32, y_235 + 1 = y := ⟨_, rfl⟩
                            have hx_291 : x_291.toInt = y_235.toInt + 1 := by rw [← ex_291, ad_I (by rw [ti_1]; omega) (by rw [ti_1]; omega), ti_1]
                            have bx_291 : (2 ≤ x_291.toInt ∧ x_291.toInt ≤ 4096) := by constructor <;> omega
                            refine lv_iinc (v := x_291) (lv' := [(5, .int x_291), (9, .int x_256), (8, .int y_234), (7, .int x_125), (6, .int y_117), (4, .int x_95), (0, .ref o0), (1, .int p1), (2, .int p2), (3, .int p3)]) hx hb dX12_fewestPairs_235 hl (k := 4) rfl ex_291 (by decide) rfl (fun ls hl => ?_)
                            exact hcut_265 x_291 (by constructor <;> omega) f_286 hG _ _ hP hS hD hfr0 hfo_287 hfo_288 ls (lv_sub hl [0, 1, 2, 3, 4, 5, 6, 7, 8, 9] rfl)
                          · skip
                            rw [← Int32.toInt_inj, ti_m1] at c_271
                            refine lv_goto (tgt := 238) hx hb dX12_fewestPairs_207 (by decide) ?_
                            exact hcut_265 y_235 (by constructor <;> omega) f_237 hG _ _ hP hS hD hfr0 hfo_238 hfo_239 ls (lv_sub hl [4, 0, 1, 2, 3, 5, 6, 7, 8, 9] rfl)
                    exact hloop_233 21 0 (by decide) y_118 (by constructor <;> omega) f_120 hG _ _ hP hS hD hfr0 hfo_121 (by (try rw [ti_0]) <;> omega) (fun gl gs h1 h2 => by have h7 := hxi gl gs h1 h2; rw [hfo_126] at h1; cases h1; refine ⟨h7.1, h7.2, hs0, ?_⟩; have h8 : x_215.toInt = (g_127 (Int32.toNatClampNeg x_125)).toInt := (by rw [ex_215]); omega) (by (try rw [ti_0]) <;> omega) ls hl
                  · skip
                    rw [← Int32.toInt_inj, ti_4] at c_226
                    refine lv_goto (tgt := 244) hx hb dX12_fewestPairs_130 (by decide) ?_
                    exact hcut_220 y_118 (by constructor <;> omega) f_120 hG _ _ hP hS hD hfr0 hfo_121 ls (lv_sub hl [0, 1, 2, 3, 4, 5, 6, 7] rfl)
                · skip
                  rw [← Int32.toInt_inj, ti_0] at c_214
                  refine lv_aload_n hx hb dX12_fewestPairs_111 rfl (lv_at hl 4 rfl) ?_
                  refine tk_getP (D := (dC, dI)) (ci := 12) (v := .ref a_47) (C := RX12) (T := TX12) (N := 56) hx hb hU inlX12 hown hK hP mo0 hfo_121 rfl 45 (by decide) (hU _ wd_194) (fun _ h9 => h9) rfl dX12_fewestPairs_112 ?_
                  refine lv_iload hx hb dX12_fewestPairs_115 (lv_at hl 0 rfl) ?_
                  refine tk_ildP hx hb hK hP 0 ma_47 hfo_126 rfl (vp_in_iff.mpr (by constructor <;> omega)) dX12_fewestPairs_117 ?_
                  refine lv_topi (fun x_292 ex_292 => ?_)
                  have bx_292 : ((-1) ≤ x_292.toInt ∧ x_292.toInt ≤ 4) := by rw [ex_292]; exact hbg_127 _
                  exact W.iret (v := x_292) hx hb hr (fun t ht hW => ⟨⟨x_292, f_120, rfl, ⟨hG, (by constructor <;> omega), hfr0⟩, by rw [ht]; exact hP, va_K.moved hW.alike hK, pl_in hD⟩, hS.F ht⟩) hS.2.2 dX12_fewestPairs_118
        exact hloop_116 4097 0 (by decide) 1 (by decide) f_106 hG _ _ hP hS hD hfr0 hfo_107 (by (try rw [ti_0]) <;> (try rw [ti_1]) <;> omega) (fun gl gs h1 h2 => by rw [hfo_108] at h1; cases h1; rw [hfo_109] at h2; cases h2; have hc9 := cl_I (i := x_95) (by omega); have h31 : ((1 : Int32)).toInt = 1 := rfl; have hz0 : Int32.toNatClampNeg 0 = 0 := rfl; have hl0 : g_98 (Int32.toNatClampNeg x_95) = 0 := (by rw [eqg_98, pk_us]); refine ⟨fun j hj => ?_, ?_⟩; (· rw [show j = 0 by omega, eqg_104, hz0, pk_us, hl0]; decide); (· have h7 := ctE_lt (g := g_98) (d := -1) (n := 4096) (j := Int32.toNatClampNeg x_95) (by omega) (by rw [hl0]; decide); omega)) (by (try rw [ti_0]) <;> (try rw [ti_1]) <;> omega) ls hl
      · skip
        rw [Int32.le_iff_toInt_le, ti_4096] at c_87
        refine lv_aload_n hx hb dX12_fewestPairs_11 rfl (lv_at hl 1 rfl) ?_
        refine tk_getP (D := (dC, dI)) (ci := 12) (v := .ref a_47) (C := RX12) (T := TX12) (N := 56) hx hb hU inlX12 hown hK hP mo0 hfo_85 rfl 45 (by decide) (hU _ wd_194) (fun _ h9 => h9) rfl dX12_fewestPairs_12 ?_
        refine lv_iload hx hb dX12_fewestPairs_15 (lv_at hl 0 rfl) ?_
        refine lv_iconst (v := (-1)) hx hb dX12_fewestPairs_17 (by decide) ?_
        obtain ⟨g_294, hfo_293, hbg_294⟩ := un_601 (hG _ ma_47) ka_47
        refine tk_istP hx hb hK hP hD hS 0 ma_47 hfo_293 rfl (vp_in_iff.mpr (by constructor <;> omega)) dX12_fewestPairs_18 (fun H locs hP hD hS => ?_)
        obtain ⟨g_295, eqg_295⟩ : ∃ y : Nat → Int32, y = upd g_294 (Int32.toNatClampNeg y_82) (-1) := ⟨_, rfl⟩
        rw [← eqg_295] at hP hD
        have hbg_295 : ∀ j, (-1) ≤ (g_295 j).toInt ∧ (g_295 j).toInt ≤ 4 := by rw [eqg_295]; exact okI_up hbg_294 (by decide) _
        obtain ⟨f_297, ef_297⟩ : ∃ y : Nat → va_E, y = va_up f_84 a_47 (.inl (cI, 4096, .inl g_295)) := ⟨_, rfl⟩
        have hP : va_P (dC, dI) vwCl (va_pl L f_297) H := by rw [ef_297]; exact hP
        have hD : va_D (fun q => q ∈ L) (va_pl L f_297) := by rw [ef_297]; exact hD
        have hG : GI (okc cI cL cZ cR cG cH L kd) kd L f_297 := by rw [ef_297]; exact hG.set a_47 (mk_601 ka_47 ⟨_, rfl, hbg_295⟩)
        have hfo_298 : f_297 o0 = .inr (12, [.ref a_2, .ref a_3, .ref a_4, .int v_5, .ref a_6, .int v_7, .int v_8, .int v_9, .int v_10, .int v_11, .int v_12, .int v_13, .int v_14, .int v_15, .int v_16, .ref a_17, .ref a_18, .ref a_19, .ref a_20, .ref a_21, .ref a_22, .ref a_23, .ref a_24, .int v_25, .int v_26, .int v_27, .int v_28, .int v_29, .ref a_30, .int v_31, .ref a_32, .ref a_33, .int v_34, .int v_35, .ref a_36, .int v_37, .ref a_38, .ref a_39, .int v_40, .int v_41, .ref a_42, .ref a_43, .ref a_44, .int v_45, .ref a_46, .ref a_47, .ref a_48, .ref a_49, .ref a_50, .ref a_51, .ref a_52, .ref a_53, .ref a_54, .int v_55, .int v_56, .ref a_57]) := by rw [ef_297, up_ne (kd_ne ka_47 ko0 (by decide))]; exact hfo_85
        have hfo_299 : f_297 a_46 = .inl (cI, 4096, .inl g_61) := by rw [ef_297, up_ne (kd_ne ka_47 ka_46 (by decide))]; exact hfo_86
        have hfr0 : ∀ b, kd b ≠ 600 → kd b ≠ 601 → f_297 b = f b := fun b q600 q601 => (congrFun ef_297 b).trans ((up_ne (fun e9 => q601 (by rw [e9]; exact ka_47))).trans (hfr0 b q600 q601))
        have hfo_300 : f_297 a_47 = .inl (cI, 4096, .inl g_295) := by rw [ef_297]; exact up_self
        obtain ⟨x_301, ex_301⟩ : ∃ y : Int32, y_82 + 1 = y := ⟨_, rfl⟩
        have hx_301 : x_301.toInt = y_82.toInt + 1 := by rw [← ex_301, ad_I (by rw [ti_1]; omega) (by rw [ti_1]; omega), ti_1]
        have bx_301 : (1 ≤ x_301.toInt ∧ x_301.toInt ≤ 4096) := by constructor <;> omega
        refine lv_iinc (v := x_301) (lv' := [(4, .int x_301), (0, .ref o0), (1, .int p1), (2, .int p2), (3, .int p3)]) hx hb dX12_fewestPairs_19 hl (k := 0) rfl ex_301 (by decide) rfl (fun ls hl => ?_)
        refine lv_goto (tgt := 3) hx hb dX12_fewestPairs_22 (by decide) ?_
        exact ih_hloop_81 x_301 (by constructor <;> omega) f_297 hG _ _ hP hS hD hfr0 hfo_298 hfo_299 (by omega) ls (lv_sub hl [0, 1, 2, 3, 4] rfl)
  exact hloop_81 4097 0 (by decide) f hG _ _ hP hS hD hfr0 hfo_1 hfo_60 (by (try rw [ti_0]) <;> omega) ls hl
