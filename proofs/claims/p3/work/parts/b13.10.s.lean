set_option maxHeartbeats 8000000 in
set_option maxRecDepth 100000 in
theorem s_X12_fewestPairs_k12 (l : Launch) (D : va_G) (cI cL cZ cR cG cH : ClassId) (Z : zT) (kd : Nat → Nat) (L : List Nat) (f : Nat → va_E) (hG : GI (okc cI cL cZ cR cG cH L kd) kd L f) (o0 : Nat) (mo0 : o0 ∈ L) (ko0 : kd o0 = 12) (p1 : Int32) (bp1 : (0 ≤ p1.toInt ∧ p1.toInt ≤ 23)) (p2 : Int32) (bp2 : (0 ≤ p2.toInt ∧ p2.toInt ≤ 23)) (p3 : Int32) (bp3 : (0 ≤ p3.toInt ∧ p3.toInt ≤ 1)) : mPI l D cI cL cZ cR cG cH Z yX12_fewestPairs cX12_fewestPairs 10 (some .int) 4 100 [.ref o0, .int p1, .int p2, .int p3] L f (fun (r : Int32) (f9 : Nat → va_E) => GI (okc cI cL cZ cR cG cH L kd) kd L f9 ∧ ((-1) ≤ r.toInt ∧ r.toInt ≤ 4) ∧ (∀ b, kd b ≠ 600 → kd b ≠ 601 → f9 b = f b)) := by
  obtain ⟨dC, dI⟩ := D
  refine Met.ofW (cc := cX12_fewestPairs) (maxL := 10) (ret := (some .int)) (by decide) rfl ?_
  intro p e s m args below meth c s₁ B hml hv
  obtain ⟨rfl, hP, hK, hD0, hN, hZ⟩ := hv
  have hx := B.exec
  have hb := B.bytes
  have hr := B.returns
  have hU : ∀ w ∈ wsU, w.before _ s = true := fun w h => atoms_spec (ws := wU yX12_fewestPairs cX12_fewestPairs 10 (some .int)) B.pre w (List.mem_cons_of_mem _ h)
  have hown : s.vm.findClass RX12 = some m.cls := findClass_of_methodNamed B.named
  have hlocks := B.notSynchronized
  have hD := pl_in hD0
  have hS : va_S (fun q => q ∈ L) s.heap s.heap [] := va_S.rf
  have hl := lv_entry ([.ref o0, .int p1, .int p2, .int p3]) (n := 10) (Nat.le_of_ble_eq_true rfl)
  rw [lg_entry_eq]
  generalize (lg_sl ([.ref o0, .int p1, .int p2, .int p3]) ++ List.replicate (10 - (lg_sl ([.ref o0, .int p1, .int p2, .int p3])).length) Slot.unset).toArray = ls at hl ⊢
  have hl : lv_has ls 10 [(0, .ref o0), (1, .int p1), (2, .int p2), (3, .int p3)] := hl
  have hfr0 : ∀ b, kd b ≠ 600 → kd b ≠ 601 → f b = f b := fun _ _ _ => rfl
  obtain ⟨a_1, a_2, a_3, v_4, a_5, v_6, v_7, v_8, v_9, v_10, v_11, v_12, v_13, v_14, v_15, a_16, a_17, a_18, a_19, a_20, a_21, a_22, a_23, v_24, v_25, v_26, v_27, v_28, a_29, v_30, a_31, a_32, v_33, v_34, a_35, v_36, a_37, a_38, v_39, v_40, a_41, a_42, a_43, v_44, a_45, a_46, a_47, a_48, a_49, a_50, a_51, a_52, a_53, v_54, v_55, a_56, hfo_57, fa_58⟩ := un12 (hG _ mo0) ko0
  obtain ⟨ma_1, ka_1⟩ := fa12_0 fa_58
  obtain ⟨ma_45, ka_45⟩ := fa12_44 fa_58
  obtain ⟨ma_46, ka_46⟩ := fa12_45 fa_58
  obtain ⟨g_60, hfo_59, hbg_60⟩ := un_601 (hG _ ma_46) ka_46
  obtain ⟨g_62, hfo_61, hbg_62⟩ := un_600 (hG _ ma_45) ka_45
  refine lv_iconst (v := 0) hx hb dX12_fewestPairs_0 (by decide) ?_
  refine lv_istore (lv' := [(4, .int 0), (0, .ref o0), (1, .int p1), (2, .int p2), (3, .int p3)]) hx hb dX12_fewestPairs_1 hl (by decide) rfl (fun ls hl => ?_)
  have hloop_82 : ∀ (n : Nat), ∀ (y_83 : Int32), (0 ≤ y_83.toInt ∧ y_83.toInt ≤ 4096) → ∀ (f_85 : Nat → va_E), GI (okc cI cL cZ cR cG cH L kd) kd L f_85 → ∀ (H : Heap) (locs : List Loc), va_P (dC, dI) vwCl (va_pl L f_85) H → va_S (fun q => q ∈ L) s.heap H locs → va_D (fun q => q ∈ L) (va_pl L f_85) → (∀ b, kd b ≠ 600 → kd b ≠ 601 → f_85 b = f b) → (f_85 o0 = .inr (12, [.ref a_1, .ref a_2, .ref a_3, .int v_4, .ref a_5, .int v_6, .int v_7, .int v_8, .int v_9, .int v_10, .int v_11, .int v_12, .int v_13, .int v_14, .int v_15, .ref a_16, .ref a_17, .ref a_18, .ref a_19, .ref a_20, .ref a_21, .ref a_22, .ref a_23, .int v_24, .int v_25, .int v_26, .int v_27, .int v_28, .ref a_29, .int v_30, .ref a_31, .ref a_32, .int v_33, .int v_34, .ref a_35, .int v_36, .ref a_37, .ref a_38, .int v_39, .int v_40, .ref a_41, .ref a_42, .ref a_43, .int v_44, .ref a_45, .ref a_46, .ref a_47, .ref a_48, .ref a_49, .ref a_50, .ref a_51, .ref a_52, .ref a_53, .int v_54, .int v_55, .ref a_56])) → (f_85 a_45 = .inl (cI, 4096, .inl g_62)) → 4096 - y_83.toInt < (n : Int) → ∀ (ls : Array Slot), lv_has ls 10 [(4, .int y_83), (0, .ref o0), (1, .int p1), (2, .int p2), (3, .int p3)] → W p l e (headSpec (wU yX12_fewestPairs cX12_fewestPairs 10 (some .int)) { frames := 4, cells := 0, slots := 0, locals := 100 }).room s m [.ref o0, .int p1, .int p2, .int p3].toArray below meth c H locs 0 0 (MQ below (va_Qi (fun (r : Int32) (f9 : Nat → va_E) => GI (okc cI cL cZ cR cG cH L kd) kd L f9 ∧ ((-1) ≤ r.toInt ∧ r.toInt ≤ 4) ∧ (∀ b, kd b ≠ 600 → kd b ≠ 601 → f9 b = f b)) (qP (dC, dI) cI cL cZ cR cG cH L) (fun q => q ∈ L)) [.ref o0, .int p1, .int p2, .int p3].toArray s 0 0 (fun q => q ∈ L)) (F0 m 3 ls []) := by
    intro n
    induction n with
    | zero => intro y_83 by_83 f_85 hG H locs hP hS hD hfr0 hfo_86 hfo_87 hmuhloop_82 ls hl; exfalso; omega
    | succ n ih_hloop_82 =>
      intro y_83 by_83 f_85 hG H locs hP hS hD hfr0 hfo_86 hfo_87 hmuhloop_82 ls hl
      refine lv_iload hx hb dX12_fewestPairs_3 (lv_at hl 0 rfl) ?_
      refine lv_sipush (v := 4096) hx hb dX12_fewestPairs_5 (by decide) ?_
      refine lv_icmp_ge (tgt := 25) hx hb dX12_fewestPairs_8 (by decide) (fun c_88 => ?_) (fun c_88 => ?_)
      · skip
        rw [Int32.le_iff_toInt_le, ti_4096] at c_88
        refine lv_bipush (v := 64) hx hb dX12_fewestPairs_25 (by decide) ?_
        refine lv_aload_n hx hb dX12_fewestPairs_27 rfl (lv_at hl 1 rfl) ?_
        refine lv_iload_n hx hb dX12_fewestPairs_28 rfl (lv_at hl 2 rfl) ?_
        refine lv_iload_n hx hb dX12_fewestPairs_29 rfl (lv_at hl 4 rfl) ?_
        refine lv_iconst (v := 1) hx hb dX12_fewestPairs_30 (by decide) ?_
        refine tk_ViP (As := [.int p1, .int p3, .int 1]) (rest := [.int 64]) (n := 3) hx hb hml hown hU hN hZ (s_X12_closed_k12 l (dC, dI) cI cL cZ cR cG cH Z kd L f_85 hG o0 mo0 ko0 p1 (by constructor <;> omega) p3 (by constructor <;> omega) 1 (by decide)) wd_878 wd_879 wd_880 wd_5 wd_881 (by decide +kernel) ⟨Nat.le_of_ble_eq_true rfl, Nat.le_of_ble_eq_true rfl⟩ hK hP hD hS mo0 hfo_86 12 rfl rfl rfl hl.1 rfl (Nat.le_of_ble_eq_true rfl) dX12_fewestPairs_31 ⟨Nat.le_of_ble_eq_true rfl, Nat.le_of_ble_eq_true rfl⟩ (fun x_89 f_90 H locs hw hP hD hS => ?_)
        obtain ⟨rfl, bx_89⟩ := hw
        refine lv_imul hx hb dX12_fewestPairs_34 ?_
        refine lv_topi (fun x_92 ex_92 => ?_)
        have hx_92 : x_92.toInt = 64 * x_89.toInt := by rw [ex_92, ml_I (by rw [ti_64]; omega) (by rw [ti_64]; omega), ti_64]
        have bx_92 : (0 ≤ x_92.toInt ∧ x_92.toInt ≤ 4032) := by constructor <;> omega
        refine lv_aload_n hx hb dX12_fewestPairs_35 rfl (lv_at hl 1 rfl) ?_
        refine lv_iload_n hx hb dX12_fewestPairs_36 rfl (lv_at hl 3 rfl) ?_
        refine lv_iload_n hx hb dX12_fewestPairs_37 rfl (lv_at hl 4 rfl) ?_
        refine lv_iconst (v := 1) hx hb dX12_fewestPairs_38 (by decide) ?_
        refine tk_ViP (As := [.int p2, .int p3, .int 1]) (rest := [.int x_92]) (n := 3) hx hb hml hown hU hN hZ (s_X12_closed_k12 l (dC, dI) cI cL cZ cR cG cH Z kd L f_85 hG o0 mo0 ko0 p2 (by constructor <;> omega) p3 (by constructor <;> omega) 1 (by decide)) wd_878 wd_879 wd_880 wd_5 wd_881 (by decide +kernel) ⟨Nat.le_of_ble_eq_true rfl, Nat.le_of_ble_eq_true rfl⟩ hK hP hD hS mo0 hfo_86 12 rfl rfl rfl hl.1 rfl (Nat.le_of_ble_eq_true rfl) dX12_fewestPairs_39 ⟨Nat.le_of_ble_eq_true rfl, Nat.le_of_ble_eq_true rfl⟩ (fun x_93 f_94 H locs hw hP hD hS => ?_)
        obtain ⟨rfl, bx_93⟩ := hw
        refine lv_iadd hx hb dX12_fewestPairs_42 ?_
        refine lv_topi (fun x_96 ex_96 => ?_)
        have hx_96 : x_96.toInt = x_92.toInt + x_93.toInt := by rw [ex_96, ad_I (by omega) (by omega)]
        have bx_96 : (0 ≤ x_96.toInt ∧ x_96.toInt ≤ 4095) := by constructor <;> omega
        refine lv_istore (lv' := [(4, .int x_96), (0, .ref o0), (1, .int p1), (2, .int p2), (3, .int p3)]) hx hb dX12_fewestPairs_43 hl (by decide) rfl (fun ls hl => ?_)
        refine lv_aload_n hx hb dX12_fewestPairs_45 rfl (lv_at hl 1 rfl) ?_
        refine tk_getP (D := (dC, dI)) (ci := 12) (v := .ref a_46) (C := RX12) (T := TX12) (N := 56) hx hb hU inlX12 hown hK hP mo0 hfo_86 rfl 45 (by decide) (hU _ wd_194) (fun _ h9 => h9) rfl dX12_fewestPairs_46 ?_
        refine lv_iload hx hb dX12_fewestPairs_49 (lv_at hl 0 rfl) ?_
        refine lv_iconst (v := 0) hx hb dX12_fewestPairs_51 (by decide) ?_
        obtain ⟨g_98, hfo_97, hbg_98⟩ := un_601 (hG _ ma_46) ka_46
        refine tk_istP hx hb hK hP hD hS 0 ma_46 hfo_97 rfl (vp_in_iff.mpr (by constructor <;> omega)) dX12_fewestPairs_52 (fun H locs hP hD hS => ?_)
        obtain ⟨g_99, eqg_99⟩ : ∃ y : Nat → Int32, y = upd g_98 (Int32.toNatClampNeg x_96) 0 := ⟨_, rfl⟩
        rw [← eqg_99] at hP hD
        have hbg_99 : ∀ j, (-1) ≤ (g_99 j).toInt ∧ (g_99 j).toInt ≤ 4 := by rw [eqg_99]; exact okI_up hbg_98 (by decide) _
        obtain ⟨f_101, ef_101⟩ : ∃ y : Nat → va_E, y = va_up f_85 a_46 (.inl (cI, 4096, .inl g_99)) := ⟨_, rfl⟩
        have hP : va_P (dC, dI) vwCl (va_pl L f_101) H := by rw [ef_101]; exact hP
        have hD : va_D (fun q => q ∈ L) (va_pl L f_101) := by rw [ef_101]; exact hD
        have hG : GI (okc cI cL cZ cR cG cH L kd) kd L f_101 := by rw [ef_101]; exact hG.set a_46 (mk_601 ka_46 ⟨_, rfl, hbg_99⟩)
        have hfo_102 : f_101 o0 = .inr (12, [.ref a_1, .ref a_2, .ref a_3, .int v_4, .ref a_5, .int v_6, .int v_7, .int v_8, .int v_9, .int v_10, .int v_11, .int v_12, .int v_13, .int v_14, .int v_15, .ref a_16, .ref a_17, .ref a_18, .ref a_19, .ref a_20, .ref a_21, .ref a_22, .ref a_23, .int v_24, .int v_25, .int v_26, .int v_27, .int v_28, .ref a_29, .int v_30, .ref a_31, .ref a_32, .int v_33, .int v_34, .ref a_35, .int v_36, .ref a_37, .ref a_38, .int v_39, .int v_40, .ref a_41, .ref a_42, .ref a_43, .int v_44, .ref a_45, .ref a_46, .ref a_47, .ref a_48, .ref a_49, .ref a_50, .ref a_51, .ref a_52, .ref a_53, .int v_54, .int v_55, .ref a_56]) := by rw [ef_101, up_ne (kd_ne ka_46 ko0 (by decide))]; exact hfo_86
        have hfo_103 : f_101 a_45 = .inl (cI, 4096, .inl g_62) := by rw [ef_101, up_ne (kd_ne ka_46 ka_45 (by decide))]; exact hfo_87
        have hfr0 : ∀ b, kd b ≠ 600 → kd b ≠ 601 → f_101 b = f b := fun b q600 q601 => (congrFun ef_101 b).trans ((up_ne (fun e9 => q601 (by rw [e9]; exact ka_46))).trans (hfr0 b q600 q601))
        have hfo_104 : f_101 a_46 = .inl (cI, 4096, .inl g_99) := by rw [ef_101]; exact up_self
        refine lv_aload_n hx hb dX12_fewestPairs_53 rfl (lv_at hl 1 rfl) ?_
        refine tk_getP (D := (dC, dI)) (ci := 12) (v := .ref a_45) (C := RX12) (T := TX12) (N := 56) hx hb hU inlX12 hown hK hP mo0 hfo_102 rfl 44 (by decide) (hU _ wd_193) (fun _ h9 => h9) rfl dX12_fewestPairs_54 ?_
        refine lv_iconst (v := 0) hx hb dX12_fewestPairs_57 (by decide) ?_
        refine lv_iload hx hb dX12_fewestPairs_58 (lv_at hl 0 rfl) ?_
        refine tk_istP hx hb hK hP hD hS 0 ma_45 hfo_103 rfl (vp_in_nI (n := 0) (by decide) (by decide)) dX12_fewestPairs_60 (fun H locs hP hD hS => ?_)
        obtain ⟨g_105, eqg_105⟩ : ∃ y : Nat → Int32, y = upd g_62 (Int32.toNatClampNeg 0) x_96 := ⟨_, rfl⟩
        rw [← eqg_105] at hP hD
        have hbg_105 : ∀ j, 0 ≤ (g_105 j).toInt ∧ (g_105 j).toInt ≤ 4095 := by rw [eqg_105]; exact okI_up hbg_62 (by constructor <;> omega) _
        obtain ⟨f_107, ef_107⟩ : ∃ y : Nat → va_E, y = va_up f_101 a_45 (.inl (cI, 4096, .inl g_105)) := ⟨_, rfl⟩
        have hP : va_P (dC, dI) vwCl (va_pl L f_107) H := by rw [ef_107]; exact hP
        have hD : va_D (fun q => q ∈ L) (va_pl L f_107) := by rw [ef_107]; exact hD
        have hG : GI (okc cI cL cZ cR cG cH L kd) kd L f_107 := by rw [ef_107]; exact hG.set a_45 (mk_600 ka_45 ⟨_, rfl, hbg_105⟩)
        have hfo_108 : f_107 o0 = .inr (12, [.ref a_1, .ref a_2, .ref a_3, .int v_4, .ref a_5, .int v_6, .int v_7, .int v_8, .int v_9, .int v_10, .int v_11, .int v_12, .int v_13, .int v_14, .int v_15, .ref a_16, .ref a_17, .ref a_18, .ref a_19, .ref a_20, .ref a_21, .ref a_22, .ref a_23, .int v_24, .int v_25, .int v_26, .int v_27, .int v_28, .ref a_29, .int v_30, .ref a_31, .ref a_32, .int v_33, .int v_34, .ref a_35, .int v_36, .ref a_37, .ref a_38, .int v_39, .int v_40, .ref a_41, .ref a_42, .ref a_43, .int v_44, .ref a_45, .ref a_46, .ref a_47, .ref a_48, .ref a_49, .ref a_50, .ref a_51, .ref a_52, .ref a_53, .int v_54, .int v_55, .ref a_56]) := by rw [ef_107, up_ne (kd_ne ka_45 ko0 (by decide))]; exact hfo_102
        have hfo_109 : f_107 a_46 = .inl (cI, 4096, .inl g_99) := by rw [ef_107, up_ne (kd_ne ka_45 ka_46 (by decide))]; exact hfo_104
        have hfr0 : ∀ b, kd b ≠ 600 → kd b ≠ 601 → f_107 b = f b := fun b q600 q601 => (congrFun ef_107 b).trans ((up_ne (fun e9 => q600 (by rw [e9]; exact ka_45))).trans (hfr0 b q600 q601))
        have hfo_110 : f_107 a_45 = .inl (cI, 4096, .inl g_105) := by rw [ef_107]; exact up_self
        refine lv_iconst (v := 1) hx hb dX12_fewestPairs_61 (by decide) ?_
        refine lv_istore (lv' := [(5, .int 1), (4, .int x_96), (0, .ref o0), (1, .int p1), (2, .int p2), (3, .int p3)]) hx hb dX12_fewestPairs_62 hl (by decide) rfl (fun ls hl => ?_)
        refine lv_iconst (v := 0) hx hb dX12_fewestPairs_64 (by decide) ?_
        refine lv_istore (lv' := [(6, .int 0), (5, .int 1), (4, .int x_96), (0, .ref o0), (1, .int p1), (2, .int p2), (3, .int p3)]) hx hb dX12_fewestPairs_65 hl (by decide) rfl (fun ls hl => ?_)
        have hloop_117 : ∀ (n : Nat), ∀ (y_118 : Int32), (0 ≤ y_118.toInt ∧ y_118.toInt ≤ 4096) → ∀ (y_119 : Int32), (1 ≤ y_119.toInt ∧ y_119.toInt ≤ 4096) → ∀ (f_121 : Nat → va_E), GI (okc cI cL cZ cR cG cH L kd) kd L f_121 → ∀ (H : Heap) (locs : List Loc), va_P (dC, dI) vwCl (va_pl L f_121) H → va_S (fun q => q ∈ L) s.heap H locs → va_D (fun q => q ∈ L) (va_pl L f_121) → (∀ b, kd b ≠ 600 → kd b ≠ 601 → f_121 b = f b) → (f_121 o0 = .inr (12, [.ref a_1, .ref a_2, .ref a_3, .int v_4, .ref a_5, .int v_6, .int v_7, .int v_8, .int v_9, .int v_10, .int v_11, .int v_12, .int v_13, .int v_14, .int v_15, .ref a_16, .ref a_17, .ref a_18, .ref a_19, .ref a_20, .ref a_21, .ref a_22, .ref a_23, .int v_24, .int v_25, .int v_26, .int v_27, .int v_28, .ref a_29, .int v_30, .ref a_31, .ref a_32, .int v_33, .int v_34, .ref a_35, .int v_36, .ref a_37, .ref a_38, .int v_39, .int v_40, .ref a_41, .ref a_42, .ref a_43, .int v_44, .ref a_45, .ref a_46, .ref a_47, .ref a_48, .ref a_49, .ref a_50, .ref a_51, .ref a_52, .ref a_53, .int v_54, .int v_55, .ref a_56])) → (y_118.toInt ≤ y_119.toInt) → (∀ gl gs, f_121 a_46 = .inl (cI, 4096, .inl gl) → f_121 a_45 = .inl (cI, 4096, .inl gs) → (∀ j : Nat, j < (y_119.toInt).toNat → 0 ≤ (gl (Int32.toNatClampNeg (gs j))).toInt) ∧ (y_119.toInt).toNat + ctE gl (-1) 4096 ≤ 4096) → 4096 - y_118.toInt < (n : Int) → ∀ (ls : Array Slot), lv_has ls 10 [(6, .int y_118), (5, .int y_119), (4, .int x_96), (0, .ref o0), (1, .int p1), (2, .int p2), (3, .int p3)] → W p l e (headSpec (wU yX12_fewestPairs cX12_fewestPairs 10 (some .int)) { frames := 4, cells := 0, slots := 0, locals := 100 }).room s m [.ref o0, .int p1, .int p2, .int p3].toArray below meth c H locs 0 0 (MQ below (va_Qi (fun (r : Int32) (f9 : Nat → va_E) => GI (okc cI cL cZ cR cG cH L kd) kd L f9 ∧ ((-1) ≤ r.toInt ∧ r.toInt ≤ 4) ∧ (∀ b, kd b ≠ 600 → kd b ≠ 601 → f9 b = f b)) (qP (dC, dI) cI cL cZ cR cG cH L) (fun q => q ∈ L)) [.ref o0, .int p1, .int p2, .int p3].toArray s 0 0 (fun q => q ∈ L)) (F0 m 67 ls []) := by
          intro n
          induction n with
          | zero => intro y_118 by_118 y_119 by_119 f_121 hG H locs hP hS hD hfr0 hfo_122 hrelhloop_117_0 hxi hmuhloop_117 ls hl; exfalso; omega
          | succ n ih_hloop_117 =>
            intro y_118 by_118 y_119 by_119 f_121 hG H locs hP hS hD hfr0 hfo_122 hrelhloop_117_0 hxi hmuhloop_117 ls hl
            refine lv_iload hx hb dX12_fewestPairs_67 (lv_at hl 0 rfl) ?_
            refine lv_iload hx hb dX12_fewestPairs_69 (lv_at hl 1 rfl) ?_
            refine lv_icmp_ge (tgt := 250) hx hb dX12_fewestPairs_71 (by decide) (fun c_123 => ?_) (fun c_123 => ?_)
            · skip
              rw [Int32.le_iff_toInt_le] at c_123
              refine lv_iconst (v := (-1)) hx hb dX12_fewestPairs_250 (by decide) ?_
              exact W.iret (v := (-1)) hx hb hr (fun t ht hW => ⟨⟨(-1), f_121, rfl, ⟨hG, (by decide), hfr0⟩, by rw [ht]; exact hP, va_K.moved hW.alike hK, pl_in hD⟩, hS.F ht⟩) hS.2.2 dX12_fewestPairs_251
            · skip
              rw [Int32.le_iff_toInt_le] at c_123
              refine lv_aload_n hx hb dX12_fewestPairs_74 rfl (lv_at hl 3 rfl) ?_
              refine tk_getP (D := (dC, dI)) (ci := 12) (v := .ref a_45) (C := RX12) (T := TX12) (N := 56) hx hb hU inlX12 hown hK hP mo0 hfo_122 rfl 44 (by decide) (hU _ wd_193) (fun _ h9 => h9) rfl dX12_fewestPairs_75 ?_
              refine lv_iload hx hb dX12_fewestPairs_78 (lv_at hl 0 rfl) ?_
              obtain ⟨g_125, hfo_124, hbg_125⟩ := un_600 (hG _ ma_45) ka_45
              refine tk_ildP hx hb hK hP 0 ma_45 hfo_124 rfl (vp_in_iff.mpr (by constructor <;> omega)) dX12_fewestPairs_80 ?_
              refine lv_topi (fun x_126 ex_126 => ?_)
              have bx_126 : (0 ≤ x_126.toInt ∧ x_126.toInt ≤ 4095) := by rw [ex_126]; exact hbg_125 _
              refine lv_istore (lv' := [(7, .int x_126), (6, .int y_118), (5, .int y_119), (4, .int x_96), (0, .ref o0), (1, .int p1), (2, .int p2), (3, .int p3)]) hx hb dX12_fewestPairs_81 hl (by decide) rfl (fun ls hl => ?_)
              obtain ⟨g_128, hfo_127, hbg_128⟩ := un_601 (hG _ ma_46) ka_46
              have hfo := hxi g_128 g_125 hfo_127 hfo_124
              have hs0 : 0 ≤ (g_128 (Int32.toNatClampNeg x_126)).toInt := by have hc9 := cl_I (i := y_118) (by omega); have h7 := hfo.1 (Int32.toNatClampNeg y_118) (by omega); rw [← ex_126] at h7; exact h7
              refine lv_aload_n hx hb dX12_fewestPairs_83 rfl (lv_at hl 4 rfl) ?_
              refine lv_iload_n hx hb dX12_fewestPairs_84 rfl (lv_at hl 5 rfl) ?_
              refine lv_iload_n hx hb dX12_fewestPairs_85 rfl (lv_at hl 7 rfl) ?_
              refine lv_iload hx hb dX12_fewestPairs_86 (lv_at hl 0 rfl) ?_
              refine lv_bipush (v := 64) hx hb dX12_fewestPairs_88 (by decide) ?_
              refine lv_idiv hx hb dX12_fewestPairs_90 (by decide) ?_
              refine lv_topi (fun x_129 ex_129 => ?_)
              have hx_129 : x_129.toInt = x_126.toInt / 64 := by rw [ex_129, dv_I (by omega) (by rw [ti_64]; omega), ti_64]
              have bx_129 : (0 ≤ x_129.toInt ∧ x_129.toInt ≤ 63) := by constructor <;> omega
              refine tk_ViP (As := [.int p1, .int p3, .int x_129]) (rest := []) (n := 3) hx hb hml hown hU hN hZ (s_X12_isDone_k12 l (dC, dI) cI cL cZ cR cG cH Z kd L f_121 hG o0 mo0 ko0 p1 (by constructor <;> omega) p3 (by constructor <;> omega) x_129) wd_898 wd_899 wd_900 wd_5 wd_901 (by decide +kernel) ⟨Nat.le_of_ble_eq_true rfl, Nat.le_of_ble_eq_true rfl⟩ hK hP hD hS mo0 hfo_122 12 rfl rfl rfl hl.1 rfl (Nat.le_of_ble_eq_true rfl) dX12_fewestPairs_91 ⟨Nat.le_of_ble_eq_true rfl, Nat.le_of_ble_eq_true rfl⟩ (fun x_130 f_131 H locs hw hP hD hS => ?_)
              obtain ⟨rfl, bx_130⟩ := hw
              refine lv_if_eq (tgt := 119) hx hb dX12_fewestPairs_94 (by decide) (fun c_133 => ?_) (fun c_133 => ?_)
              · skip
                rw [← Int32.toInt_inj, ti_0] at c_133
                refine lv_aload_n hx hb dX12_fewestPairs_119 rfl (lv_at hl 4 rfl) ?_
                refine tk_getP (D := (dC, dI)) (ci := 12) (v := .ref a_46) (C := RX12) (T := TX12) (N := 56) hx hb hU inlX12 hown hK hP mo0 hfo_122 rfl 45 (by decide) (hU _ wd_194) (fun _ h9 => h9) rfl dX12_fewestPairs_120 ?_
                refine lv_iload hx hb dX12_fewestPairs_123 (lv_at hl 0 rfl) ?_
                refine tk_ildP hx hb hK hP 0 ma_46 hfo_127 rfl (vp_in_iff.mpr (by constructor <;> omega)) dX12_fewestPairs_125 ?_
                refine lv_topi (fun x_134 ex_134 => ?_)
                have bx_134 : ((-1) ≤ x_134.toInt ∧ x_134.toInt ≤ 4) := by rw [ex_134]; exact hbg_128 _
                refine lv_iconst (v := 4) hx hb dX12_fewestPairs_126 (by decide) ?_
                refine lv_icmp_ne (tgt := 133) hx hb dX12_fewestPairs_127 (by decide) (fun c_135 => ?_) (fun c_135 => ?_)
                · skip
                  rw [← Int32.toInt_inj, ti_4] at c_135
                  refine lv_iconst (v := 0) hx hb dX12_fewestPairs_133 (by decide) ?_
                  refine lv_istore (lv' := [(8, .int 0), (7, .int x_126), (6, .int y_118), (5, .int y_119), (4, .int x_96), (0, .ref o0), (1, .int p1), (2, .int p2), (3, .int p3)]) hx hb dX12_fewestPairs_134 hl (by decide) rfl (fun ls hl => ?_)
                  have hloop_142 : ∀ (n : Nat), ∀ (y_143 : Int32), (0 ≤ y_143.toInt ∧ y_143.toInt ≤ 20) → ∀ (y_144 : Int32), (1 ≤ y_144.toInt ∧ y_144.toInt ≤ 4096) → ∀ (f_146 : Nat → va_E), GI (okc cI cL cZ cR cG cH L kd) kd L f_146 → ∀ (H : Heap) (locs : List Loc), va_P (dC, dI) vwCl (va_pl L f_146) H → va_S (fun q => q ∈ L) s.heap H locs → va_D (fun q => q ∈ L) (va_pl L f_146) → (∀ b, kd b ≠ 600 → kd b ≠ 601 → f_146 b = f b) → (f_146 o0 = .inr (12, [.ref a_1, .ref a_2, .ref a_3, .int v_4, .ref a_5, .int v_6, .int v_7, .int v_8, .int v_9, .int v_10, .int v_11, .int v_12, .int v_13, .int v_14, .int v_15, .ref a_16, .ref a_17, .ref a_18, .ref a_19, .ref a_20, .ref a_21, .ref a_22, .ref a_23, .int v_24, .int v_25, .int v_26, .int v_27, .int v_28, .ref a_29, .int v_30, .ref a_31, .ref a_32, .int v_33, .int v_34, .ref a_35, .int v_36, .ref a_37, .ref a_38, .int v_39, .int v_40, .ref a_41, .ref a_42, .ref a_43, .int v_44, .ref a_45, .ref a_46, .ref a_47, .ref a_48, .ref a_49, .ref a_50, .ref a_51, .ref a_52, .ref a_53, .int v_54, .int v_55, .ref a_56])) → (y_118.toInt + 1 ≤ y_144.toInt) → (∀ gl gs, f_146 a_46 = .inl (cI, 4096, .inl gl) → f_146 a_45 = .inl (cI, 4096, .inl gs) → (∀ j : Nat, j < (y_144.toInt).toNat → 0 ≤ (gl (Int32.toNatClampNeg (gs j))).toInt) ∧ (y_144.toInt).toNat + ctE gl (-1) 4096 ≤ 4096 ∧ 0 ≤ (gl (Int32.toNatClampNeg x_126)).toInt ∧ (gl (Int32.toNatClampNeg x_126)).toInt ≤ 3) → 20 - y_143.toInt < (n : Int) → ∀ (ls : Array Slot), lv_has ls 10 [(8, .int y_143), (7, .int x_126), (6, .int y_118), (5, .int y_144), (4, .int x_96), (0, .ref o0), (1, .int p1), (2, .int p2), (3, .int p3)] → W p l e (headSpec (wU yX12_fewestPairs cX12_fewestPairs 10 (some .int)) { frames := 4, cells := 0, slots := 0, locals := 100 }).room s m [.ref o0, .int p1, .int p2, .int p3].toArray below meth c H locs 0 0 (MQ below (va_Qi (fun (r : Int32) (f9 : Nat → va_E) => GI (okc cI cL cZ cR cG cH L kd) kd L f9 ∧ ((-1) ≤ r.toInt ∧ r.toInt ≤ 4) ∧ (∀ b, kd b ≠ 600 → kd b ≠ 601 → f9 b = f b)) (qP (dC, dI) cI cL cZ cR cG cH L) (fun q => q ∈ L)) [.ref o0, .int p1, .int p2, .int p3].toArray s 0 0 (fun q => q ∈ L)) (F0 m 136 ls []) := by
                    intro n
                    induction n with
                    | zero => intro y_143 by_143 y_144 by_144 f_146 hG H locs hP hS hD hfr0 hfo_147 hrelhloop_142_0 hxj hmuhloop_142 ls hl; exfalso; omega
                    | succ n ih_hloop_142 =>
                      intro y_143 by_143 y_144 by_144 f_146 hG H locs hP hS hD hfr0 hfo_147 hrelhloop_142_0 hxj hmuhloop_142 ls hl
                      refine lv_iload hx hb dX12_fewestPairs_136 (lv_at hl 0 rfl) ?_
                      refine lv_aload_n hx hb dX12_fewestPairs_138 rfl (lv_at hl 5 rfl) ?_
                      refine tk_getP (D := (dC, dI)) (ci := 12) (v := .ref a_1) (C := RX12) (T := TX12) (N := 56) hx hb hU inlX12 hown hK hP mo0 hfo_147 rfl 0 (by decide) (hU _ wd_169) (fun _ h9 => h9) rfl dX12_fewestPairs_139 ?_
                      refine lv_bipush (v := 16) hx hb dX12_fewestPairs_142 (by decide) ?_
                      obtain ⟨g_149, hfo_148, hbg_149⟩ := un_575 (hG _ ma_1) ka_1
                      refine tk_ildP hx hb hK hP 0 ma_1 hfo_148 rfl (vp_in_nI (n := 16) (by decide) (by decide)) dX12_fewestPairs_144 ?_
                      refine lv_topi (fun x_150 ex_150 => ?_)
                      have bx_150 : (0 ≤ x_150.toInt ∧ x_150.toInt ≤ 20) := by rw [ex_150]; exact hbg_149.2.1 _ (by decide) (by decide) (by decide)
                      refine lv_icmp_ge (tgt := 244) hx hb dX12_fewestPairs_145 (by decide) (fun c_151 => ?_) (fun c_151 => ?_)
                      · skip
                        rw [Int32.le_iff_toInt_le] at c_151
                        obtain ⟨x_152, ex_152⟩ : ∃ y : Int32, y_118 + 1 = y := ⟨_, rfl⟩
                        have hx_152 : x_152.toInt = y_118.toInt + 1 := by rw [← ex_152, ad_I (by rw [ti_1]; omega) (by rw [ti_1]; omega), ti_1]
                        have bx_152 : (1 ≤ x_152.toInt ∧ x_152.toInt ≤ 4096) := by constructor <;> omega
                        refine lv_iinc (v := x_152) (lv' := [(6, .int x_152), (8, .int y_143), (7, .int x_126), (5, .int y_144), (4, .int x_96), (0, .ref o0), (1, .int p1), (2, .int p2), (3, .int p3)]) hx hb dX12_fewestPairs_244 hl (k := 2) rfl ex_152 (by decide) rfl (fun ls hl => ?_)
                        refine lv_goto (tgt := 67) hx hb dX12_fewestPairs_247 (by decide) ?_
                        obtain ⟨g_154, hfo_153, hbg_154⟩ := un_601 (hG _ ma_46) ka_46
                        obtain ⟨g_156, hfo_155, hbg_156⟩ := un_600 (hG _ ma_45) ka_45
                        exact ih_hloop_117 x_152 (by constructor <;> omega) y_144 (by constructor <;> omega) f_146 hG _ _ hP hS hD hfr0 hfo_147 (by omega) (fun gl gs h1 h2 => by first | exact ⟨(hxj gl gs h1 h2).1, (hxj gl gs h1 h2).2.1⟩ | exact hxi gl gs h1 h2) (by omega) ls (lv_sub hl [0, 3, 4, 5, 6, 7, 8] rfl)
                      · skip
                        rw [Int32.le_iff_toInt_le] at c_151
                        refine lv_bipush (v := 64) hx hb dX12_fewestPairs_148 (by decide) ?_
                        refine lv_aload_n hx hb dX12_fewestPairs_150 rfl (lv_at hl 5 rfl) ?_
                        refine lv_iload_n hx hb dX12_fewestPairs_151 rfl (lv_at hl 6 rfl) ?_
                        refine lv_iload_n hx hb dX12_fewestPairs_152 rfl (lv_at hl 8 rfl) ?_
                        refine lv_iload hx hb dX12_fewestPairs_153 (lv_at hl 1 rfl) ?_
                        refine lv_bipush (v := 64) hx hb dX12_fewestPairs_155 (by decide) ?_
                        refine lv_idiv hx hb dX12_fewestPairs_157 (by decide) ?_
                        refine lv_topi (fun x_157 ex_157 => ?_)
                        have hx_157 : x_157.toInt = x_126.toInt / 64 := by rw [ex_157, dv_I (by omega) (by rw [ti_64]; omega), ti_64]
                        have bx_157 : (0 ≤ x_157.toInt ∧ x_157.toInt ≤ 63) := by constructor <;> omega
                        refine lv_aload_n hx hb dX12_fewestPairs_158 rfl (lv_at hl 5 rfl) ?_
                        refine tk_getP (D := (dC, dI)) (ci := 12) (v := .ref a_1) (C := RX12) (T := TX12) (N := 56) hx hb hU inlX12 hown hK hP mo0 hfo_147 rfl 0 (by decide) (hU _ wd_169) (fun _ h9 => h9) rfl dX12_fewestPairs_159 ?_
                        refine lv_bipush (v := 20) hx hb dX12_fewestPairs_162 (by decide) ?_
                        refine lv_iload hx hb dX12_fewestPairs_164 (lv_at hl 0 rfl) ?_
                        refine lv_iadd hx hb dX12_fewestPairs_166 ?_
                        refine lv_topi (fun x_158 ex_158 => ?_)
                        have hx_158 : x_158.toInt = 20 + y_143.toInt := by rw [ex_158, ad_I (by rw [ti_20]; omega) (by rw [ti_20]; omega), ti_20]
                        have bx_158 : (20 ≤ x_158.toInt ∧ x_158.toInt ≤ 39) := by constructor <;> omega
                        refine tk_ildP hx hb hK hP 0 ma_1 hfo_148 rfl (vp_in_iff.mpr (by constructor <;> omega)) dX12_fewestPairs_167 ?_
                        refine lv_topi (fun x_159 ex_159 => ?_)
                        have bx_159 : (0 ≤ x_159.toInt ∧ x_159.toInt ≤ 80) := by have hc9 := cl_I (i := x_158) (by omega); rw [ex_159]; exact hbg_149.2.2.2.2.2.1 _ (by omega) (by omega) (by omega)
                        refine tk_ViP (As := [.int p1, .int p3, .int x_157, .int x_159]) (rest := [.int 64]) (n := 4) hx hb hml hown hU hN hZ (s_X12_sideGoes_k12 l (dC, dI) cI cL cZ cR cG cH Z kd L f_146 hG o0 mo0 ko0 p1 (by constructor <;> omega) p3 (by constructor <;> omega) x_157 x_159) wd_1305 wd_1306 wd_1307 wd_5 wd_1308 (by decide +kernel) ⟨Nat.le_of_ble_eq_true rfl, Nat.le_of_ble_eq_true rfl⟩ hK hP hD hS mo0 hfo_147 12 rfl rfl rfl hl.1 rfl (Nat.le_of_ble_eq_true rfl) dX12_fewestPairs_168 ⟨Nat.le_of_ble_eq_true rfl, Nat.le_of_ble_eq_true rfl⟩ (fun x_160 f_161 H locs hw hP hD hS => ?_)
                        obtain ⟨rfl, bx_160⟩ := hw
                        refine lv_imul hx hb dX12_fewestPairs_171 ?_
                        refine lv_topi (fun x_163 ex_163 => ?_)
                        have hx_163 : x_163.toInt = 64 * x_160.toInt := by rw [ex_163, ml_I (by rw [ti_64]; omega) (by rw [ti_64]; omega), ti_64]
                        have bx_163 : (0 ≤ x_163.toInt ∧ x_163.toInt ≤ 4032) := by constructor <;> omega
                        refine lv_aload_n hx hb dX12_fewestPairs_172 rfl (lv_at hl 5 rfl) ?_
                        refine lv_iload_n hx hb dX12_fewestPairs_173 rfl (lv_at hl 7 rfl) ?_
                        refine lv_iload_n hx hb dX12_fewestPairs_174 rfl (lv_at hl 8 rfl) ?_
                        refine lv_iload hx hb dX12_fewestPairs_175 (lv_at hl 1 rfl) ?_
                        refine lv_bipush (v := 64) hx hb dX12_fewestPairs_177 (by decide) ?_
                        refine lv_irem hx hb dX12_fewestPairs_179 (by decide) ?_
                        refine lv_topi (fun x_164 ex_164 => ?_)
                        have hx_164 : x_164.toInt = x_126.toInt % 64 := by rw [ex_164, rm_I (by omega) (by rw [ti_64]; omega), ti_64]
                        have bx_164 : (0 ≤ x_164.toInt ∧ x_164.toInt ≤ 63) := by constructor <;> omega
                        refine lv_aload_n hx hb dX12_fewestPairs_180 rfl (lv_at hl 5 rfl) ?_
                        refine tk_getP (D := (dC, dI)) (ci := 12) (v := .ref a_1) (C := RX12) (T := TX12) (N := 56) hx hb hU inlX12 hown hK hP mo0 hfo_147 rfl 0 (by decide) (hU _ wd_169) (fun _ h9 => h9) rfl dX12_fewestPairs_181 ?_
                        refine lv_bipush (v := 20) hx hb dX12_fewestPairs_184 (by decide) ?_
                        refine lv_iload hx hb dX12_fewestPairs_186 (lv_at hl 0 rfl) ?_
                        refine lv_iadd hx hb dX12_fewestPairs_188 ?_
                        refine lv_topi (fun x_165 ex_165 => ?_)
                        have hx_165 : x_165.toInt = 20 + y_143.toInt := by rw [ex_165, ad_I (by rw [ti_20]; omega) (by rw [ti_20]; omega), ti_20]
                        have bx_165 : (20 ≤ x_165.toInt ∧ x_165.toInt ≤ 39) := by constructor <;> omega
                        refine tk_ildP hx hb hK hP 0 ma_1 hfo_148 rfl (vp_in_iff.mpr (by constructor <;> omega)) dX12_fewestPairs_189 ?_
                        refine lv_topi (fun x_166 ex_166 => ?_)
                        have bx_166 : (0 ≤ x_166.toInt ∧ x_166.toInt ≤ 80) := by have hc9 := cl_I (i := x_165) (by omega); rw [ex_166]; exact hbg_149.2.2.2.2.2.1 _ (by omega) (by omega) (by omega)
                        refine tk_ViP (As := [.int p2, .int p3, .int x_164, .int x_166]) (rest := [.int x_163]) (n := 4) hx hb hml hown hU hN hZ (s_X12_sideGoes_k12 l (dC, dI) cI cL cZ cR cG cH Z kd L f_146 hG o0 mo0 ko0 p2 (by constructor <;> omega) p3 (by constructor <;> omega) x_164 x_166) wd_1305 wd_1306 wd_1307 wd_5 wd_1308 (by decide +kernel) ⟨Nat.le_of_ble_eq_true rfl, Nat.le_of_ble_eq_true rfl⟩ hK hP hD hS mo0 hfo_147 12 rfl rfl rfl hl.1 rfl (Nat.le_of_ble_eq_true rfl) dX12_fewestPairs_190 ⟨Nat.le_of_ble_eq_true rfl, Nat.le_of_ble_eq_true rfl⟩ (fun x_167 f_168 H locs hw hP hD hS => ?_)
                        obtain ⟨rfl, bx_167⟩ := hw
                        refine lv_iadd hx hb dX12_fewestPairs_193 ?_
                        refine lv_topi (fun x_170 ex_170 => ?_)
                        have hx_170 : x_170.toInt = x_163.toInt + x_167.toInt := by rw [ex_170, ad_I (by omega) (by omega)]
                        have bx_170 : (0 ≤ x_170.toInt ∧ x_170.toInt ≤ 4095) := by constructor <;> omega
                        refine lv_istore (lv' := [(9, .int x_170), (8, .int y_143), (7, .int x_126), (6, .int y_118), (5, .int y_144), (4, .int x_96), (0, .ref o0), (1, .int p1), (2, .int p2), (3, .int p3)]) hx hb dX12_fewestPairs_194 hl (by decide) rfl (fun ls hl => ?_)
                        refine lv_aload_n hx hb dX12_fewestPairs_196 rfl (lv_at hl 6 rfl) ?_
                        refine tk_getP (D := (dC, dI)) (ci := 12) (v := .ref a_46) (C := RX12) (T := TX12) (N := 56) hx hb hU inlX12 hown hK hP mo0 hfo_147 rfl 45 (by decide) (hU _ wd_194) (fun _ h9 => h9) rfl dX12_fewestPairs_197 ?_
                        refine lv_iload hx hb dX12_fewestPairs_200 (lv_at hl 0 rfl) ?_
                        obtain ⟨g_172, hfo_171, hbg_172⟩ := un_601 (hG _ ma_46) ka_46
                        refine tk_ildP hx hb hK hP 0 ma_46 hfo_171 rfl (vp_in_iff.mpr (by constructor <;> omega)) dX12_fewestPairs_202 ?_
                        refine lv_topi (fun x_173 ex_173 => ?_)
                        have bx_173 : ((-1) ≤ x_173.toInt ∧ x_173.toInt ≤ 4) := by rw [ex_173]; exact hbg_172 _
                        refine lv_iconst (v := (-1)) hx hb dX12_fewestPairs_203 (by decide) ?_
                        refine lv_icmp_eq (tgt := 210) hx hb dX12_fewestPairs_204 (by decide) (fun c_174 => ?_) (fun c_174 => ?_)
                        · skip
                          rw [← Int32.toInt_inj, ti_m1] at c_174
                          obtain ⟨g_176, hfo_175, hbg_176⟩ := un_600 (hG _ ma_45) ka_45
                          have hfp := hxj g_172 g_176 hfo_171 hfo_175
                          refine lv_aload_n hx hb dX12_fewestPairs_210 rfl (lv_at hl 6 rfl) ?_
                          refine tk_getP (D := (dC, dI)) (ci := 12) (v := .ref a_46) (C := RX12) (T := TX12) (N := 56) hx hb hU inlX12 hown hK hP mo0 hfo_147 rfl 45 (by decide) (hU _ wd_194) (fun _ h9 => h9) rfl dX12_fewestPairs_211 ?_
                          refine lv_iload hx hb dX12_fewestPairs_214 (lv_at hl 0 rfl) ?_
                          refine lv_aload_n hx hb dX12_fewestPairs_216 rfl (lv_at hl 6 rfl) ?_
                          refine tk_getP (D := (dC, dI)) (ci := 12) (v := .ref a_46) (C := RX12) (T := TX12) (N := 56) hx hb hU inlX12 hown hK hP mo0 hfo_147 rfl 45 (by decide) (hU _ wd_194) (fun _ h9 => h9) rfl dX12_fewestPairs_217 ?_
                          refine lv_iload hx hb dX12_fewestPairs_220 (lv_at hl 2 rfl) ?_
                          refine tk_ildP hx hb hK hP 0 ma_46 hfo_171 rfl (vp_in_iff.mpr (by constructor <;> omega)) dX12_fewestPairs_222 ?_
                          refine lv_topi (fun x_177 ex_177 => ?_)
                          have bx_177 : ((-1) ≤ x_177.toInt ∧ x_177.toInt ≤ 4) := by rw [ex_177]; exact hbg_172 _
                          have hnrc_178 : (0 ≤ x_177.toInt ∧ x_177.toInt ≤ 3) := by have h7 := hfp.2.2; have h8 : x_177.toInt = (g_172 (Int32.toNatClampNeg x_126)).toInt := (by rw [ex_177]); constructor <;> omega
                          refine lv_iconst (v := 1) hx hb dX12_fewestPairs_223 (by decide) ?_
                          refine lv_iadd hx hb dX12_fewestPairs_224 ?_
                          refine lv_topi (fun x_179 ex_179 => ?_)
                          have hx_179 : x_179.toInt = x_177.toInt + 1 := by rw [ex_179, ad_I (by rw [ti_1]; omega) (by rw [ti_1]; omega), ti_1]
                          have bx_179 : (1 ≤ x_179.toInt ∧ x_179.toInt ≤ 4) := by constructor <;> omega
                          have hfq := fp_step (m := Int32.toNatClampNeg y_144) (s := Int32.toNatClampNeg x_126) (v := x_179) (nx := x_170) (gs := g_176) (by have hcm := cl_I (i := y_144) (by omega); intro j hj; exact hfp.1 j (by omega)) (by have hcm := cl_I (i := y_144) (by omega); have h7 := hfp.2.1; omega) hfp.2.2 rfl (by rw [← ex_173]; exact Int32.toInt_inj.mp (by rw [show ((-1 : Int32)).toInt = -1 from by decide]; omega)) (by have hc9 := cl_I (i := x_170) (by omega); omega) (by have h8 : x_177.toInt = (g_172 (Int32.toNatClampNeg x_126)).toInt := (by rw [ex_177]); omega)
                          have hmm : y_144.toInt ≤ 4095 := by have hcm := cl_I (i := y_144) (by omega); have h7 := hfq.2.2.2; omega
                          refine tk_istP hx hb hK hP hD hS 0 ma_46 hfo_171 rfl (vp_in_iff.mpr (by constructor <;> omega)) dX12_fewestPairs_225 (fun H locs hP hD hS => ?_)
                          obtain ⟨g_180, eqg_180⟩ : ∃ y : Nat → Int32, y = upd g_172 (Int32.toNatClampNeg x_170) x_179 := ⟨_, rfl⟩
                          rw [← eqg_180] at hP hD
                          have hbg_180 : ∀ j, (-1) ≤ (g_180 j).toInt ∧ (g_180 j).toInt ≤ 4 := by rw [eqg_180]; exact okI_up hbg_172 (by constructor <;> omega) _
                          obtain ⟨f_182, ef_182⟩ : ∃ y : Nat → va_E, y = va_up f_146 a_46 (.inl (cI, 4096, .inl g_180)) := ⟨_, rfl⟩
                          have hP : va_P (dC, dI) vwCl (va_pl L f_182) H := by rw [ef_182]; exact hP
                          have hD : va_D (fun q => q ∈ L) (va_pl L f_182) := by rw [ef_182]; exact hD
                          have hG : GI (okc cI cL cZ cR cG cH L kd) kd L f_182 := by rw [ef_182]; exact hG.set a_46 (mk_601 ka_46 ⟨_, rfl, hbg_180⟩)
                          have hfo_183 : f_182 o0 = .inr (12, [.ref a_1, .ref a_2, .ref a_3, .int v_4, .ref a_5, .int v_6, .int v_7, .int v_8, .int v_9, .int v_10, .int v_11, .int v_12, .int v_13, .int v_14, .int v_15, .ref a_16, .ref a_17, .ref a_18, .ref a_19, .ref a_20, .ref a_21, .ref a_22, .ref a_23, .int v_24, .int v_25, .int v_26, .int v_27, .int v_28, .ref a_29, .int v_30, .ref a_31, .ref a_32, .int v_33, .int v_34, .ref a_35, .int v_36, .ref a_37, .ref a_38, .int v_39, .int v_40, .ref a_41, .ref a_42, .ref a_43, .int v_44, .ref a_45, .ref a_46, .ref a_47, .ref a_48, .ref a_49, .ref a_50, .ref a_51, .ref a_52, .ref a_53, .int v_54, .int v_55, .ref a_56]) := by rw [ef_182, up_ne (kd_ne ka_46 ko0 (by decide))]; exact hfo_147
                          have hfo_184 : f_182 a_1 = .inl (cI, 1560, .inl g_149) := by rw [ef_182, up_ne (kd_ne ka_46 ka_1 (by decide))]; exact hfo_148
                          have hfo_185 : f_182 a_45 = .inl (cI, 4096, .inl g_176) := by rw [ef_182, up_ne (kd_ne ka_46 ka_45 (by decide))]; exact hfo_175
                          have hfr0 : ∀ b, kd b ≠ 600 → kd b ≠ 601 → f_182 b = f b := fun b q600 q601 => (congrFun ef_182 b).trans ((up_ne (fun e9 => q601 (by rw [e9]; exact ka_46))).trans (hfr0 b q600 q601))
                          have hfo_186 : f_182 a_46 = .inl (cI, 4096, .inl g_180) := by rw [ef_182]; exact up_self
                          refine lv_aload_n hx hb dX12_fewestPairs_226 rfl (lv_at hl 6 rfl) ?_
                          refine tk_getP (D := (dC, dI)) (ci := 12) (v := .ref a_45) (C := RX12) (T := TX12) (N := 56) hx hb hU inlX12 hown hK hP mo0 hfo_183 rfl 44 (by decide) (hU _ wd_193) (fun _ h9 => h9) rfl dX12_fewestPairs_227 ?_
                          refine lv_iload hx hb dX12_fewestPairs_230 (lv_at hl 4 rfl) ?_
                          refine lv_iload hx hb dX12_fewestPairs_232 (lv_at hl 0 rfl) ?_
                          refine tk_istP hx hb hK hP hD hS 0 ma_45 hfo_185 rfl (vp_in_iff.mpr (by constructor <;> omega)) dX12_fewestPairs_234 (fun H locs hP hD hS => ?_)
                          obtain ⟨g_187, eqg_187⟩ : ∃ y : Nat → Int32, y = upd g_176 (Int32.toNatClampNeg y_144) x_170 := ⟨_, rfl⟩
                          rw [← eqg_187] at hP hD
                          have hbg_187 : ∀ j, 0 ≤ (g_187 j).toInt ∧ (g_187 j).toInt ≤ 4095 := by rw [eqg_187]; exact okI_up hbg_176 (by constructor <;> omega) _
                          obtain ⟨f_189, ef_189⟩ : ∃ y : Nat → va_E, y = va_up f_182 a_45 (.inl (cI, 4096, .inl g_187)) := ⟨_, rfl⟩
                          have hP : va_P (dC, dI) vwCl (va_pl L f_189) H := by rw [ef_189]; exact hP
                          have hD : va_D (fun q => q ∈ L) (va_pl L f_189) := by rw [ef_189]; exact hD
                          have hG : GI (okc cI cL cZ cR cG cH L kd) kd L f_189 := by rw [ef_189]; exact hG.set a_45 (mk_600 ka_45 ⟨_, rfl, hbg_187⟩)
                          have hfo_190 : f_189 o0 = .inr (12, [.ref a_1, .ref a_2, .ref a_3, .int v_4, .ref a_5, .int v_6, .int v_7, .int v_8, .int v_9, .int v_10, .int v_11, .int v_12, .int v_13, .int v_14, .int v_15, .ref a_16, .ref a_17, .ref a_18, .ref a_19, .ref a_20, .ref a_21, .ref a_22, .ref a_23, .int v_24, .int v_25, .int v_26, .int v_27, .int v_28, .ref a_29, .int v_30, .ref a_31, .ref a_32, .int v_33, .int v_34, .ref a_35, .int v_36, .ref a_37, .ref a_38, .int v_39, .int v_40, .ref a_41, .ref a_42, .ref a_43, .int v_44, .ref a_45, .ref a_46, .ref a_47, .ref a_48, .ref a_49, .ref a_50, .ref a_51, .ref a_52, .ref a_53, .int v_54, .int v_55, .ref a_56]) := by rw [ef_189, up_ne (kd_ne ka_45 ko0 (by decide))]; exact hfo_183
                          have hfo_191 : f_189 a_1 = .inl (cI, 1560, .inl g_149) := by rw [ef_189, up_ne (kd_ne ka_45 ka_1 (by decide))]; exact hfo_184
                          have hfo_192 : f_189 a_46 = .inl (cI, 4096, .inl g_180) := by rw [ef_189, up_ne (kd_ne ka_45 ka_46 (by decide))]; exact hfo_186
                          have hfr0 : ∀ b, kd b ≠ 600 → kd b ≠ 601 → f_189 b = f b := fun b q600 q601 => (congrFun ef_189 b).trans ((up_ne (fun e9 => q600 (by rw [e9]; exact ka_45))).trans (hfr0 b q600 q601))
                          have hfo_193 : f_189 a_45 = .inl (cI, 4096, .inl g_187) := by rw [ef_189]; exact up_self
                          obtain ⟨x_194, ex_194⟩ : ∃ y : Int32, y_144 + 1 = y := ⟨_, rfl⟩
                          have hx_194 : x_194.toInt = y_144.toInt + 1 := by rw [← ex_194, ad_I (by rw [ti_1]; omega) (by rw [ti_1]; omega), ti_1]
                          have bx_194 : (2 ≤ x_194.toInt ∧ x_194.toInt ≤ 4096) := by constructor <;> omega
                          refine lv_iinc (v := x_194) (lv' := [(5, .int x_194), (9, .int x_170), (8, .int y_143), (7, .int x_126), (6, .int y_118), (4, .int x_96), (0, .ref o0), (1, .int p1), (2, .int p2), (3, .int p3)]) hx hb dX12_fewestPairs_235 hl (k := 4) rfl ex_194 (by decide) rfl (fun ls hl => ?_)
                          obtain ⟨x_195, ex_195⟩ : ∃ y : Int32, y_143 + 1 = y := ⟨_, rfl⟩
                          have hx_195 : x_195.toInt = y_143.toInt + 1 := by rw [← ex_195, ad_I (by rw [ti_1]; omega) (by rw [ti_1]; omega), ti_1]
                          have bx_195 : (1 ≤ x_195.toInt ∧ x_195.toInt ≤ 20) := by constructor <;> omega
                          refine lv_iinc (v := x_195) (lv' := [(8, .int x_195), (5, .int x_194), (9, .int x_170), (7, .int x_126), (6, .int y_118), (4, .int x_96), (0, .ref o0), (1, .int p1), (2, .int p2), (3, .int p3)]) hx hb dX12_fewestPairs_238 hl (k := 2) rfl ex_195 (by decide) rfl (fun ls hl => ?_)
                          refine lv_goto (tgt := 136) hx hb dX12_fewestPairs_241 (by decide) ?_
                          exact ih_hloop_142 x_195 (by constructor <;> omega) x_194 (by constructor <;> omega) f_189 hG _ _ hP hS hD hfr0 hfo_190 (by omega) (fun gl gs h1 h2 => by rw [hfo_192] at h1; cases h1; rw [hfo_193] at h2; cases h2; have hcm := cl_I (i := y_144) (by omega); have em : (y_144.toInt).toNat = Int32.toNatClampNeg y_144 := (by omega); have em2 : (x_194.toInt).toNat = Int32.toNatClampNeg y_144 + 1 := (by omega); rw [eqg_180, eqg_187, em2]; exact ⟨hfq.1, hfq.2.1, hfq.2.2.1⟩) (by omega) ls (lv_sub hl [0, 3, 4, 1, 5, 6, 7, 8, 9] rfl)
                        · skip
                          rw [← Int32.toInt_inj, ti_m1] at c_174
                          refine lv_goto (tgt := 238) hx hb dX12_fewestPairs_207 (by decide) ?_
                          obtain ⟨x_196, ex_196⟩ : ∃ y : Int32, y_143 + 1 = y := ⟨_, rfl⟩
                          have hx_196 : x_196.toInt = y_143.toInt + 1 := by rw [← ex_196, ad_I (by rw [ti_1]; omega) (by rw [ti_1]; omega), ti_1]
                          have bx_196 : (1 ≤ x_196.toInt ∧ x_196.toInt ≤ 20) := by constructor <;> omega
                          refine lv_iinc (v := x_196) (lv' := [(8, .int x_196), (9, .int x_170), (7, .int x_126), (6, .int y_118), (5, .int y_144), (4, .int x_96), (0, .ref o0), (1, .int p1), (2, .int p2), (3, .int p3)]) hx hb dX12_fewestPairs_238 hl (k := 1) rfl ex_196 (by decide) rfl (fun ls hl => ?_)
                          refine lv_goto (tgt := 136) hx hb dX12_fewestPairs_241 (by decide) ?_
                          obtain ⟨g_198, hfo_197, hbg_198⟩ := un_600 (hG _ ma_45) ka_45
                          exact ih_hloop_142 x_196 (by constructor <;> omega) y_144 (by constructor <;> omega) f_146 hG _ _ hP hS hD hfr0 hfo_147 (by omega) (fun gl gs h1 h2 => hxj gl gs h1 h2) (by omega) ls (lv_sub hl [0, 2, 3, 4, 5, 6, 7, 8, 9] rfl)
                  exact hloop_142 21 0 (by decide) y_119 (by constructor <;> omega) f_121 hG _ _ hP hS hD hfr0 hfo_122 (by (try rw [ti_0]) <;> omega) (fun gl gs h1 h2 => by have h7 := hxi gl gs h1 h2; rw [hfo_127] at h1; cases h1; refine ⟨h7.1, h7.2, hs0, ?_⟩; have h8 : x_134.toInt = (g_128 (Int32.toNatClampNeg x_126)).toInt := (by rw [ex_134]); omega) (by (try rw [ti_0]) <;> omega) ls hl
                · skip
                  rw [← Int32.toInt_inj, ti_4] at c_135
                  refine lv_goto (tgt := 244) hx hb dX12_fewestPairs_130 (by decide) ?_
                  obtain ⟨x_199, ex_199⟩ : ∃ y : Int32, y_118 + 1 = y := ⟨_, rfl⟩
                  have hx_199 : x_199.toInt = y_118.toInt + 1 := by rw [← ex_199, ad_I (by rw [ti_1]; omega) (by rw [ti_1]; omega), ti_1]
                  have bx_199 : (1 ≤ x_199.toInt ∧ x_199.toInt ≤ 4096) := by constructor <;> omega
                  refine lv_iinc (v := x_199) (lv' := [(6, .int x_199), (7, .int x_126), (5, .int y_119), (4, .int x_96), (0, .ref o0), (1, .int p1), (2, .int p2), (3, .int p3)]) hx hb dX12_fewestPairs_244 hl (k := 1) rfl ex_199 (by decide) rfl (fun ls hl => ?_)
                  refine lv_goto (tgt := 67) hx hb dX12_fewestPairs_247 (by decide) ?_
                  exact ih_hloop_117 x_199 (by constructor <;> omega) y_119 (by constructor <;> omega) f_121 hG _ _ hP hS hD hfr0 hfo_122 (by omega) (fun gl gs h1 h2 => by first | exact ⟨(hxj gl gs h1 h2).1, (hxj gl gs h1 h2).2.1⟩ | exact hxi gl gs h1 h2) (by omega) ls (lv_sub hl [0, 2, 3, 4, 5, 6, 7] rfl)
              · skip
                rw [← Int32.toInt_inj, ti_0] at c_133
                refine lv_aload_n hx hb dX12_fewestPairs_97 rfl (lv_at hl 4 rfl) ?_
                refine lv_iload_n hx hb dX12_fewestPairs_98 rfl (lv_at hl 6 rfl) ?_
                refine lv_iload_n hx hb dX12_fewestPairs_99 rfl (lv_at hl 7 rfl) ?_
                refine lv_iload hx hb dX12_fewestPairs_100 (lv_at hl 0 rfl) ?_
                refine lv_bipush (v := 64) hx hb dX12_fewestPairs_102 (by decide) ?_
                refine lv_irem hx hb dX12_fewestPairs_104 (by decide) ?_
                refine lv_topi (fun x_200 ex_200 => ?_)
                have hx_200 : x_200.toInt = x_126.toInt % 64 := by rw [ex_200, rm_I (by omega) (by rw [ti_64]; omega), ti_64]
                have bx_200 : (0 ≤ x_200.toInt ∧ x_200.toInt ≤ 63) := by constructor <;> omega
                refine tk_ViP (As := [.int p2, .int p3, .int x_200]) (rest := []) (n := 3) hx hb hml hown hU hN hZ (s_X12_isDone_k12 l (dC, dI) cI cL cZ cR cG cH Z kd L f_121 hG o0 mo0 ko0 p2 (by constructor <;> omega) p3 (by constructor <;> omega) x_200) wd_898 wd_899 wd_900 wd_5 wd_901 (by decide +kernel) ⟨Nat.le_of_ble_eq_true rfl, Nat.le_of_ble_eq_true rfl⟩ hK hP hD hS mo0 hfo_122 12 rfl rfl rfl hl.1 rfl (Nat.le_of_ble_eq_true rfl) dX12_fewestPairs_105 ⟨Nat.le_of_ble_eq_true rfl, Nat.le_of_ble_eq_true rfl⟩ (fun x_201 f_202 H locs hw hP hD hS => ?_)
                obtain ⟨rfl, bx_201⟩ := hw
                refine lv_if_eq (tgt := 119) hx hb dX12_fewestPairs_108 (by decide) (fun c_204 => ?_) (fun c_204 => ?_)
                · skip
                  rw [← Int32.toInt_inj, ti_0] at c_204
                  refine lv_aload_n hx hb dX12_fewestPairs_119 rfl (lv_at hl 4 rfl) ?_
                  refine tk_getP (D := (dC, dI)) (ci := 12) (v := .ref a_46) (C := RX12) (T := TX12) (N := 56) hx hb hU inlX12 hown hK hP mo0 hfo_122 rfl 45 (by decide) (hU _ wd_194) (fun _ h9 => h9) rfl dX12_fewestPairs_120 ?_
                  refine lv_iload hx hb dX12_fewestPairs_123 (lv_at hl 0 rfl) ?_
                  refine tk_ildP hx hb hK hP 0 ma_46 hfo_127 rfl (vp_in_iff.mpr (by constructor <;> omega)) dX12_fewestPairs_125 ?_
                  refine lv_topi (fun x_205 ex_205 => ?_)
                  have bx_205 : ((-1) ≤ x_205.toInt ∧ x_205.toInt ≤ 4) := by rw [ex_205]; exact hbg_128 _
                  refine lv_iconst (v := 4) hx hb dX12_fewestPairs_126 (by decide) ?_
                  refine lv_icmp_ne (tgt := 133) hx hb dX12_fewestPairs_127 (by decide) (fun c_206 => ?_) (fun c_206 => ?_)
                  · skip
                    rw [← Int32.toInt_inj, ti_4] at c_206
                    refine lv_iconst (v := 0) hx hb dX12_fewestPairs_133 (by decide) ?_
                    refine lv_istore (lv' := [(8, .int 0), (7, .int x_126), (6, .int y_118), (5, .int y_119), (4, .int x_96), (0, .ref o0), (1, .int p1), (2, .int p2), (3, .int p3)]) hx hb dX12_fewestPairs_134 hl (by decide) rfl (fun ls hl => ?_)
                    have hloop_213 : ∀ (n : Nat), ∀ (y_214 : Int32), (0 ≤ y_214.toInt ∧ y_214.toInt ≤ 20) → ∀ (y_215 : Int32), (1 ≤ y_215.toInt ∧ y_215.toInt ≤ 4096) → ∀ (f_217 : Nat → va_E), GI (okc cI cL cZ cR cG cH L kd) kd L f_217 → ∀ (H : Heap) (locs : List Loc), va_P (dC, dI) vwCl (va_pl L f_217) H → va_S (fun q => q ∈ L) s.heap H locs → va_D (fun q => q ∈ L) (va_pl L f_217) → (∀ b, kd b ≠ 600 → kd b ≠ 601 → f_217 b = f b) → (f_217 o0 = .inr (12, [.ref a_1, .ref a_2, .ref a_3, .int v_4, .ref a_5, .int v_6, .int v_7, .int v_8, .int v_9, .int v_10, .int v_11, .int v_12, .int v_13, .int v_14, .int v_15, .ref a_16, .ref a_17, .ref a_18, .ref a_19, .ref a_20, .ref a_21, .ref a_22, .ref a_23, .int v_24, .int v_25, .int v_26, .int v_27, .int v_28, .ref a_29, .int v_30, .ref a_31, .ref a_32, .int v_33, .int v_34, .ref a_35, .int v_36, .ref a_37, .ref a_38, .int v_39, .int v_40, .ref a_41, .ref a_42, .ref a_43, .int v_44, .ref a_45, .ref a_46, .ref a_47, .ref a_48, .ref a_49, .ref a_50, .ref a_51, .ref a_52, .ref a_53, .int v_54, .int v_55, .ref a_56])) → (y_118.toInt + 1 ≤ y_215.toInt) → (∀ gl gs, f_217 a_46 = .inl (cI, 4096, .inl gl) → f_217 a_45 = .inl (cI, 4096, .inl gs) → (∀ j : Nat, j < (y_215.toInt).toNat → 0 ≤ (gl (Int32.toNatClampNeg (gs j))).toInt) ∧ (y_215.toInt).toNat + ctE gl (-1) 4096 ≤ 4096 ∧ 0 ≤ (gl (Int32.toNatClampNeg x_126)).toInt ∧ (gl (Int32.toNatClampNeg x_126)).toInt ≤ 3) → 20 - y_214.toInt < (n : Int) → ∀ (ls : Array Slot), lv_has ls 10 [(8, .int y_214), (7, .int x_126), (6, .int y_118), (5, .int y_215), (4, .int x_96), (0, .ref o0), (1, .int p1), (2, .int p2), (3, .int p3)] → W p l e (headSpec (wU yX12_fewestPairs cX12_fewestPairs 10 (some .int)) { frames := 4, cells := 0, slots := 0, locals := 100 }).room s m [.ref o0, .int p1, .int p2, .int p3].toArray below meth c H locs 0 0 (MQ below (va_Qi (fun (r : Int32) (f9 : Nat → va_E) => GI (okc cI cL cZ cR cG cH L kd) kd L f9 ∧ ((-1) ≤ r.toInt ∧ r.toInt ≤ 4) ∧ (∀ b, kd b ≠ 600 → kd b ≠ 601 → f9 b = f b)) (qP (dC, dI) cI cL cZ cR cG cH L) (fun q => q ∈ L)) [.ref o0, .int p1, .int p2, .int p3].toArray s 0 0 (fun q => q ∈ L)) (F0 m 136 ls []) := by
                      intro n
                      induction n with
                      | zero => intro y_214 by_214 y_215 by_215 f_217 hG H locs hP hS hD hfr0 hfo_218 hrelhloop_213_0 hxj hmuhloop_213 ls hl; exfalso; omega
                      | succ n ih_hloop_213 =>
                        intro y_214 by_214 y_215 by_215 f_217 hG H locs hP hS hD hfr0 hfo_218 hrelhloop_213_0 hxj hmuhloop_213 ls hl
                        refine lv_iload hx hb dX12_fewestPairs_136 (lv_at hl 0 rfl) ?_
                        refine lv_aload_n hx hb dX12_fewestPairs_138 rfl (lv_at hl 5 rfl) ?_
                        refine tk_getP (D := (dC, dI)) (ci := 12) (v := .ref a_1) (C := RX12) (T := TX12) (N := 56) hx hb hU inlX12 hown hK hP mo0 hfo_218 rfl 0 (by decide) (hU _ wd_169) (fun _ h9 => h9) rfl dX12_fewestPairs_139 ?_
                        refine lv_bipush (v := 16) hx hb dX12_fewestPairs_142 (by decide) ?_
                        obtain ⟨g_220, hfo_219, hbg_220⟩ := un_575 (hG _ ma_1) ka_1
                        refine tk_ildP hx hb hK hP 0 ma_1 hfo_219 rfl (vp_in_nI (n := 16) (by decide) (by decide)) dX12_fewestPairs_144 ?_
                        refine lv_topi (fun x_221 ex_221 => ?_)
                        have bx_221 : (0 ≤ x_221.toInt ∧ x_221.toInt ≤ 20) := by rw [ex_221]; exact hbg_220.2.1 _ (by decide) (by decide) (by decide)
                        refine lv_icmp_ge (tgt := 244) hx hb dX12_fewestPairs_145 (by decide) (fun c_222 => ?_) (fun c_222 => ?_)
                        · skip
                          rw [Int32.le_iff_toInt_le] at c_222
                          obtain ⟨x_223, ex_223⟩ : ∃ y : Int32, y_118 + 1 = y := ⟨_, rfl⟩
                          have hx_223 : x_223.toInt = y_118.toInt + 1 := by rw [← ex_223, ad_I (by rw [ti_1]; omega) (by rw [ti_1]; omega), ti_1]
                          have bx_223 : (1 ≤ x_223.toInt ∧ x_223.toInt ≤ 4096) := by constructor <;> omega
                          refine lv_iinc (v := x_223) (lv' := [(6, .int x_223), (8, .int y_214), (7, .int x_126), (5, .int y_215), (4, .int x_96), (0, .ref o0), (1, .int p1), (2, .int p2), (3, .int p3)]) hx hb dX12_fewestPairs_244 hl (k := 2) rfl ex_223 (by decide) rfl (fun ls hl => ?_)
                          refine lv_goto (tgt := 67) hx hb dX12_fewestPairs_247 (by decide) ?_
                          obtain ⟨g_225, hfo_224, hbg_225⟩ := un_601 (hG _ ma_46) ka_46
                          obtain ⟨g_227, hfo_226, hbg_227⟩ := un_600 (hG _ ma_45) ka_45
                          exact ih_hloop_117 x_223 (by constructor <;> omega) y_215 (by constructor <;> omega) f_217 hG _ _ hP hS hD hfr0 hfo_218 (by omega) (fun gl gs h1 h2 => by first | exact ⟨(hxj gl gs h1 h2).1, (hxj gl gs h1 h2).2.1⟩ | exact hxi gl gs h1 h2) (by omega) ls (lv_sub hl [0, 3, 4, 5, 6, 7, 8] rfl)
                        · skip
                          rw [Int32.le_iff_toInt_le] at c_222
                          refine lv_bipush (v := 64) hx hb dX12_fewestPairs_148 (by decide) ?_
                          refine lv_aload_n hx hb dX12_fewestPairs_150 rfl (lv_at hl 5 rfl) ?_
                          refine lv_iload_n hx hb dX12_fewestPairs_151 rfl (lv_at hl 6 rfl) ?_
                          refine lv_iload_n hx hb dX12_fewestPairs_152 rfl (lv_at hl 8 rfl) ?_
                          refine lv_iload hx hb dX12_fewestPairs_153 (lv_at hl 1 rfl) ?_
                          refine lv_bipush (v := 64) hx hb dX12_fewestPairs_155 (by decide) ?_
                          refine lv_idiv hx hb dX12_fewestPairs_157 (by decide) ?_
                          refine lv_topi (fun x_228 ex_228 => ?_)
                          have hx_228 : x_228.toInt = x_126.toInt / 64 := by rw [ex_228, dv_I (by omega) (by rw [ti_64]; omega), ti_64]
                          have bx_228 : (0 ≤ x_228.toInt ∧ x_228.toInt ≤ 63) := by constructor <;> omega
                          refine lv_aload_n hx hb dX12_fewestPairs_158 rfl (lv_at hl 5 rfl) ?_
                          refine tk_getP (D := (dC, dI)) (ci := 12) (v := .ref a_1) (C := RX12) (T := TX12) (N := 56) hx hb hU inlX12 hown hK hP mo0 hfo_218 rfl 0 (by decide) (hU _ wd_169) (fun _ h9 => h9) rfl dX12_fewestPairs_159 ?_
                          refine lv_bipush (v := 20) hx hb dX12_fewestPairs_162 (by decide) ?_
                          refine lv_iload hx hb dX12_fewestPairs_164 (lv_at hl 0 rfl) ?_
                          refine lv_iadd hx hb dX12_fewestPairs_166 ?_
                          refine lv_topi (fun x_229 ex_229 => ?_)
                          have hx_229 : x_229.toInt = 20 + y_214.toInt := by rw [ex_229, ad_I (by rw [ti_20]; omega) (by rw [ti_20]; omega), ti_20]
                          have bx_229 : (20 ≤ x_229.toInt ∧ x_229.toInt ≤ 39) := by constructor <;> omega
                          refine tk_ildP hx hb hK hP 0 ma_1 hfo_219 rfl (vp_in_iff.mpr (by constructor <;> omega)) dX12_fewestPairs_167 ?_
                          refine lv_topi (fun x_230 ex_230 => ?_)
                          have bx_230 : (0 ≤ x_230.toInt ∧ x_230.toInt ≤ 80) := by have hc9 := cl_I (i := x_229) (by omega); rw [ex_230]; exact hbg_220.2.2.2.2.2.1 _ (by omega) (by omega) (by omega)
                          refine tk_ViP (As := [.int p1, .int p3, .int x_228, .int x_230]) (rest := [.int 64]) (n := 4) hx hb hml hown hU hN hZ (s_X12_sideGoes_k12 l (dC, dI) cI cL cZ cR cG cH Z kd L f_217 hG o0 mo0 ko0 p1 (by constructor <;> omega) p3 (by constructor <;> omega) x_228 x_230) wd_1305 wd_1306 wd_1307 wd_5 wd_1308 (by decide +kernel) ⟨Nat.le_of_ble_eq_true rfl, Nat.le_of_ble_eq_true rfl⟩ hK hP hD hS mo0 hfo_218 12 rfl rfl rfl hl.1 rfl (Nat.le_of_ble_eq_true rfl) dX12_fewestPairs_168 ⟨Nat.le_of_ble_eq_true rfl, Nat.le_of_ble_eq_true rfl⟩ (fun x_231 f_232 H locs hw hP hD hS => ?_)
                          obtain ⟨rfl, bx_231⟩ := hw
                          refine lv_imul hx hb dX12_fewestPairs_171 ?_
                          refine lv_topi (fun x_234 ex_234 => ?_)
                          have hx_234 : x_234.toInt = 64 * x_231.toInt := by rw [ex_234, ml_I (by rw [ti_64]; omega) (by rw [ti_64]; omega), ti_64]
                          have bx_234 : (0 ≤ x_234.toInt ∧ x_234.toInt ≤ 4032) := by constructor <;> omega
                          refine lv_aload_n hx hb dX12_fewestPairs_172 rfl (lv_at hl 5 rfl) ?_
                          refine lv_iload_n hx hb dX12_fewestPairs_173 rfl (lv_at hl 7 rfl) ?_
                          refine lv_iload_n hx hb dX12_fewestPairs_174 rfl (lv_at hl 8 rfl) ?_
                          refine lv_iload hx hb dX12_fewestPairs_175 (lv_at hl 1 rfl) ?_
                          refine lv_bipush (v := 64) hx hb dX12_fewestPairs_177 (by decide) ?_
                          refine lv_irem hx hb dX12_fewestPairs_179 (by decide) ?_
                          refine lv_topi (fun x_235 ex_235 => ?_)
                          have hx_235 : x_235.toInt = x_126.toInt % 64 := by rw [ex_235, rm_I (by omega) (by rw [ti_64]; omega), ti_64]
                          have bx_235 : (0 ≤ x_235.toInt ∧ x_235.toInt ≤ 63) := by constructor <;> omega
                          refine lv_aload_n hx hb dX12_fewestPairs_180 rfl (lv_at hl 5 rfl) ?_
                          refine tk_getP (D := (dC, dI)) (ci := 12) (v := .ref a_1) (C := RX12) (T := TX12) (N := 56) hx hb hU inlX12 hown hK hP mo0 hfo_218 rfl 0 (by decide) (hU _ wd_169) (fun _ h9 => h9) rfl dX12_fewestPairs_181 ?_
                          refine lv_bipush (v := 20) hx hb dX12_fewestPairs_184 (by decide) ?_
                          refine lv_iload hx hb dX12_fewestPairs_186 (lv_at hl 0 rfl) ?_
                          refine lv_iadd hx hb dX12_fewestPairs_188 ?_
                          refine lv_topi (fun x_236 ex_236 => ?_)
                          have hx_236 : x_236.toInt = 20 + y_214.toInt := by rw [ex_236, ad_I (by rw [ti_20]; omega) (by rw [ti_20]; omega), ti_20]
                          have bx_236 : (20 ≤ x_236.toInt ∧ x_236.toInt ≤ 39) := by constructor <;> omega
                          refine tk_ildP hx hb hK hP 0 ma_1 hfo_219 rfl (vp_in_iff.mpr (by constructor <;> omega)) dX12_fewestPairs_189 ?_
                          refine lv_topi (fun x_237 ex_237 => ?_)
                          have bx_237 : (0 ≤ x_237.toInt ∧ x_237.toInt ≤ 80) := by have hc9 := cl_I (i := x_236) (by omega); rw [ex_237]; exact hbg_220.2.2.2.2.2.1 _ (by omega) (by omega) (by omega)
                          refine tk_ViP (As := [.int p2, .int p3, .int x_235, .int x_237]) (rest := [.int x_234]) (n := 4) hx hb hml hown hU hN hZ (s_X12_sideGoes_k12 l (dC, dI) cI cL cZ cR cG cH Z kd L f_217 hG o0 mo0 ko0 p2 (by constructor <;> omega) p3 (by constructor <;> omega) x_235 x_237) wd_1305 wd_1306 wd_1307 wd_5 wd_1308 (by decide +kernel) ⟨Nat.le_of_ble_eq_true rfl, Nat.le_of_ble_eq_true rfl⟩ hK hP hD hS mo0 hfo_218 12 rfl rfl rfl hl.1 rfl (Nat.le_of_ble_eq_true rfl) dX12_fewestPairs_190 ⟨Nat.le_of_ble_eq_true rfl, Nat.le_of_ble_eq_true rfl⟩ (fun x_238 f_239 H locs hw hP hD hS => ?_)
                          obtain ⟨rfl, bx_238⟩ := hw
                          refine lv_iadd hx hb dX12_fewestPairs_193 ?_
                          refine lv_topi (fun x_241 ex_241 => ?_)
                          have hx_241 : x_241.toInt = x_234.toInt + x_238.toInt := by rw [ex_241, ad_I (by omega) (by omega)]
                          have bx_241 : (0 ≤ x_241.toInt ∧ x_241.toInt ≤ 4095) := by constructor <;> omega
                          refine lv_istore (lv' := [(9, .int x_241), (8, .int y_214), (7, .int x_126), (6, .int y_118), (5, .int y_215), (4, .int x_96), (0, .ref o0), (1, .int p1), (2, .int p2), (3, .int p3)]) hx hb dX12_fewestPairs_194 hl (by decide) rfl (fun ls hl => ?_)
                          refine lv_aload_n hx hb dX12_fewestPairs_196 rfl (lv_at hl 6 rfl) ?_
                          refine tk_getP (D := (dC, dI)) (ci := 12) (v := .ref a_46) (C := RX12) (T := TX12) (N := 56) hx hb hU inlX12 hown hK hP mo0 hfo_218 rfl 45 (by decide) (hU _ wd_194) (fun _ h9 => h9) rfl dX12_fewestPairs_197 ?_
                          refine lv_iload hx hb dX12_fewestPairs_200 (lv_at hl 0 rfl) ?_
                          obtain ⟨g_243, hfo_242, hbg_243⟩ := un_601 (hG _ ma_46) ka_46
                          refine tk_ildP hx hb hK hP 0 ma_46 hfo_242 rfl (vp_in_iff.mpr (by constructor <;> omega)) dX12_fewestPairs_202 ?_
                          refine lv_topi (fun x_244 ex_244 => ?_)
                          have bx_244 : ((-1) ≤ x_244.toInt ∧ x_244.toInt ≤ 4) := by rw [ex_244]; exact hbg_243 _
                          refine lv_iconst (v := (-1)) hx hb dX12_fewestPairs_203 (by decide) ?_
                          refine lv_icmp_eq (tgt := 210) hx hb dX12_fewestPairs_204 (by decide) (fun c_245 => ?_) (fun c_245 => ?_)
                          · skip
                            rw [← Int32.toInt_inj, ti_m1] at c_245
                            obtain ⟨g_247, hfo_246, hbg_247⟩ := un_600 (hG _ ma_45) ka_45
                            have hfp := hxj g_243 g_247 hfo_242 hfo_246
                            refine lv_aload_n hx hb dX12_fewestPairs_210 rfl (lv_at hl 6 rfl) ?_
                            refine tk_getP (D := (dC, dI)) (ci := 12) (v := .ref a_46) (C := RX12) (T := TX12) (N := 56) hx hb hU inlX12 hown hK hP mo0 hfo_218 rfl 45 (by decide) (hU _ wd_194) (fun _ h9 => h9) rfl dX12_fewestPairs_211 ?_
                            refine lv_iload hx hb dX12_fewestPairs_214 (lv_at hl 0 rfl) ?_
                            refine lv_aload_n hx hb dX12_fewestPairs_216 rfl (lv_at hl 6 rfl) ?_
                            refine tk_getP (D := (dC, dI)) (ci := 12) (v := .ref a_46) (C := RX12) (T := TX12) (N := 56) hx hb hU inlX12 hown hK hP mo0 hfo_218 rfl 45 (by decide) (hU _ wd_194) (fun _ h9 => h9) rfl dX12_fewestPairs_217 ?_
                            refine lv_iload hx hb dX12_fewestPairs_220 (lv_at hl 2 rfl) ?_
                            refine tk_ildP hx hb hK hP 0 ma_46 hfo_242 rfl (vp_in_iff.mpr (by constructor <;> omega)) dX12_fewestPairs_222 ?_
                            refine lv_topi (fun x_248 ex_248 => ?_)
                            have bx_248 : ((-1) ≤ x_248.toInt ∧ x_248.toInt ≤ 4) := by rw [ex_248]; exact hbg_243 _
                            have hnrc_249 : (0 ≤ x_248.toInt ∧ x_248.toInt ≤ 3) := by have h7 := hfp.2.2; have h8 : x_248.toInt = (g_243 (Int32.toNatClampNeg x_126)).toInt := (by rw [ex_248]); constructor <;> omega
                            refine lv_iconst (v := 1) hx hb dX12_fewestPairs_223 (by decide) ?_
                            refine lv_iadd hx hb dX12_fewestPairs_224 ?_
                            refine lv_topi (fun x_250 ex_250 => ?_)
                            have hx_250 : x_250.toInt = x_248.toInt + 1 := by rw [ex_250, ad_I (by rw [ti_1]; omega) (by rw [ti_1]; omega), ti_1]
                            have bx_250 : (1 ≤ x_250.toInt ∧ x_250.toInt ≤ 4) := by constructor <;> omega
                            have hfq := fp_step (m := Int32.toNatClampNeg y_215) (s := Int32.toNatClampNeg x_126) (v := x_250) (nx := x_241) (gs := g_247) (by have hcm := cl_I (i := y_215) (by omega); intro j hj; exact hfp.1 j (by omega)) (by have hcm := cl_I (i := y_215) (by omega); have h7 := hfp.2.1; omega) hfp.2.2 rfl (by rw [← ex_244]; exact Int32.toInt_inj.mp (by rw [show ((-1 : Int32)).toInt = -1 from by decide]; omega)) (by have hc9 := cl_I (i := x_241) (by omega); omega) (by have h8 : x_248.toInt = (g_243 (Int32.toNatClampNeg x_126)).toInt := (by rw [ex_248]); omega)
                            have hmm : y_215.toInt ≤ 4095 := by have hcm := cl_I (i := y_215) (by omega); have h7 := hfq.2.2.2; omega
                            refine tk_istP hx hb hK hP hD hS 0 ma_46 hfo_242 rfl (vp_in_iff.mpr (by constructor <;> omega)) dX12_fewestPairs_225 (fun H locs hP hD hS => ?_)
                            obtain ⟨g_251, eqg_251⟩ : ∃ y : Nat → Int32, y = upd g_243 (Int32.toNatClampNeg x_241) x_250 := ⟨_, rfl⟩
                            rw [← eqg_251] at hP hD
                            have hbg_251 : ∀ j, (-1) ≤ (g_251 j).toInt ∧ (g_251 j).toInt ≤ 4 := by rw [eqg_251]; exact okI_up hbg_243 (by constructor <;> omega) _
                            obtain ⟨f_253, ef_253⟩ : ∃ y : Nat → va_E, y = va_up f_217 a_46 (.inl (cI, 4096, .inl g_251)) := ⟨_, rfl⟩
                            have hP : va_P (dC, dI) vwCl (va_pl L f_253) H := by rw [ef_253]; exact hP
                            have hD : va_D (fun q => q ∈ L) (va_pl L f_253) := by rw [ef_253]; exact hD
                            have hG : GI (okc cI cL cZ cR cG cH L kd) kd L f_253 := by rw [ef_253]; exact hG.set a_46 (mk_601 ka_46 ⟨_, rfl, hbg_251⟩)
                            have hfo_254 : f_253 o0 = .inr (12, [.ref a_1, .ref a_2, .ref a_3, .int v_4, .ref a_5, .int v_6, .int v_7, .int v_8, .int v_9, .int v_10, .int v_11, .int v_12, .int v_13, .int v_14, .int v_15, .ref a_16, .ref a_17, .ref a_18, .ref a_19, .ref a_20, .ref a_21, .ref a_22, .ref a_23, .int v_24, .int v_25, .int v_26, .int v_27, .int v_28, .ref a_29, .int v_30, .ref a_31, .ref a_32, .int v_33, .int v_34, .ref a_35, .int v_36, .ref a_37, .ref a_38, .int v_39, .int v_40, .ref a_41, .ref a_42, .ref a_43, .int v_44, .ref a_45, .ref a_46, .ref a_47, .ref a_48, .ref a_49, .ref a_50, .ref a_51, .ref a_52, .ref a_53, .int v_54, .int v_55, .ref a_56]) := by rw [ef_253, up_ne (kd_ne ka_46 ko0 (by decide))]; exact hfo_218
                            have hfo_255 : f_253 a_1 = .inl (cI, 1560, .inl g_220) := by rw [ef_253, up_ne (kd_ne ka_46 ka_1 (by decide))]; exact hfo_219
                            have hfo_256 : f_253 a_45 = .inl (cI, 4096, .inl g_247) := by rw [ef_253, up_ne (kd_ne ka_46 ka_45 (by decide))]; exact hfo_246
                            have hfr0 : ∀ b, kd b ≠ 600 → kd b ≠ 601 → f_253 b = f b := fun b q600 q601 => (congrFun ef_253 b).trans ((up_ne (fun e9 => q601 (by rw [e9]; exact ka_46))).trans (hfr0 b q600 q601))
                            have hfo_257 : f_253 a_46 = .inl (cI, 4096, .inl g_251) := by rw [ef_253]; exact up_self
                            refine lv_aload_n hx hb dX12_fewestPairs_226 rfl (lv_at hl 6 rfl) ?_
                            refine tk_getP (D := (dC, dI)) (ci := 12) (v := .ref a_45) (C := RX12) (T := TX12) (N := 56) hx hb hU inlX12 hown hK hP mo0 hfo_254 rfl 44 (by decide) (hU _ wd_193) (fun _ h9 => h9) rfl dX12_fewestPairs_227 ?_
                            refine lv_iload hx hb dX12_fewestPairs_230 (lv_at hl 4 rfl) ?_
                            refine lv_iload hx hb dX12_fewestPairs_232 (lv_at hl 0 rfl) ?_
                            refine tk_istP hx hb hK hP hD hS 0 ma_45 hfo_256 rfl (vp_in_iff.mpr (by constructor <;> omega)) dX12_fewestPairs_234 (fun H locs hP hD hS => ?_)
                            obtain ⟨g_258, eqg_258⟩ : ∃ y : Nat → Int32, y = upd g_247 (Int32.toNatClampNeg y_215) x_241 := ⟨_, rfl⟩
                            rw [← eqg_258] at hP hD
                            have hbg_258 : ∀ j, 0 ≤ (g_258 j).toInt ∧ (g_258 j).toInt ≤ 4095 := by rw [eqg_258]; exact okI_up hbg_247 (by constructor <;> omega) _
                            obtain ⟨f_260, ef_260⟩ : ∃ y : Nat → va_E, y = va_up f_253 a_45 (.inl (cI, 4096, .inl g_258)) := ⟨_, rfl⟩
                            have hP : va_P (dC, dI) vwCl (va_pl L f_260) H := by rw [ef_260]; exact hP
                            have hD : va_D (fun q => q ∈ L) (va_pl L f_260) := by rw [ef_260]; exact hD
                            have hG : GI (okc cI cL cZ cR cG cH L kd) kd L f_260 := by rw [ef_260]; exact hG.set a_45 (mk_600 ka_45 ⟨_, rfl, hbg_258⟩)
                            have hfo_261 : f_260 o0 = .inr (12, [.ref a_1, .ref a_2, .ref a_3, .int v_4, .ref a_5, .int v_6, .int v_7, .int v_8, .int v_9, .int v_10, .int v_11, .int v_12, .int v_13, .int v_14, .int v_15, .ref a_16, .ref a_17, .ref a_18, .ref a_19, .ref a_20, .ref a_21, .ref a_22, .ref a_23, .int v_24, .int v_25, .int v_26, .int v_27, .int v_28, .ref a_29, .int v_30, .ref a_31, .ref a_32, .int v_33, .int v_34, .ref a_35, .int v_36, .ref a_37, .ref a_38, .int v_39, .int v_40, .ref a_41, .ref a_42, .ref a_43, .int v_44, .ref a_45, .ref a_46, .ref a_47, .ref a_48, .ref a_49, .ref a_50, .ref a_51, .ref a_52, .ref a_53, .int v_54, .int v_55, .ref a_56]) := by rw [ef_260, up_ne (kd_ne ka_45 ko0 (by decide))]; exact hfo_254
                            have hfo_262 : f_260 a_1 = .inl (cI, 1560, .inl g_220) := by rw [ef_260, up_ne (kd_ne ka_45 ka_1 (by decide))]; exact hfo_255
                            have hfo_263 : f_260 a_46 = .inl (cI, 4096, .inl g_251) := by rw [ef_260, up_ne (kd_ne ka_45 ka_46 (by decide))]; exact hfo_257
                            have hfr0 : ∀ b, kd b ≠ 600 → kd b ≠ 601 → f_260 b = f b := fun b q600 q601 => (congrFun ef_260 b).trans ((up_ne (fun e9 => q600 (by rw [e9]; exact ka_45))).trans (hfr0 b q600 q601))
                            have hfo_264 : f_260 a_45 = .inl (cI, 4096, .inl g_258) := by rw [ef_260]; exact up_self
                            obtain ⟨x_265, ex_265⟩ : ∃ y : Int32, y_215 + 1 = y := ⟨_, rfl⟩
                            have hx_265 : x_265.toInt = y_215.toInt + 1 := by rw [← ex_265, ad_I (by rw [ti_1]; omega) (by rw [ti_1]; omega), ti_1]
                            have bx_265 : (2 ≤ x_265.toInt ∧ x_265.toInt ≤ 4096) := by constructor <;> omega
                            refine lv_iinc (v := x_265) (lv' := [(5, .int x_265), (9, .int x_241), (8, .int y_214), (7, .int x_126), (6, .int y_118), (4, .int x_96), (0, .ref o0), (1, .int p1), (2, .int p2), (3, .int p3)]) hx hb dX12_fewestPairs_235 hl (k := 4) rfl ex_265 (by decide) rfl (fun ls hl => ?_)
                            obtain ⟨x_266, ex_266⟩ : ∃ y : Int32, y_214 + 1 = y := ⟨_, rfl⟩
                            have hx_266 : x_266.toInt = y_214.toInt + 1 := by rw [← ex_266, ad_I (by rw [ti_1]; omega) (by rw [ti_1]; omega), ti_1]
                            have bx_266 : (1 ≤ x_266.toInt ∧ x_266.toInt ≤ 20) := by constructor <;> omega
                            refine lv_iinc (v := x_266) (lv' := [(8, .int x_266), (5, .int x_265), (9, .int x_241), (7, .int x_126), (6, .int y_118), (4, .int x_96), (0, .ref o0), (1, .int p1), (2, .int p2), (3, .int p3)]) hx hb dX12_fewestPairs_238 hl (k := 2) rfl ex_266 (by decide) rfl (fun ls hl => ?_)
                            refine lv_goto (tgt := 136) hx hb dX12_fewestPairs_241 (by decide) ?_
                            exact ih_hloop_213 x_266 (by constructor <;> omega) x_265 (by constructor <;> omega) f_260 hG _ _ hP hS hD hfr0 hfo_261 (by omega) (fun gl gs h1 h2 => by rw [hfo_263] at h1; cases h1; rw [hfo_264] at h2; cases h2; have hcm := cl_I (i := y_215) (by omega); have em : (y_215.toInt).toNat = Int32.toNatClampNeg y_215 := (by omega); have em2 : (x_265.toInt).toNat = Int32.toNatClampNeg y_215 + 1 := (by omega); rw [eqg_251, eqg_258, em2]; exact ⟨hfq.1, hfq.2.1, hfq.2.2.1⟩) (by omega) ls (lv_sub hl [0, 3, 4, 1, 5, 6, 7, 8, 9] rfl)
                          · skip
                            rw [← Int32.toInt_inj, ti_m1] at c_245
                            refine lv_goto (tgt := 238) hx hb dX12_fewestPairs_207 (by decide) ?_
                            obtain ⟨x_267, ex_267⟩ : ∃ y : Int32, y_214 + 1 = y := ⟨_, rfl⟩
                            have hx_267 : x_267.toInt = y_214.toInt + 1 := by rw [← ex_267, ad_I (by rw [ti_1]; omega) (by rw [ti_1]; omega), ti_1]
                            have bx_267 : (1 ≤ x_267.toInt ∧ x_267.toInt ≤ 20) := by constructor <;> omega
                            refine lv_iinc (v := x_267) (lv' := [(8, .int x_267), (9, .int x_241), (7, .int x_126), (6, .int y_118), (5, .int y_215), (4, .int x_96), (0, .ref o0), (1, .int p1), (2, .int p2), (3, .int p3)]) hx hb dX12_fewestPairs_238 hl (k := 1) rfl ex_267 (by decide) rfl (fun ls hl => ?_)
                            refine lv_goto (tgt := 136) hx hb dX12_fewestPairs_241 (by decide) ?_
                            obtain ⟨g_269, hfo_268, hbg_269⟩ := un_600 (hG _ ma_45) ka_45
                            exact ih_hloop_213 x_267 (by constructor <;> omega) y_215 (by constructor <;> omega) f_217 hG _ _ hP hS hD hfr0 hfo_218 (by omega) (fun gl gs h1 h2 => hxj gl gs h1 h2) (by omega) ls (lv_sub hl [0, 2, 3, 4, 5, 6, 7, 8, 9] rfl)
                    exact hloop_213 21 0 (by decide) y_119 (by constructor <;> omega) f_121 hG _ _ hP hS hD hfr0 hfo_122 (by (try rw [ti_0]) <;> omega) (fun gl gs h1 h2 => by have h7 := hxi gl gs h1 h2; rw [hfo_127] at h1; cases h1; refine ⟨h7.1, h7.2, hs0, ?_⟩; have h8 : x_205.toInt = (g_128 (Int32.toNatClampNeg x_126)).toInt := (by rw [ex_205]); omega) (by (try rw [ti_0]) <;> omega) ls hl
                  · skip
                    rw [← Int32.toInt_inj, ti_4] at c_206
                    refine lv_goto (tgt := 244) hx hb dX12_fewestPairs_130 (by decide) ?_
                    obtain ⟨x_270, ex_270⟩ : ∃ y : Int32, y_118 + 1 = y := ⟨_, rfl⟩
                    have hx_270 : x_270.toInt = y_118.toInt + 1 := by rw [← ex_270, ad_I (by rw [ti_1]; omega) (by rw [ti_1]; omega), ti_1]
                    have bx_270 : (1 ≤ x_270.toInt ∧ x_270.toInt ≤ 4096) := by constructor <;> omega
                    refine lv_iinc (v := x_270) (lv' := [(6, .int x_270), (7, .int x_126), (5, .int y_119), (4, .int x_96), (0, .ref o0), (1, .int p1), (2, .int p2), (3, .int p3)]) hx hb dX12_fewestPairs_244 hl (k := 1) rfl ex_270 (by decide) rfl (fun ls hl => ?_)
                    refine lv_goto (tgt := 67) hx hb dX12_fewestPairs_247 (by decide) ?_
                    exact ih_hloop_117 x_270 (by constructor <;> omega) y_119 (by constructor <;> omega) f_121 hG _ _ hP hS hD hfr0 hfo_122 (by omega) (fun gl gs h1 h2 => by first | exact ⟨(hxj gl gs h1 h2).1, (hxj gl gs h1 h2).2.1⟩ | exact hxi gl gs h1 h2) (by omega) ls (lv_sub hl [0, 2, 3, 4, 5, 6, 7] rfl)
                · skip
                  rw [← Int32.toInt_inj, ti_0] at c_204
                  refine lv_aload_n hx hb dX12_fewestPairs_111 rfl (lv_at hl 4 rfl) ?_
                  refine tk_getP (D := (dC, dI)) (ci := 12) (v := .ref a_46) (C := RX12) (T := TX12) (N := 56) hx hb hU inlX12 hown hK hP mo0 hfo_122 rfl 45 (by decide) (hU _ wd_194) (fun _ h9 => h9) rfl dX12_fewestPairs_112 ?_
                  refine lv_iload hx hb dX12_fewestPairs_115 (lv_at hl 0 rfl) ?_
                  refine tk_ildP hx hb hK hP 0 ma_46 hfo_127 rfl (vp_in_iff.mpr (by constructor <;> omega)) dX12_fewestPairs_117 ?_
                  refine lv_topi (fun x_271 ex_271 => ?_)
                  have bx_271 : ((-1) ≤ x_271.toInt ∧ x_271.toInt ≤ 4) := by rw [ex_271]; exact hbg_128 _
                  exact W.iret (v := x_271) hx hb hr (fun t ht hW => ⟨⟨x_271, f_121, rfl, ⟨hG, (by constructor <;> omega), hfr0⟩, by rw [ht]; exact hP, va_K.moved hW.alike hK, pl_in hD⟩, hS.F ht⟩) hS.2.2 dX12_fewestPairs_118
        exact hloop_117 4097 0 (by decide) 1 (by decide) f_107 hG _ _ hP hS hD hfr0 hfo_108 (by (try rw [ti_0]) <;> (try rw [ti_1]) <;> omega) (fun gl gs h1 h2 => by rw [hfo_109] at h1; cases h1; rw [hfo_110] at h2; cases h2; have hc9 := cl_I (i := x_96) (by omega); have h31 : ((1 : Int32)).toInt = 1 := rfl; have hz0 : Int32.toNatClampNeg 0 = 0 := rfl; have hl0 : g_99 (Int32.toNatClampNeg x_96) = 0 := (by rw [eqg_99, pk_us]); refine ⟨fun j hj => ?_, ?_⟩; (· rw [show j = 0 by omega, eqg_105, hz0, pk_us, hl0]; decide); (· have h7 := ctE_lt (g := g_99) (d := -1) (n := 4096) (j := Int32.toNatClampNeg x_96) (by omega) (by rw [hl0]; decide); omega)) (by (try rw [ti_0]) <;> (try rw [ti_1]) <;> omega) ls hl
      · skip
        rw [Int32.le_iff_toInt_le, ti_4096] at c_88
        refine lv_aload_n hx hb dX12_fewestPairs_11 rfl (lv_at hl 1 rfl) ?_
        refine tk_getP (D := (dC, dI)) (ci := 12) (v := .ref a_46) (C := RX12) (T := TX12) (N := 56) hx hb hU inlX12 hown hK hP mo0 hfo_86 rfl 45 (by decide) (hU _ wd_194) (fun _ h9 => h9) rfl dX12_fewestPairs_12 ?_
        refine lv_iload hx hb dX12_fewestPairs_15 (lv_at hl 0 rfl) ?_
        refine lv_iconst (v := (-1)) hx hb dX12_fewestPairs_17 (by decide) ?_
        obtain ⟨g_273, hfo_272, hbg_273⟩ := un_601 (hG _ ma_46) ka_46
        refine tk_istP hx hb hK hP hD hS 0 ma_46 hfo_272 rfl (vp_in_iff.mpr (by constructor <;> omega)) dX12_fewestPairs_18 (fun H locs hP hD hS => ?_)
        obtain ⟨g_274, eqg_274⟩ : ∃ y : Nat → Int32, y = upd g_273 (Int32.toNatClampNeg y_83) (-1) := ⟨_, rfl⟩
        rw [← eqg_274] at hP hD
        have hbg_274 : ∀ j, (-1) ≤ (g_274 j).toInt ∧ (g_274 j).toInt ≤ 4 := by rw [eqg_274]; exact okI_up hbg_273 (by decide) _
        obtain ⟨f_276, ef_276⟩ : ∃ y : Nat → va_E, y = va_up f_85 a_46 (.inl (cI, 4096, .inl g_274)) := ⟨_, rfl⟩
        have hP : va_P (dC, dI) vwCl (va_pl L f_276) H := by rw [ef_276]; exact hP
        have hD : va_D (fun q => q ∈ L) (va_pl L f_276) := by rw [ef_276]; exact hD
        have hG : GI (okc cI cL cZ cR cG cH L kd) kd L f_276 := by rw [ef_276]; exact hG.set a_46 (mk_601 ka_46 ⟨_, rfl, hbg_274⟩)
        have hfo_277 : f_276 o0 = .inr (12, [.ref a_1, .ref a_2, .ref a_3, .int v_4, .ref a_5, .int v_6, .int v_7, .int v_8, .int v_9, .int v_10, .int v_11, .int v_12, .int v_13, .int v_14, .int v_15, .ref a_16, .ref a_17, .ref a_18, .ref a_19, .ref a_20, .ref a_21, .ref a_22, .ref a_23, .int v_24, .int v_25, .int v_26, .int v_27, .int v_28, .ref a_29, .int v_30, .ref a_31, .ref a_32, .int v_33, .int v_34, .ref a_35, .int v_36, .ref a_37, .ref a_38, .int v_39, .int v_40, .ref a_41, .ref a_42, .ref a_43, .int v_44, .ref a_45, .ref a_46, .ref a_47, .ref a_48, .ref a_49, .ref a_50, .ref a_51, .ref a_52, .ref a_53, .int v_54, .int v_55, .ref a_56]) := by rw [ef_276, up_ne (kd_ne ka_46 ko0 (by decide))]; exact hfo_86
        have hfo_278 : f_276 a_45 = .inl (cI, 4096, .inl g_62) := by rw [ef_276, up_ne (kd_ne ka_46 ka_45 (by decide))]; exact hfo_87
        have hfr0 : ∀ b, kd b ≠ 600 → kd b ≠ 601 → f_276 b = f b := fun b q600 q601 => (congrFun ef_276 b).trans ((up_ne (fun e9 => q601 (by rw [e9]; exact ka_46))).trans (hfr0 b q600 q601))
        have hfo_279 : f_276 a_46 = .inl (cI, 4096, .inl g_274) := by rw [ef_276]; exact up_self
        obtain ⟨x_280, ex_280⟩ : ∃ y : Int32, y_83 + 1 = y := ⟨_, rfl⟩
        have hx_280 : x_280.toInt = y_83.toInt + 1 := by rw [← ex_280, ad_I (by rw [ti_1]; omega) (by rw [ti_1]; omega), ti_1]
        have bx_280 : (1 ≤ x_280.toInt ∧ x_280.toInt ≤ 4096) := by constructor <;> omega
        refine lv_iinc (v := x_280) (lv' := [(4, .int x_280), (0, .ref o0), (1, .int p1), (2, .int p2), (3, .int p3)]) hx hb dX12_fewestPairs_19 hl (k := 0) rfl ex_280 (by decide) rfl (fun ls hl => ?_)
        refine lv_goto (tgt := 3) hx hb dX12_fewestPairs_22 (by decide) ?_
        exact ih_hloop_82 x_280 (by constructor <;> omega) f_276 hG _ _ hP hS hD hfr0 hfo_277 hfo_278 (by omega) ls (lv_sub hl [0, 1, 2, 3, 4] rfl)
  exact hloop_82 4097 0 (by decide) f hG _ _ hP hS hD hfr0 hfo_57 hfo_61 (by (try rw [ti_0]) <;> omega) ls hl
