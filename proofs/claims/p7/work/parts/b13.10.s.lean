set_option maxHeartbeats 8000000 in
set_option maxRecDepth 100000 in
theorem s_X12_fewestPairs_k12 (l : Launch) (D : va_G) (cI cL cZ cR cG cH : ClassId) (Z : zT) (kd : Nat → Nat) (L : List Nat) (f : Nat → va_E) (hG : GI (okc cI cL cZ cR cG cH L kd) kd L f) (o0 : Nat) (mo0 : o0 ∈ L) (ko0 : kd o0 = 12) (p1 : Int32) (bp1 : (0 ≤ p1.toInt ∧ p1.toInt ≤ 23)) (p2 : Int32) (bp2 : (0 ≤ p2.toInt ∧ p2.toInt ≤ 23)) (p3 : Int32) (bp3 : (0 ≤ p3.toInt ∧ p3.toInt ≤ 1)) : mPI l D cI cL cZ cR cG cH Z yX12_fewestPairs cX12_fewestPairs 10 (some .int) 4 100 [.ref o0, .int p1, .int p2, .int p3] L f (fun (r : Int32) (f9 : Nat → va_E) => GI (okc cI cL cZ cR cG cH L kd) kd L f9 ∧ ((-1) ≤ r.toInt ∧ r.toInt ≤ 4) ∧ (∀ b, kd b ≠ 600 → kd b ≠ 601 → f9 b = f b)) := by
  obtain ⟨dC, dI⟩ := D
  refine Met.ofW (cc := cX12_fewestPairs) (maxL := 10) (ret := (some .int)) (by decide) rfl ?_
  intro p e s m args below meth c s₁ B hml hv
  obtain ⟨rfl, hP, hK, hD0, hN, hZ⟩ := hv
  have hx := B.exec
  have hb := B.bytes
  have hr := B.returns
  have hU : ∀ w ∈ wsU, w.before _ s = true := fun w h => atoms_spec (ws := wU yX12_fewestPairs cX12_fewestPairs 10 (some .int)) B.pre w (List.mem_cons_of_mem _ h)
  have hown : s.vm.findClass RX12 = some m.cls := findClass_of_methodNamed B.named
  have hlocks := B.notSynchronized
  have hD := pl_in hD0
  have hS : va_S (fun q => q ∈ L) s.heap s.heap [] := va_S.rf
  have hl := lv_entry ([.ref o0, .int p1, .int p2, .int p3]) (n := 10) (Nat.le_of_ble_eq_true rfl)
  rw [lg_entry_eq]
  generalize (lg_sl ([.ref o0, .int p1, .int p2, .int p3]) ++ List.replicate (10 - (lg_sl ([.ref o0, .int p1, .int p2, .int p3])).length) Slot.unset).toArray = ls at hl ⊢
  have hl : lv_has ls 10 [(0, .ref o0), (1, .int p1), (2, .int p2), (3, .int p3)] := hl
  have hfr0 : ∀ b, kd b ≠ 600 → kd b ≠ 601 → f b = f b := fun _ _ _ => rfl
  obtain ⟨a_1, a_2, a_3, v_4, a_5, v_6, v_7, v_8, v_9, v_10, v_11, v_12, v_13, v_14, v_15, a_16, a_17, a_18, a_19, a_20, a_21, a_22, a_23, v_24, v_25, v_26, v_27, v_28, a_29, v_30, a_31, a_32, v_33, v_34, a_35, v_36, a_37, a_38, v_39, v_40, a_41, a_42, a_43, v_44, a_45, a_46, a_47, a_48, a_49, a_50, a_51, a_52, a_53, v_54, v_55, a_56, hfo_57, fa_58⟩ := un12 (hG _ mo0) ko0
  obtain ⟨ma_1, ka_1⟩ := fa12_0 fa_58
  obtain ⟨ma_45, ka_45⟩ := fa12_44 fa_58
  obtain ⟨ma_46, ka_46⟩ := fa12_45 fa_58
  obtain ⟨g_60, hfo_59, hbg_60⟩ := un_601 (hG _ ma_46) ka_46
  obtain ⟨g_62, hfo_61, hbg_62⟩ := un_600 (hG _ ma_45) ka_45
  refine lv_iconst (v := 0) hx hb dX12_fewestPairs_0 (by decide) ?_
  refine lv_istore (lv' := [(4, .int 0), (0, .ref o0), (1, .int p1), (2, .int p2), (3, .int p3)]) hx hb dX12_fewestPairs_1 hl (by decide) rfl (fun ls hl => ?_)
  have hloop_82 : ∀ (n : Nat), ∀ (y_83 : Int32), (0 ≤ y_83.toInt ∧ y_83.toInt ≤ 4096) → ∀ (f_85 : Nat → va_E), GI (okc cI cL cZ cR cG cH L kd) kd L f_85 → ∀ (H : Heap) (locs : List Loc), va_P (dC, dI) vwCl (va_pl L f_85) H → va_S (fun q => q ∈ L) s.heap H locs → va_D (fun q => q ∈ L) (va_pl L f_85) → (∀ b, kd b ≠ 600 → kd b ≠ 601 → f_85 b = f b) → (f_85 o0 = .inr (12, [.ref a_1, .ref a_2, .ref a_3, .int v_4, .ref a_5, .int v_6, .int v_7, .int v_8, .int v_9, .int v_10, .int v_11, .int v_12, .int v_13, .int v_14, .int v_15, .ref a_16, .ref a_17, .ref a_18, .ref a_19, .ref a_20, .ref a_21, .ref a_22, .ref a_23, .int v_24, .int v_25, .int v_26, .int v_27, .int v_28, .ref a_29, .int v_30, .ref a_31, .ref a_32, .int v_33, .int v_34, .ref a_35, .int v_36, .ref a_37, .ref a_38, .int v_39, .int v_40, .ref a_41, .ref a_42, .ref a_43, .int v_44, .ref a_45, .ref a_46, .ref a_47, .ref a_48, .ref a_49, .ref a_50, .ref a_51, .ref a_52, .ref a_53, .int v_54, .int v_55, .ref a_56])) → (f_85 a_45 = .inl (cI, 4096, .inl g_62)) → 4096 - y_83.toInt < (n : Int) → ∀ (ls : Array Slot), lv_has ls 10 [(4, .int y_83), (0, .ref o0), (1, .int p1), (2, .int p2), (3, .int p3)] → W p l e (headSpec (wU yX12_fewestPairs cX12_fewestPairs 10 (some .int)) { frames := 4, cells := 0, slots := 0, locals := 100 }).room s m [.ref o0, .int p1, .int p2, .int p3].toArray below meth c H locs 0 0 (MQ below (va_Qi (fun (r : Int32) (f9 : Nat → va_E) => GI (okc cI cL cZ cR cG cH L kd) kd L f9 ∧ ((-1) ≤ r.toInt ∧ r.toInt ≤ 4) ∧ (∀ b, kd b ≠ 600 → kd b ≠ 601 → f9 b = f b)) (qP (dC, dI) cI cL cZ cR cG cH L) (fun q => q ∈ L)) [.ref o0, .int p1, .int p2, .int p3].toArray s 0 0 (fun q => q ∈ L)) (F0 m 3 ls []) := by
    intro n
    induction n with
    | zero => intro y_83 by_83 f_85 hG H locs hP hS hD hfr0 hfo_86 hfo_87 hmuhloop_82 ls hl; exfalso; omega
    | succ n ih_hloop_82 =>
      intro y_83 by_83 f_85 hG H locs hP hS hD hfr0 hfo_86 hfo_87 hmuhloop_82 ls hl
      refine lv_iload hx hb dX12_fewestPairs_3 (lv_at hl 0 rfl) ?_
      refine lv_sipush (v := 4096) hx hb dX12_fewestPairs_5 (by decide) ?_
      refine lv_icmp_ge (tgt := 25) hx hb dX12_fewestPairs_8 (by decide) (fun c_88 => ?_) (fun c_88 => ?_)
      · skip
        rw [Int32.le_iff_toInt_le, ti_4096] at c_88
        refine lv_bipush (v := 64) hx hb dX12_fewestPairs_25 (by decide) ?_
        refine lv_aload_n hx hb dX12_fewestPairs_27 rfl (lv_at hl 1 rfl) ?_
        refine lv_iload_n hx hb dX12_fewestPairs_28 rfl (lv_at hl 2 rfl) ?_
        refine lv_iload_n hx hb dX12_fewestPairs_29 rfl (lv_at hl 4 rfl) ?_
        refine lv_iconst (v := 1) hx hb dX12_fewestPairs_30 (by decide) ?_
        refine tk_ViP (As := [.int p1, .int p3, .int 1]) (rest := [.int 64]) (n := 3) hx hb hml hown hU hN hZ (s_X12_closed_k12 l (dC, dI) cI cL cZ cR cG cH Z kd L f_85 hG o0 mo0 ko0 p1 (by constructor <;> omega) p3 (by constructor <;> omega) 1 (by decide)) wd_878 wd_879 wd_880 wd_5 wd_881 (by decide +kernel) ⟨Nat.le_of_ble_eq_true rfl, Nat.le_of_ble_eq_true rfl⟩ hK hP hD hS mo0 hfo_86 12 rfl rfl rfl hl.1 rfl (Nat.le_of_ble_eq_true rfl) dX12_fewestPairs_31 ⟨Nat.le_of_ble_eq_true rfl, Nat.le_of_ble_eq_true rfl⟩ (fun x_89 f_90 H locs hw hP hD hS => ?_)
        obtain ⟨rfl, bx_89⟩ := hw
        refine lv_imul hx hb dX12_fewestPairs_34 ?_
        refine lv_topi (fun x_92 ex_92 => ?_)
        have hx_92 : x_92.toInt = 64 * x_89.toInt := by rw [ex_92, ml_I (by rw [ti_64]; omega) (by rw [ti_64]; omega), ti_64]
        have bx_92 : (0 ≤ x_92.toInt ∧ x_92.toInt ≤ 4032) := by constructor <;> omega
        refine lv_aload_n hx hb dX12_fewestPairs_35 rfl (lv_at hl 1 rfl) ?_
        refine lv_iload_n hx hb dX12_fewestPairs_36 rfl (lv_at hl 3 rfl) ?_
        refine lv_iload_n hx hb dX12_fewestPairs_37 rfl (lv_at hl 4 rfl) ?_
        refine lv_iconst (v := 1) hx hb dX12_fewestPairs_38 (by decide) ?_
        refine tk_ViP (As := [.int p2, .int p3, .int 1]) (rest := [.int x_92]) (n := 3) hx hb hml hown hU hN hZ (s_X12_closed_k12 l (dC, dI) cI cL cZ cR cG cH Z kd L f_85 hG o0 mo0 ko0 p2 (by constructor <;> omega) p3 (by constructor <;> omega) 1 (by decide)) wd_878 wd_879 wd_880 wd_5 wd_881 (by decide +kernel) ⟨Nat.le_of_ble_eq_true rfl, Nat.le_of_ble_eq_true rfl⟩ hK hP hD hS mo0 hfo_86 12 rfl rfl rfl hl.1 rfl (Nat.le_of_ble_eq_true rfl) dX12_fewestPairs_39 ⟨Nat.le_of_ble_eq_true rfl, Nat.le_of_ble_eq_true rfl⟩ (fun x_93 f_94 H locs hw hP hD hS => ?_)
        obtain ⟨rfl, bx_93⟩ := hw
        refine lv_iadd hx hb dX12_fewestPairs_42 ?_
        refine lv_topi (fun x_96 ex_96 => ?_)
        have hx_96 : x_96.toInt = x_92.toInt + x_93.toInt := by rw [ex_96, ad_I (by omega) (by omega)]
        have bx_96 : (0 ≤ x_96.toInt ∧ x_96.toInt ≤ 4095) := by constructor <;> omega
        refine lv_istore (lv' := [(4, .int x_96), (0, .ref o0), (1, .int p1), (2, .int p2), (3, .int p3)]) hx hb dX12_fewestPairs_43 hl (by decide) rfl (fun ls hl => ?_)
        refine lv_aload_n hx hb dX12_fewestPairs_45 rfl (lv_at hl 1 rfl) ?_
        refine tk_getP (D := (dC, dI)) (ci := 12) (v := .ref a_46) (C := RX12) (T := TX12) (N := 56) hx hb hU inlX12 hown hK hP mo0 hfo_86 rfl 45 (by decide) (hU _ wd_194) (fun _ h9 => h9) rfl dX12_fewestPairs_46 ?_
        refine lv_iload hx hb dX12_fewestPairs_49 (lv_at hl 0 rfl) ?_
        refine lv_iconst (v := 0) hx hb dX12_fewestPairs_51 (by decide) ?_
        obtain ⟨g_98, hfo_97, hbg_98⟩ := un_601 (hG _ ma_46) ka_46
        refine tk_istP hx hb hK hP hD hS 0 ma_46 hfo_97 rfl (vp_in_iff.mpr (by constructor <;> omega)) dX12_fewestPairs_52 (fun H locs hP hD hS => ?_)
        obtain ⟨g_99, eqg_99⟩ : ∃ y : Nat → Int32, y = upd g_98 (Int32.toNatClampNeg x_96) 0 := ⟨_, rfl⟩
        rw [← eqg_99] at hP hD
        have hbg_99 : ∀ j, (-1) ≤ (g_99 j).toInt ∧ (g_99 j).toInt ≤ 4 := by rw [eqg_99]; exact okI_up hbg_98 (by decide) _
        obtain ⟨f_101, ef_101⟩ : ∃ y : Nat → va_E, y = va_up f_85 a_46 (.inl (cI, 4096, .inl g_99)) := ⟨_, rfl⟩
        have hP : va_P (dC, dI) vwCl (va_pl L f_101) H := by rw [ef_101]; exact hP
        have hD : va_D (fun q => q ∈ L) (va_pl L f_101) := by rw [ef_101]; exact hD
        have hG : GI (okc cI cL cZ cR cG cH L kd) kd L f_101 := by rw [ef_101]; exact hG.set a_46 (mk_601 ka_46 ⟨_, rfl, hbg_99⟩)
        have hfo_102 : f_101 o0 = .inr (12, [.ref a_1, .ref a_2, .ref a_3, .int v_4, .ref a_5, .int v_6, .int v_7, .int v_8, .int v_9, .int v_10, .int v_11, .int v_12, .int v_13, .int v_14, .int v_15, .ref a_16, .ref a_17, .ref a_18, .ref a_19, .ref a_20, .ref a_21, .ref a_22, .ref a_23, .int v_24, .int v_25, .int v_26, .int v_27, .int v_28, .ref a_29, .int v_30, .ref a_31, .ref a_32, .int v_33, .int v_34, .ref a_35, .int v_36, .ref a_37, .ref a_38, .int v_39, .int v_40, .ref a_41, .ref a_42, .ref a_43, .int v_44, .ref a_45, .ref a_46, .ref a_47, .ref a_48, .ref a_49, .ref a_50, .ref a_51, .ref a_52, .ref a_53, .int v_54, .int v_55, .ref a_56]) := by rw [ef_101, up_ne (kd_ne ka_46 ko0 (by decide))]; exact hfo_86
        have hfo_103 : f_101 a_45 = .inl (cI, 4096, .inl g_62) := by rw [ef_101, up_ne (kd_ne ka_46 ka_45 (by decide))]; exact hfo_87
        have hfr0 : ∀ b, kd b ≠ 600 → kd b ≠ 601 → f_101 b = f b := fun b q600 q601 => (congrFun ef_101 b).trans ((up_ne (fun e9 => q601 (by rw [e9]; exact ka_46))).trans (hfr0 b q600 q601))
        have hfo_104 : f_101 a_46 = .inl (cI, 4096, .inl g_99) := by rw [ef_101]; exact up_self
        refine lv_aload_n hx hb dX12_fewestPairs_53 rfl (lv_at hl 1 rfl) ?_
        refine tk_getP (D := (dC, dI)) (ci := 12) (v := .ref a_45) (C := RX12) (T := TX12) (N := 56) hx hb hU inlX12 hown hK hP mo0 hfo_102 rfl 44 (by decide) (hU _ wd_193) (fun _ h9 => h9) rfl dX12_fewestPairs_54 ?_
        refine lv_iconst (v := 0) hx hb dX12_fewestPairs_57 (by decide) ?_
        refine lv_iload hx hb dX12_fewestPairs_58 (lv_at hl 0 rfl) ?_
        refine tk_istP hx hb hK hP hD hS 0 ma_45 hfo_103 rfl (vp_in_nI (n := 0) (by decide) (by decide)) dX12_fewestPairs_60 (fun H locs hP hD hS => ?_)
        obtain ⟨g_105, eqg_105⟩ : ∃ y : Nat → Int32, y = upd g_62 (Int32.toNatClampNeg 0) x_96 := ⟨_, rfl⟩
        rw [← eqg_105] at hP hD
        have hbg_105 : ∀ j, 0 ≤ (g_105 j).toInt ∧ (g_105 j).toInt ≤ 4095 := by rw [eqg_105]; exact okI_up hbg_62 (by constructor <;> omega) _
        obtain ⟨f_107, ef_107⟩ : ∃ y : Nat → va_E, y = va_up f_101 a_45 (.inl (cI, 4096, .inl g_105)) := ⟨_, rfl⟩
        have hP : va_P (dC, dI) vwCl (va_pl L f_107) H := by rw [ef_107]; exact hP
        have hD : va_D (fun q => q ∈ L) (va_pl L f_107) := by rw [ef_107]; exact hD
        have hG : GI (okc cI cL cZ cR cG cH L kd) kd L f_107 := by rw [ef_107]; exact hG.set a_45 (mk_600 ka_45 ⟨_, rfl, hbg_105⟩)
        have hfo_108 : f_107 o0 = .inr (12, [.ref a_1, .ref a_2, .ref a_3, .int v_4, .ref a_5, .int v_6, .int v_7, .int v_8, .int v_9, .int v_10, .int v_11, .int v_12, .int v_13, .int v_14, .int v_15, .ref a_16, .ref a_17, .ref a_18, .ref a_19, .ref a_20, .ref a_21, .ref a_22, .ref a_23, .int v_24, .int v_25, .int v_26, .int v_27, .int v_28, .ref a_29, .int v_30, .ref a_31, .ref a_32, .int v_33, .int v_34, .ref a_35, .int v_36, .ref a_37, .ref a_38, .int v_39, .int v_40, .ref a_41, .ref a_42, .ref a_43, .int v_44, .ref a_45, .ref a_46, .ref a_47, .ref a_48, .ref a_49, .ref a_50, .ref a_51, .ref a_52, .ref a_53, .int v_54, .int v_55, .ref a_56]) := by rw [ef_107, up_ne (kd_ne ka_45 ko0 (by decide))]; exact hfo_102
        have hfo_109 : f_107 a_46 = .inl (cI, 4096, .inl g_99) := by rw [ef_107, up_ne (kd_ne ka_45 ka_46 (by decide))]; exact hfo_104
        have hfr0 : ∀ b, kd b ≠ 600 → kd b ≠ 601 → f_107 b = f b := fun b q600 q601 => (congrFun ef_107 b).trans ((up_ne (fun e9 => q600 (by rw [e9]; exact ka_45))).trans (hfr0 b q600 q601))
        have hfo_110 : f_107 a_45 = .inl (cI, 4096, .inl g_105) := by rw [ef_107]; exact up_self
        refine lv_iconst (v := 1) hx hb dX12_fewestPairs_61 (by decide) ?_
        refine lv_istore (lv' := [(5, .int 1), (4, .int x_96), (0, .ref o0), (1, .int p1), (2, .int p2), (3, .int p3)]) hx hb dX12_fewestPairs_62 hl (by decide) rfl (fun ls hl => ?_)
        refine lv_iconst (v := 0) hx hb dX12_fewestPairs_64 (by decide) ?_
        refine lv_istore (lv' := [(6, .int 0), (5, .int 1), (4, .int x_96), (0, .ref o0), (1, .int p1), (2, .int p2), (3, .int p3)]) hx hb dX12_fewestPairs_65 hl (by decide) rfl (fun ls hl => ?_)
        have hloop_117 : ∀ (n : Nat), ∀ (y_118 : Int32), (0 ≤ y_118.toInt ∧ y_118.toInt ≤ 4096) → ∀ (y_119 : Int32), (1 ≤ y_119.toInt ∧ y_119.toInt ≤ 4096) → ∀ (f_121 : Nat → va_E), GI (okc cI cL cZ cR cG cH L kd) kd L f_121 → ∀ (H : Heap) (locs : List Loc), va_P (dC, dI) vwCl (va_pl L f_121) H → va_S (fun q => q ∈ L) s.heap H locs → va_D (fun q => q ∈ L) (va_pl L f_121) → (∀ b, kd b ≠ 600 → kd b ≠ 601 → f_121 b = f b) → (f_121 o0 = .inr (12, [.ref a_1, .ref a_2, .ref a_3, .int v_4, .ref a_5, .int v_6, .int v_7, .int v_8, .int v_9, .int v_10, .int v_11, .int v_12, .int v_13, .int v_14, .int v_15, .ref a_16, .ref a_17, .ref a_18, .ref a_19, .ref a_20, .ref a_21, .ref a_22, .ref a_23, .int v_24, .int v_25, .int v_26, .int v_27, .int v_28, .ref a_29, .int v_30, .ref a_31, .ref a_32, .int v_33, .int v_34, .ref a_35, .int v_36, .ref a_37, .ref a_38, .int v_39, .int v_40, .ref a_41, .ref a_42, .ref a_43, .int v_44, .ref a_45, .ref a_46, .ref a_47, .ref a_48, .ref a_49, .ref a_50, .ref a_51, .ref a_52, .ref a_53, .int v_54, .int v_55, .ref a_56])) → (y_118.toInt ≤ y_119.toInt) → (∀ gl gs, f_121 a_46 = .inl (cI, 4096, .inl gl) → f_121 a_45 = .inl (cI, 4096, .inl gs) → (∀ j : Nat, j < (y_119.toInt).toNat → 0 ≤ (gl (Int32.toNatClampNeg (gs j))).toInt) ∧ (y_119.toInt).toNat + ctE gl (-1) 4096 ≤ 4096) → 4096 - y_118.toInt < (n : Int) → ∀ (ls : Array Slot), lv_has ls 10 [(6, .int y_118), (5, .int y_119), (4, .int x_96), (0, .ref o0), (1, .int p1), (2, .int p2), (3, .int p3)] → W p l e (headSpec (wU yX12_fewestPairs cX12_fewestPairs 10 (some .int)) { frames := 4, cells := 0, slots := 0, locals := 100 }).room s m [.ref o0, .int p1, .int p2, .int p3].toArray below meth c H locs 0 0 (MQ below (va_Qi (fun (r : Int32) (f9 : Nat → va_E) => GI (okc cI cL cZ cR cG cH L kd) kd L f9 ∧ ((-1) ≤ r.toInt ∧ r.toInt ≤ 4) ∧ (∀ b, kd b ≠ 600 → kd b ≠ 601 → f9 b = f b)) (qP (dC, dI) cI cL cZ cR cG cH L) (fun q => q ∈ L)) [.ref o0, .int p1, .int p2, .int p3].toArray s 0 0 (fun q => q ∈ L)) (F0 m 67 ls []) := by
          intro n
          induction n with
          | zero => intro y_118 by_118 y_119 by_119 f_121 hG H locs hP hS hD hfr0 hfo_122 hrelhloop_117_0 hxi hmuhloop_117 ls hl; exfalso; omega
          | succ n ih_hloop_117 =>
            intro y_118 by_118 y_119 by_119 f_121 hG H locs hP hS hD hfr0 hfo_122 hrelhloop_117_0 hxi hmuhloop_117 ls hl
            refine lv_iload hx hb dX12_fewestPairs_67 (lv_at hl 0 rfl) ?_
            refine lv_iload hx hb dX12_fewestPairs_69 (lv_at hl 1 rfl) ?_
            refine lv_icmp_ge (tgt := 250) hx hb dX12_fewestPairs_71 (by decide) (fun c_123 => ?_) (fun c_123 => ?_)
            · skip
              rw [Int32.le_iff_toInt_le] at c_123
              refine lv_iconst (v := (-1)) hx hb dX12_fewestPairs_250 (by decide) ?_
              exact W.iret (v := (-1)) hx hb hr (fun t ht hW => ⟨⟨(-1), f_121, rfl, ⟨hG, (by decide), hfr0⟩, by rw [ht]; exact hP, va_K.moved hW.alike hK, pl_in hD⟩, hS.F ht⟩) hS.2.2 dX12_fewestPairs_251
            · skip
              rw [Int32.le_iff_toInt_le] at c_123
              refine lv_aload_n hx hb dX12_fewestPairs_74 rfl (lv_at hl 3 rfl) ?_
              refine tk_getP (D := (dC, dI)) (ci := 12) (v := .ref a_45) (C := RX12) (T := TX12) (N := 56) hx hb hU inlX12 hown hK hP mo0 hfo_122 rfl 44 (by decide) (hU _ wd_193) (fun _ h9 => h9) rfl dX12_fewestPairs_75 ?_
              refine lv_iload hx hb dX12_fewestPairs_78 (lv_at hl 0 rfl) ?_
              obtain ⟨g_125, hfo_124, hbg_125⟩ := un_600 (hG _ ma_45) ka_45
              refine tk_ildP hx hb hK hP 0 ma_45 hfo_124 rfl (vp_in_iff.mpr (by constructor <;> omega)) dX12_fewestPairs_80 ?_
              refine lv_topi (fun x_126 ex_126 => ?_)
              have bx_126 : (0 ≤ x_126.toInt ∧ x_126.toInt ≤ 4095) := by rw [ex_126]; exact hbg_125 _
              refine lv_istore (lv' := [(7, .int x_126), (6, .int y_118), (5, .int y_119), (4, .int x_96), (0, .ref o0), (1, .int p1), (2, .int p2), (3, .int p3)]) hx hb dX12_fewestPairs_81 hl (by decide) rfl (fun ls hl => ?_)
              obtain ⟨g_128, hfo_127, hbg_128⟩ := un_601 (hG _ ma_46) ka_46
              have hfo := hxi g_128 g_125 hfo_127 hfo_124
              have hs0 : 0 ≤ (g_128 (Int32.toNatClampNeg x_126)).toInt := by have hc9 := cl_I (i := y_118) (by omega); have h7 := hfo.1 (Int32.toNatClampNeg y_118) (by omega); rw [← ex_126] at h7; exact h7
              refine lv_aload_n hx hb dX12_fewestPairs_83 rfl (lv_at hl 4 rfl) ?_
              refine lv_iload_n hx hb dX12_fewestPairs_84 rfl (lv_at hl 5 rfl) ?_
              refine lv_iload_n hx hb dX12_fewestPairs_85 rfl (lv_at hl 7 rfl) ?_
              refine lv_iload hx hb dX12_fewestPairs_86 (lv_at hl 0 rfl) ?_
              refine lv_bipush (v := 64) hx hb dX12_fewestPairs_88 (by decide) ?_
              refine lv_idiv hx hb dX12_fewestPairs_90 (by decide) ?_
              refine lv_topi (fun x_129 ex_129 => ?_)
              have hx_129 : x_129.toInt = x_126.toInt / 64 := by rw [ex_129, dv_I (by omega) (by rw [ti_64]; omega), ti_64]
              have bx_129 : (0 ≤ x_129.toInt ∧ x_129.toInt ≤ 63) := by constructor <;> omega
              refine tk_ViP (As := [.int p1, .int p3, .int x_129]) (rest := []) (n := 3) hx hb hml hown hU hN hZ (s_X12_isDone_k12 l (dC, dI) cI cL cZ cR cG cH Z kd L f_121 hG o0 mo0 ko0 p1 (by constructor <;> omega) p3 (by constructor <;> omega) x_129) wd_898 wd_899 wd_900 wd_5 wd_901 (by decide +kernel) ⟨Nat.le_of_ble_eq_true rfl, Nat.le_of_ble_eq_true rfl⟩ hK hP hD hS mo0 hfo_122 12 rfl rfl rfl hl.1 rfl (Nat.le_of_ble_eq_true rfl) dX12_fewestPairs_91 ⟨Nat.le_of_ble_eq_true rfl, Nat.le_of_ble_eq_true rfl⟩ (fun x_130 f_131 H locs hw hP hD hS => ?_)
              obtain ⟨rfl, bx_130⟩ := hw
              refine lv_if_eq (tgt := 119) hx hb dX12_fewestPairs_94 (by decide) (fun c_133 => ?_) (fun c_133 => ?_)
              · skip
                rw [← Int32.toInt_inj, ti_0] at c_133
                refine lv_aload_n hx hb dX12_fewestPairs_119 rfl (lv_at hl 4 rfl) ?_
                refine tk_getP (D := (dC, dI)) (ci := 12) (v := .ref a_46) (C := RX12) (T := TX12) (N := 56) hx hb hU inlX12 hown hK hP mo0 hfo_122 rfl 45 (by decide) (hU _ wd_194) (fun _ h9 => h9) rfl dX12_fewestPairs_120 ?_
                refine lv_iload hx hb dX12_fewestPairs_123 (lv_at hl 0 rfl) ?_
                refine tk_ildP hx hb hK hP 0 ma_46 hfo_127 rfl (vp_in_iff.mpr (by constructor <;> omega)) dX12_fewestPairs_125 ?_
                refine lv_topi (fun x_134 ex_134 => ?_)
                have bx_134 : ((-1) ≤ x_134.toInt ∧ x_134.toInt ≤ 4) := by rw [ex_134]; exact hbg_128 _
                refine lv_iconst (v := 4) hx hb dX12_fewestPairs_126 (by decide) ?_
                have hcut_139 : ∀ (y_135 : Int32), (1 ≤ y_135.toInt ∧ y_135.toInt ≤ 4096) → ∀ (f_137 : Nat → va_E), GI (okc cI cL cZ cR cG cH L kd) kd L f_137 → ∀ (H : Heap) (locs : List Loc), va_P (dC, dI) vwCl (va_pl L f_137) H → va_S (fun q => q ∈ L) s.heap H locs → va_D (fun q => q ∈ L) (va_pl L f_137) → (∀ b, kd b ≠ 600 → kd b ≠ 601 → f_137 b = f b) → (f_137 o0 = .inr (12, [.ref a_1, .ref a_2, .ref a_3, .int v_4, .ref a_5, .int v_6, .int v_7, .int v_8, .int v_9, .int v_10, .int v_11, .int v_12, .int v_13, .int v_14, .int v_15, .ref a_16, .ref a_17, .ref a_18, .ref a_19, .ref a_20, .ref a_21, .ref a_22, .ref a_23, .int v_24, .int v_25, .int v_26, .int v_27, .int v_28, .ref a_29, .int v_30, .ref a_31, .ref a_32, .int v_33, .int v_34, .ref a_35, .int v_36, .ref a_37, .ref a_38, .int v_39, .int v_40, .ref a_41, .ref a_42, .ref a_43, .int v_44, .ref a_45, .ref a_46, .ref a_47, .ref a_48, .ref a_49, .ref a_50, .ref a_51, .ref a_52, .ref a_53, .int v_54, .int v_55, .ref a_56])) → ∀ (ls : Array Slot), lv_has ls 10 [(7, .int x_126), (6, .int y_118), (5, .int y_135), (4, .int x_96), (0, .ref o0), (1, .int p1), (2, .int p2), (3, .int p3)] → W p l e (headSpec (wU yX12_fewestPairs cX12_fewestPairs 10 (some .int)) { frames := 4, cells := 0, slots := 0, locals := 100 }).room s m [.ref o0, .int p1, .int p2, .int p3].toArray below meth c H locs 0 0 (MQ below (va_Qi (fun (r : Int32) (f9 : Nat → va_E) => GI (okc cI cL cZ cR cG cH L kd) kd L f9 ∧ ((-1) ≤ r.toInt ∧ r.toInt ≤ 4) ∧ (∀ b, kd b ≠ 600 → kd b ≠ 601 → f9 b = f b)) (qP (dC, dI) cI cL cZ cR cG cH L) (fun q => q ∈ L)) [.ref o0, .int p1, .int p2, .int p3].toArray s 0 0 (fun q => q ∈ L)) (F0 m 244 ls []) := by
                  intro y_135 by_135 f_137 hG H locs hP hS hD hfr0 hfo_138 ls hl
                  obtain ⟨x_140, ex_140⟩ : ∃ y : Int32, y_118 + 1 = y := ⟨_, rfl⟩
                  have hx_140 : x_140.toInt = y_118.toInt + 1 := by rw [← ex_140, ad_I (by rw [ti_1]; omega) (by rw [ti_1]; omega), ti_1]
                  have bx_140 : (1 ≤ x_140.toInt ∧ x_140.toInt ≤ 4096) := by constructor <;> omega
                  refine lv_iinc (v := x_140) (lv' := [(6, .int x_140), (7, .int x_126), (5, .int y_135), (4, .int x_96), (0, .ref o0), (1, .int p1), (2, .int p2), (3, .int p3)]) hx hb dX12_fewestPairs_244 hl (k := 1) rfl ex_140 (by decide) rfl (fun ls hl => ?_)
                  refine lv_goto (tgt := 67) hx hb dX12_fewestPairs_247 (by decide) ?_
                  obtain ⟨g_142, hfo_141, hbg_142⟩ := un_601 (hG _ ma_46) ka_46
                  obtain ⟨g_144, hfo_143, hbg_144⟩ := un_600 (hG _ ma_45) ka_45
                  exact ih_hloop_117 x_140 (by constructor <;> omega) y_135 (by constructor <;> omega) f_137 hG _ _ hP hS hD hfr0 hfo_138 (by omega) (fun gl gs h1 h2 => by first | exact ⟨(hxj gl gs h1 h2).1, (hxj gl gs h1 h2).2.1⟩ | exact hxi gl gs h1 h2) (by omega) ls (lv_sub hl [0, 2, 3, 4, 5, 6, 7] rfl)
                refine lv_icmp_ne (tgt := 133) hx hb dX12_fewestPairs_127 (by decide) (fun c_145 => ?_) (fun c_145 => ?_)
                · skip
                  rw [← Int32.toInt_inj, ti_4] at c_145
                  refine lv_iconst (v := 0) hx hb dX12_fewestPairs_133 (by decide) ?_
                  refine lv_istore (lv' := [(8, .int 0), (7, .int x_126), (6, .int y_118), (5, .int y_119), (4, .int x_96), (0, .ref o0), (1, .int p1), (2, .int p2), (3, .int p3)]) hx hb dX12_fewestPairs_134 hl (by decide) rfl (fun ls hl => ?_)
                  have hloop_152 : ∀ (n : Nat), ∀ (y_153 : Int32), (0 ≤ y_153.toInt ∧ y_153.toInt ≤ 20) → ∀ (y_154 : Int32), (1 ≤ y_154.toInt ∧ y_154.toInt ≤ 4096) → ∀ (f_156 : Nat → va_E), GI (okc cI cL cZ cR cG cH L kd) kd L f_156 → ∀ (H : Heap) (locs : List Loc), va_P (dC, dI) vwCl (va_pl L f_156) H → va_S (fun q => q ∈ L) s.heap H locs → va_D (fun q => q ∈ L) (va_pl L f_156) → (∀ b, kd b ≠ 600 → kd b ≠ 601 → f_156 b = f b) → (f_156 o0 = .inr (12, [.ref a_1, .ref a_2, .ref a_3, .int v_4, .ref a_5, .int v_6, .int v_7, .int v_8, .int v_9, .int v_10, .int v_11, .int v_12, .int v_13, .int v_14, .int v_15, .ref a_16, .ref a_17, .ref a_18, .ref a_19, .ref a_20, .ref a_21, .ref a_22, .ref a_23, .int v_24, .int v_25, .int v_26, .int v_27, .int v_28, .ref a_29, .int v_30, .ref a_31, .ref a_32, .int v_33, .int v_34, .ref a_35, .int v_36, .ref a_37, .ref a_38, .int v_39, .int v_40, .ref a_41, .ref a_42, .ref a_43, .int v_44, .ref a_45, .ref a_46, .ref a_47, .ref a_48, .ref a_49, .ref a_50, .ref a_51, .ref a_52, .ref a_53, .int v_54, .int v_55, .ref a_56])) → (y_118.toInt + 1 ≤ y_154.toInt) → (∀ gl gs, f_156 a_46 = .inl (cI, 4096, .inl gl) → f_156 a_45 = .inl (cI, 4096, .inl gs) → (∀ j : Nat, j < (y_154.toInt).toNat → 0 ≤ (gl (Int32.toNatClampNeg (gs j))).toInt) ∧ (y_154.toInt).toNat + ctE gl (-1) 4096 ≤ 4096 ∧ 0 ≤ (gl (Int32.toNatClampNeg x_126)).toInt ∧ (gl (Int32.toNatClampNeg x_126)).toInt ≤ 3) → 20 - y_153.toInt < (n : Int) → ∀ (ls : Array Slot), lv_has ls 10 [(8, .int y_153), (7, .int x_126), (6, .int y_118), (5, .int y_154), (4, .int x_96), (0, .ref o0), (1, .int p1), (2, .int p2), (3, .int p3)] → W p l e (headSpec (wU yX12_fewestPairs cX12_fewestPairs 10 (some .int)) { frames := 4, cells := 0, slots := 0, locals := 100 }).room s m [.ref o0, .int p1, .int p2, .int p3].toArray below meth c H locs 0 0 (MQ below (va_Qi (fun (r : Int32) (f9 : Nat → va_E) => GI (okc cI cL cZ cR cG cH L kd) kd L f9 ∧ ((-1) ≤ r.toInt ∧ r.toInt ≤ 4) ∧ (∀ b, kd b ≠ 600 → kd b ≠ 601 → f9 b = f b)) (qP (dC, dI) cI cL cZ cR cG cH L) (fun q => q ∈ L)) [.ref o0, .int p1, .int p2, .int p3].toArray s 0 0 (fun q => q ∈ L)) (F0 m 136 ls []) := by
                    intro n
                    induction n with
                    | zero => intro y_153 by_153 y_154 by_154 f_156 hG H locs hP hS hD hfr0 hfo_157 hrelhloop_152_0 hxj hmuhloop_152 ls hl; exfalso; omega
                    | succ n ih_hloop_152 =>
                      intro y_153 by_153 y_154 by_154 f_156 hG H locs hP hS hD hfr0 hfo_157 hrelhloop_152_0 hxj hmuhloop_152 ls hl
                      refine lv_iload hx hb dX12_fewestPairs_136 (lv_at hl 0 rfl) ?_
                      refine lv_aload_n hx hb dX12_fewestPairs_138 rfl (lv_at hl 5 rfl) ?_
                      refine tk_getP (D := (dC, dI)) (ci := 12) (v := .ref a_1) (C := RX12) (T := TX12) (N := 56) hx hb hU inlX12 hown hK hP mo0 hfo_157 rfl 0 (by decide) (hU _ wd_169) (fun _ h9 => h9) rfl dX12_fewestPairs_139 ?_
                      refine lv_bipush (v := 16) hx hb dX12_fewestPairs_142 (by decide) ?_
                      obtain ⟨g_159, hfo_158, hbg_159⟩ := un_575 (hG _ ma_1) ka_1
                      refine tk_ildP hx hb hK hP 0 ma_1 hfo_158 rfl (vp_in_nI (n := 16) (by decide) (by decide)) dX12_fewestPairs_144 ?_
                      refine lv_topi (fun x_160 ex_160 => ?_)
                      have bx_160 : (0 ≤ x_160.toInt ∧ x_160.toInt ≤ 20) := by rw [ex_160]; exact hbg_159.2.1 _ (by decide) (by decide) (by decide)
                      refine lv_icmp_ge (tgt := 244) hx hb dX12_fewestPairs_145 (by decide) (fun c_161 => ?_) (fun c_161 => ?_)
                      · skip
                        rw [Int32.le_iff_toInt_le] at c_161
                        exact hcut_139 y_154 (by constructor <;> omega) f_156 hG _ _ hP hS hD hfr0 hfo_157 ls (lv_sub hl [1, 2, 3, 4, 5, 6, 7, 8] rfl)
                      · skip
                        rw [Int32.le_iff_toInt_le] at c_161
                        refine lv_bipush (v := 64) hx hb dX12_fewestPairs_148 (by decide) ?_
                        refine lv_aload_n hx hb dX12_fewestPairs_150 rfl (lv_at hl 5 rfl) ?_
                        refine lv_iload_n hx hb dX12_fewestPairs_151 rfl (lv_at hl 6 rfl) ?_
                        refine lv_iload_n hx hb dX12_fewestPairs_152 rfl (lv_at hl 8 rfl) ?_
                        refine lv_iload hx hb dX12_fewestPairs_153 (lv_at hl 1 rfl) ?_
                        refine lv_bipush (v := 64) hx hb dX12_fewestPairs_155 (by decide) ?_
                        refine lv_idiv hx hb dX12_fewestPairs_157 (by decide) ?_
                        refine lv_topi (fun x_162 ex_162 => ?_)
                        have hx_162 : x_162.toInt = x_126.toInt / 64 := by rw [ex_162, dv_I (by omega) (by rw [ti_64]; omega), ti_64]
                        have bx_162 : (0 ≤ x_162.toInt ∧ x_162.toInt ≤ 63) := by constructor <;> omega
                        refine lv_aload_n hx hb dX12_fewestPairs_158 rfl (lv_at hl 5 rfl) ?_
                        refine tk_getP (D := (dC, dI)) (ci := 12) (v := .ref a_1) (C := RX12) (T := TX12) (N := 56) hx hb hU inlX12 hown hK hP mo0 hfo_157 rfl 0 (by decide) (hU _ wd_169) (fun _ h9 => h9) rfl dX12_fewestPairs_159 ?_
                        refine lv_bipush (v := 20) hx hb dX12_fewestPairs_162 (by decide) ?_
                        refine lv_iload hx hb dX12_fewestPairs_164 (lv_at hl 0 rfl) ?_
                        refine lv_iadd hx hb dX12_fewestPairs_166 ?_
                        refine lv_topi (fun x_163 ex_163 => ?_)
                        have hx_163 : x_163.toInt = 20 + y_153.toInt := by rw [ex_163, ad_I (by rw [ti_20]; omega) (by rw [ti_20]; omega), ti_20]
                        have bx_163 : (20 ≤ x_163.toInt ∧ x_163.toInt ≤ 39) := by constructor <;> omega
                        refine tk_ildP hx hb hK hP 0 ma_1 hfo_158 rfl (vp_in_iff.mpr (by constructor <;> omega)) dX12_fewestPairs_167 ?_
                        refine lv_topi (fun x_164 ex_164 => ?_)
                        have bx_164 : (0 ≤ x_164.toInt ∧ x_164.toInt ≤ 80) := by have hc9 := cl_I (i := x_163) (by omega); rw [ex_164]; exact hbg_159.2.2.2.2.2.1 _ (by omega) (by omega) (by omega)
                        refine tk_ViP (As := [.int p1, .int p3, .int x_162, .int x_164]) (rest := [.int 64]) (n := 4) hx hb hml hown hU hN hZ (s_X12_sideGoes_k12 l (dC, dI) cI cL cZ cR cG cH Z kd L f_156 hG o0 mo0 ko0 p1 (by constructor <;> omega) p3 (by constructor <;> omega) x_162 x_164) wd_1305 wd_1306 wd_1307 wd_5 wd_1308 (by decide +kernel) ⟨Nat.le_of_ble_eq_true rfl, Nat.le_of_ble_eq_true rfl⟩ hK hP hD hS mo0 hfo_157 12 rfl rfl rfl hl.1 rfl (Nat.le_of_ble_eq_true rfl) dX12_fewestPairs_168 ⟨Nat.le_of_ble_eq_true rfl, Nat.le_of_ble_eq_true rfl⟩ (fun x_165 f_166 H locs hw hP hD hS => ?_)
                        obtain ⟨rfl, bx_165⟩ := hw
                        refine lv_imul hx hb dX12_fewestPairs_171 ?_
                        refine lv_topi (fun x_168 ex_168 => ?_)
                        have hx_168 : x_168.toInt = 64 * x_165.toInt := by rw [ex_168, ml_I (by rw [ti_64]; omega) (by rw [ti_64]; omega), ti_64]
                        have bx_168 : (0 ≤ x_168.toInt ∧ x_168.toInt ≤ 4032) := by constructor <;> omega
                        refine lv_aload_n hx hb dX12_fewestPairs_172 rfl (lv_at hl 5 rfl) ?_
                        refine lv_iload_n hx hb dX12_fewestPairs_173 rfl (lv_at hl 7 rfl) ?_
                        refine lv_iload_n hx hb dX12_fewestPairs_174 rfl (lv_at hl 8 rfl) ?_
                        refine lv_iload hx hb dX12_fewestPairs_175 (lv_at hl 1 rfl) ?_
                        refine lv_bipush (v := 64) hx hb dX12_fewestPairs_177 (by decide) ?_
                        refine lv_irem hx hb dX12_fewestPairs_179 (by decide) ?_
                        refine lv_topi (fun x_169 ex_169 => ?_)
                        have hx_169 : x_169.toInt = x_126.toInt % 64 := by rw [ex_169, rm_I (by omega) (by rw [ti_64]; omega), ti_64]
                        have bx_169 : (0 ≤ x_169.toInt ∧ x_169.toInt ≤ 63) := by constructor <;> omega
                        refine lv_aload_n hx hb dX12_fewestPairs_180 rfl (lv_at hl 5 rfl) ?_
                        refine tk_getP (D := (dC, dI)) (ci := 12) (v := .ref a_1) (C := RX12) (T := TX12) (N := 56) hx hb hU inlX12 hown hK hP mo0 hfo_157 rfl 0 (by decide) (hU _ wd_169) (fun _ h9 => h9) rfl dX12_fewestPairs_181 ?_
                        refine lv_bipush (v := 20) hx hb dX12_fewestPairs_184 (by decide) ?_
                        refine lv_iload hx hb dX12_fewestPairs_186 (lv_at hl 0 rfl) ?_
                        refine lv_iadd hx hb dX12_fewestPairs_188 ?_
                        refine lv_topi (fun x_170 ex_170 => ?_)
                        have hx_170 : x_170.toInt = 20 + y_153.toInt := by rw [ex_170, ad_I (by rw [ti_20]; omega) (by rw [ti_20]; omega), ti_20]
                        have bx_170 : (20 ≤ x_170.toInt ∧ x_170.toInt ≤ 39) := by constructor <;> omega
                        refine tk_ildP hx hb hK hP 0 ma_1 hfo_158 rfl (vp_in_iff.mpr (by constructor <;> omega)) dX12_fewestPairs_189 ?_
                        refine lv_topi (fun x_171 ex_171 => ?_)
                        have bx_171 : (0 ≤ x_171.toInt ∧ x_171.toInt ≤ 80) := by have hc9 := cl_I (i := x_170) (by omega); rw [ex_171]; exact hbg_159.2.2.2.2.2.1 _ (by omega) (by omega) (by omega)
                        refine tk_ViP (As := [.int p2, .int p3, .int x_169, .int x_171]) (rest := [.int x_168]) (n := 4) hx hb hml hown hU hN hZ (s_X12_sideGoes_k12 l (dC, dI) cI cL cZ cR cG cH Z kd L f_156 hG o0 mo0 ko0 p2 (by constructor <;> omega) p3 (by constructor <;> omega) x_169 x_171) wd_1305 wd_1306 wd_1307 wd_5 wd_1308 (by decide +kernel) ⟨Nat.le_of_ble_eq_true rfl, Nat.le_of_ble_eq_true rfl⟩ hK hP hD hS mo0 hfo_157 12 rfl rfl rfl hl.1 rfl (Nat.le_of_ble_eq_true rfl) dX12_fewestPairs_190 ⟨Nat.le_of_ble_eq_true rfl, Nat.le_of_ble_eq_true rfl⟩ (fun x_172 f_173 H locs hw hP hD hS => ?_)
                        obtain ⟨rfl, bx_172⟩ := hw
                        refine lv_iadd hx hb dX12_fewestPairs_193 ?_
                        refine lv_topi (fun x_175 ex_175 => ?_)
                        have hx_175 : x_175.toInt = x_168.toInt + x_172.toInt := by rw [ex_175, ad_I (by omega) (by omega)]
                        have bx_175 : (0 ≤ x_175.toInt ∧ x_175.toInt ≤ 4095) := by constructor <;> omega
                        refine lv_istore (lv' := [(9, .int x_175), (8, .int y_153), (7, .int x_126), (6, .int y_118), (5, .int y_154), (4, .int x_96), (0, .ref o0), (1, .int p1), (2, .int p2), (3, .int p3)]) hx hb dX12_fewestPairs_194 hl (by decide) rfl (fun ls hl => ?_)
                        refine lv_aload_n hx hb dX12_fewestPairs_196 rfl (lv_at hl 6 rfl) ?_
                        refine tk_getP (D := (dC, dI)) (ci := 12) (v := .ref a_46) (C := RX12) (T := TX12) (N := 56) hx hb hU inlX12 hown hK hP mo0 hfo_157 rfl 45 (by decide) (hU _ wd_194) (fun _ h9 => h9) rfl dX12_fewestPairs_197 ?_
                        refine lv_iload hx hb dX12_fewestPairs_200 (lv_at hl 0 rfl) ?_
                        obtain ⟨g_177, hfo_176, hbg_177⟩ := un_601 (hG _ ma_46) ka_46
                        refine tk_ildP hx hb hK hP 0 ma_46 hfo_176 rfl (vp_in_iff.mpr (by constructor <;> omega)) dX12_fewestPairs_202 ?_
                        refine lv_topi (fun x_178 ex_178 => ?_)
                        have bx_178 : ((-1) ≤ x_178.toInt ∧ x_178.toInt ≤ 4) := by rw [ex_178]; exact hbg_177 _
                        refine lv_iconst (v := (-1)) hx hb dX12_fewestPairs_203 (by decide) ?_
                        have hcut_184 : ∀ (y_179 : Int32), (1 ≤ y_179.toInt ∧ y_179.toInt ≤ 4096) → ∀ (f_181 : Nat → va_E), GI (okc cI cL cZ cR cG cH L kd) kd L f_181 → ∀ (H : Heap) (locs : List Loc), va_P (dC, dI) vwCl (va_pl L f_181) H → va_S (fun q => q ∈ L) s.heap H locs → va_D (fun q => q ∈ L) (va_pl L f_181) → (∀ b, kd b ≠ 600 → kd b ≠ 601 → f_181 b = f b) → (f_181 o0 = .inr (12, [.ref a_1, .ref a_2, .ref a_3, .int v_4, .ref a_5, .int v_6, .int v_7, .int v_8, .int v_9, .int v_10, .int v_11, .int v_12, .int v_13, .int v_14, .int v_15, .ref a_16, .ref a_17, .ref a_18, .ref a_19, .ref a_20, .ref a_21, .ref a_22, .ref a_23, .int v_24, .int v_25, .int v_26, .int v_27, .int v_28, .ref a_29, .int v_30, .ref a_31, .ref a_32, .int v_33, .int v_34, .ref a_35, .int v_36, .ref a_37, .ref a_38, .int v_39, .int v_40, .ref a_41, .ref a_42, .ref a_43, .int v_44, .ref a_45, .ref a_46, .ref a_47, .ref a_48, .ref a_49, .ref a_50, .ref a_51, .ref a_52, .ref a_53, .int v_54, .int v_55, .ref a_56])) → (f_181 a_1 = .inl (cI, 1560, .inl g_159)) → ∀ (ls : Array Slot), lv_has ls 10 [(5, .int y_179), (9, .int x_175), (8, .int y_153), (7, .int x_126), (6, .int y_118), (4, .int x_96), (0, .ref o0), (1, .int p1), (2, .int p2), (3, .int p3)] → W p l e (headSpec (wU yX12_fewestPairs cX12_fewestPairs 10 (some .int)) { frames := 4, cells := 0, slots := 0, locals := 100 }).room s m [.ref o0, .int p1, .int p2, .int p3].toArray below meth c H locs 0 0 (MQ below (va_Qi (fun (r : Int32) (f9 : Nat → va_E) => GI (okc cI cL cZ cR cG cH L kd) kd L f9 ∧ ((-1) ≤ r.toInt ∧ r.toInt ≤ 4) ∧ (∀ b, kd b ≠ 600 → kd b ≠ 601 → f9 b = f b)) (qP (dC, dI) cI cL cZ cR cG cH L) (fun q => q ∈ L)) [.ref o0, .int p1, .int p2, .int p3].toArray s 0 0 (fun q => q ∈ L)) (F0 m 238 ls []) := by
                          intro y_179 by_179 f_181 hG H locs hP hS hD hfr0 hfo_182 hfo_183 ls hl
                          obtain ⟨x_185, ex_185⟩ : ∃ y : Int32, y_153 + 1 = y := ⟨_, rfl⟩
                          have hx_185 : x_185.toInt = y_153.toInt + 1 := by rw [← ex_185, ad_I (by rw [ti_1]; omega) (by rw [ti_1]; omega), ti_1]
                          have bx_185 : (1 ≤ x_185.toInt ∧ x_185.toInt ≤ 20) := by constructor <;> omega
                          refine lv_iinc (v := x_185) (lv' := [(8, .int x_185), (5, .int y_179), (9, .int x_175), (7, .int x_126), (6, .int y_118), (4, .int x_96), (0, .ref o0), (1, .int p1), (2, .int p2), (3, .int p3)]) hx hb dX12_fewestPairs_238 hl (k := 2) rfl ex_185 (by decide) rfl (fun ls hl => ?_)
                          refine lv_goto (tgt := 136) hx hb dX12_fewestPairs_241 (by decide) ?_
                          obtain ⟨g_187, hfo_186, hbg_187⟩ := un_601 (hG _ ma_46) ka_46
                          obtain ⟨g_189, hfo_188, hbg_189⟩ := un_600 (hG _ ma_45) ka_45
                          exact ih_hloop_152 x_185 (by constructor <;> omega) y_179 (by constructor <;> omega) f_181 hG _ _ hP hS hD hfr0 hfo_182 (by omega) (fun gl gs h1 h2 => hxj gl gs h1 h2) (by omega) ls (lv_sub hl [0, 3, 4, 1, 5, 6, 7, 8, 9] rfl)
                        refine lv_icmp_eq (tgt := 210) hx hb dX12_fewestPairs_204 (by decide) (fun c_190 => ?_) (fun c_190 => ?_)
                        · skip
                          rw [← Int32.toInt_inj, ti_m1] at c_190
                          obtain ⟨g_192, hfo_191, hbg_192⟩ := un_600 (hG _ ma_45) ka_45
                          have hfp := hxj g_177 g_192 hfo_176 hfo_191
                          refine lv_aload_n hx hb dX12_fewestPairs_210 rfl (lv_at hl 6 rfl) ?_
                          refine tk_getP (D := (dC, dI)) (ci := 12) (v := .ref a_46) (C := RX12) (T := TX12) (N := 56) hx hb hU inlX12 hown hK hP mo0 hfo_157 rfl 45 (by decide) (hU _ wd_194) (fun _ h9 => h9) rfl dX12_fewestPairs_211 ?_
                          refine lv_iload hx hb dX12_fewestPairs_214 (lv_at hl 0 rfl) ?_
                          refine lv_aload_n hx hb dX12_fewestPairs_216 rfl (lv_at hl 6 rfl) ?_
                          refine tk_getP (D := (dC, dI)) (ci := 12) (v := .ref a_46) (C := RX12) (T := TX12) (N := 56) hx hb hU inlX12 hown hK hP mo0 hfo_157 rfl 45 (by decide) (hU _ wd_194) (fun _ h9 => h9) rfl dX12_fewestPairs_217 ?_
                          refine lv_iload hx hb dX12_fewestPairs_220 (lv_at hl 2 rfl) ?_
                          refine tk_ildP hx hb hK hP 0 ma_46 hfo_176 rfl (vp_in_iff.mpr (by constructor <;> omega)) dX12_fewestPairs_222 ?_
                          refine lv_topi (fun x_193 ex_193 => ?_)
                          have bx_193 : ((-1) ≤ x_193.toInt ∧ x_193.toInt ≤ 4) := by rw [ex_193]; exact hbg_177 _
                          have hnrc_194 : (0 ≤ x_193.toInt ∧ x_193.toInt ≤ 3) := by have h7 := hfp.2.2; have h8 : x_193.toInt = (g_177 (Int32.toNatClampNeg x_126)).toInt := (by rw [ex_193]); constructor <;> omega
                          refine lv_iconst (v := 1) hx hb dX12_fewestPairs_223 (by decide) ?_
                          refine lv_iadd hx hb dX12_fewestPairs_224 ?_
                          refine lv_topi (fun x_195 ex_195 => ?_)
                          have hx_195 : x_195.toInt = x_193.toInt + 1 := by rw [ex_195, ad_I (by rw [ti_1]; omega) (by rw [ti_1]; omega), ti_1]
                          have bx_195 : (1 ≤ x_195.toInt ∧ x_195.toInt ≤ 4) := by constructor <;> omega
                          have hfq := fp_step (m := Int32.toNatClampNeg y_154) (s := Int32.toNatClampNeg x_126) (v := x_195) (nx := x_175) (gs := g_192) (by have hcm := cl_I (i := y_154) (by omega); intro j hj; exact hfp.1 j (by omega)) (by have hcm := cl_I (i := y_154) (by omega); have h7 := hfp.2.1; omega) hfp.2.2 rfl (by rw [← ex_178]; exact Int32.toInt_inj.mp (by rw [show ((-1 : Int32)).toInt = -1 from by decide]; omega)) (by have hc9 := cl_I (i := x_175) (by omega); omega) (by have h8 : x_193.toInt = (g_177 (Int32.toNatClampNeg x_126)).toInt := (by rw [ex_193]); omega)
                          have hmm : y_154.toInt ≤ 4095 := by have hcm := cl_I (i := y_154) (by omega); have h7 := hfq.2.2.2; omega
                          refine tk_istP hx hb hK hP hD hS 0 ma_46 hfo_176 rfl (vp_in_iff.mpr (by constructor <;> omega)) dX12_fewestPairs_225 (fun H locs hP hD hS => ?_)
                          obtain ⟨g_196, eqg_196⟩ : ∃ y : Nat → Int32, y = upd g_177 (Int32.toNatClampNeg x_175) x_195 := ⟨_, rfl⟩
                          rw [← eqg_196] at hP hD
                          have hbg_196 : ∀ j, (-1) ≤ (g_196 j).toInt ∧ (g_196 j).toInt ≤ 4 := by rw [eqg_196]; exact okI_up hbg_177 (by constructor <;> omega) _
                          obtain ⟨f_198, ef_198⟩ : ∃ y : Nat → va_E, y = va_up f_156 a_46 (.inl (cI, 4096, .inl g_196)) := ⟨_, rfl⟩
                          have hP : va_P (dC, dI) vwCl (va_pl L f_198) H := by rw [ef_198]; exact hP
                          have hD : va_D (fun q => q ∈ L) (va_pl L f_198) := by rw [ef_198]; exact hD
                          have hG : GI (okc cI cL cZ cR cG cH L kd) kd L f_198 := by rw [ef_198]; exact hG.set a_46 (mk_601 ka_46 ⟨_, rfl, hbg_196⟩)
                          have hfo_199 : f_198 o0 = .inr (12, [.ref a_1, .ref a_2, .ref a_3, .int v_4, .ref a_5, .int v_6, .int v_7, .int v_8, .int v_9, .int v_10, .int v_11, .int v_12, .int v_13, .int v_14, .int v_15, .ref a_16, .ref a_17, .ref a_18, .ref a_19, .ref a_20, .ref a_21, .ref a_22, .ref a_23, .int v_24, .int v_25, .int v_26, .int v_27, .int v_28, .ref a_29, .int v_30, .ref a_31, .ref a_32, .int v_33, .int v_34, .ref a_35, .int v_36, .ref a_37, .ref a_38, .int v_39, .int v_40, .ref a_41, .ref a_42, .ref a_43, .int v_44, .ref a_45, .ref a_46, .ref a_47, .ref a_48, .ref a_49, .ref a_50, .ref a_51, .ref a_52, .ref a_53, .int v_54, .int v_55, .ref a_56]) := by rw [ef_198, up_ne (kd_ne ka_46 ko0 (by decide))]; exact hfo_157
                          have hfo_200 : f_198 a_1 = .inl (cI, 1560, .inl g_159) := by rw [ef_198, up_ne (kd_ne ka_46 ka_1 (by decide))]; exact hfo_158
                          have hfo_201 : f_198 a_45 = .inl (cI, 4096, .inl g_192) := by rw [ef_198, up_ne (kd_ne ka_46 ka_45 (by decide))]; exact hfo_191
                          have hfr0 : ∀ b, kd b ≠ 600 → kd b ≠ 601 → f_198 b = f b := fun b q600 q601 => (congrFun ef_198 b).trans ((up_ne (fun e9 => q601 (by rw [e9]; exact ka_46))).trans (hfr0 b q600 q601))
                          have hfo_202 : f_198 a_46 = .inl (cI, 4096, .inl g_196) := by rw [ef_198]; exact up_self
                          refine lv_aload_n hx hb dX12_fewestPairs_226 rfl (lv_at hl 6 rfl) ?_
                          refine tk_getP (D := (dC, dI)) (ci := 12) (v := .ref a_45) (C := RX12) (T := TX12) (N := 56) hx hb hU inlX12 hown hK hP mo0 hfo_199 rfl 44 (by decide) (hU _ wd_193) (fun _ h9 => h9) rfl dX12_fewestPairs_227 ?_
                          refine lv_iload hx hb dX12_fewestPairs_230 (lv_at hl 4 rfl) ?_
                          refine lv_iload hx hb dX12_fewestPairs_232 (lv_at hl 0 rfl) ?_
                          refine tk_istP hx hb hK hP hD hS 0 ma_45 hfo_201 rfl (vp_in_iff.mpr (by constructor <;> omega)) dX12_fewestPairs_234 (fun H locs hP hD hS => ?_)
                          obtain ⟨g_203, eqg_203⟩ : ∃ y : Nat → Int32, y = upd g_192 (Int32.toNatClampNeg y_154) x_175 := ⟨_, rfl⟩
                          rw [← eqg_203] at hP hD
                          have hbg_203 : ∀ j, 0 ≤ (g_203 j).toInt ∧ (g_203 j).toInt ≤ 4095 := by rw [eqg_203]; exact okI_up hbg_192 (by constructor <;> omega) _
                          obtain ⟨f_205, ef_205⟩ : ∃ y : Nat → va_E, y = va_up f_198 a_45 (.inl (cI, 4096, .inl g_203)) := ⟨_, rfl⟩
                          have hP : va_P (dC, dI) vwCl (va_pl L f_205) H := by rw [ef_205]; exact hP
                          have hD : va_D (fun q => q ∈ L) (va_pl L f_205) := by rw [ef_205]; exact hD
                          have hG : GI (okc cI cL cZ cR cG cH L kd) kd L f_205 := by rw [ef_205]; exact hG.set a_45 (mk_600 ka_45 ⟨_, rfl, hbg_203⟩)
                          have hfo_206 : f_205 o0 = .inr (12, [.ref a_1, .ref a_2, .ref a_3, .int v_4, .ref a_5, .int v_6, .int v_7, .int v_8, .int v_9, .int v_10, .int v_11, .int v_12, .int v_13, .int v_14, .int v_15, .ref a_16, .ref a_17, .ref a_18, .ref a_19, .ref a_20, .ref a_21, .ref a_22, .ref a_23, .int v_24, .int v_25, .int v_26, .int v_27, .int v_28, .ref a_29, .int v_30, .ref a_31, .ref a_32, .int v_33, .int v_34, .ref a_35, .int v_36, .ref a_37, .ref a_38, .int v_39, .int v_40, .ref a_41, .ref a_42, .ref a_43, .int v_44, .ref a_45, .ref a_46, .ref a_47, .ref a_48, .ref a_49, .ref a_50, .ref a_51, .ref a_52, .ref a_53, .int v_54, .int v_55, .ref a_56]) := by rw [ef_205, up_ne (kd_ne ka_45 ko0 (by decide))]; exact hfo_199
                          have hfo_207 : f_205 a_1 = .inl (cI, 1560, .inl g_159) := by rw [ef_205, up_ne (kd_ne ka_45 ka_1 (by decide))]; exact hfo_200
                          have hfo_208 : f_205 a_46 = .inl (cI, 4096, .inl g_196) := by rw [ef_205, up_ne (kd_ne ka_45 ka_46 (by decide))]; exact hfo_202
                          have hfr0 : ∀ b, kd b ≠ 600 → kd b ≠ 601 → f_205 b = f b := fun b q600 q601 => (congrFun ef_205 b).trans ((up_ne (fun e9 => q600 (by rw [e9]; exact ka_45))).trans (hfr0 b q600 q601))
                          have hfo_209 : f_205 a_45 = .inl (cI, 4096, .inl g_203) := by rw [ef_205]; exact up_self
                          obtain ⟨x_210, ex_210⟩ : ∃ y : Int32, y_154 + 1 = y := ⟨_, rfl⟩
                          have hx_210 : x_210.toInt = y_154.toInt + 1 := by rw [← ex_210, ad_I (by rw [ti_1]; omega) (by rw [ti_1]; omega), ti_1]
                          have bx_210 : (2 ≤ x_210.toInt ∧ x_210.toInt ≤ 4096) := by constructor <;> omega
                          refine lv_iinc (v := x_210) (lv' := [(5, .int x_210), (9, .int x_175), (8, .int y_153), (7, .int x_126), (6, .int y_118), (4, .int x_96), (0, .ref o0), (1, .int p1), (2, .int p2), (3, .int p3)]) hx hb dX12_fewestPairs_235 hl (k := 4) rfl ex_210 (by decide) rfl (fun ls hl => ?_)
                          exact hcut_184 x_210 (by constructor <;> omega) f_205 hG _ _ hP hS hD hfr0 hfo_206 hfo_207 ls (lv_sub hl [0, 1, 2, 3, 4, 5, 6, 7, 8, 9] rfl)
                        · skip
                          rw [← Int32.toInt_inj, ti_m1] at c_190
                          refine lv_goto (tgt := 238) hx hb dX12_fewestPairs_207 (by decide) ?_
                          exact hcut_184 y_154 (by constructor <;> omega) f_156 hG _ _ hP hS hD hfr0 hfo_157 hfo_158 ls (lv_sub hl [4, 0, 1, 2, 3, 5, 6, 7, 8, 9] rfl)
                  exact hloop_152 21 0 (by decide) y_119 (by constructor <;> omega) f_121 hG _ _ hP hS hD hfr0 hfo_122 (by (try rw [ti_0]) <;> omega) (fun gl gs h1 h2 => by have h7 := hxi gl gs h1 h2; rw [hfo_127] at h1; cases h1; refine ⟨h7.1, h7.2, hs0, ?_⟩; have h8 : x_134.toInt = (g_128 (Int32.toNatClampNeg x_126)).toInt := (by rw [ex_134]); omega) (by (try rw [ti_0]) <;> omega) ls hl
                · skip
                  rw [← Int32.toInt_inj, ti_4] at c_145
                  refine lv_goto (tgt := 244) hx hb dX12_fewestPairs_130 (by decide) ?_
                  exact hcut_139 y_119 (by constructor <;> omega) f_121 hG _ _ hP hS hD hfr0 hfo_122 ls (lv_sub hl [0, 1, 2, 3, 4, 5, 6, 7] rfl)
              · skip
                rw [← Int32.toInt_inj, ti_0] at c_133
                refine lv_aload_n hx hb dX12_fewestPairs_97 rfl (lv_at hl 4 rfl) ?_
                refine lv_iload_n hx hb dX12_fewestPairs_98 rfl (lv_at hl 6 rfl) ?_
                refine lv_iload_n hx hb dX12_fewestPairs_99 rfl (lv_at hl 7 rfl) ?_
                refine lv_iload hx hb dX12_fewestPairs_100 (lv_at hl 0 rfl) ?_
                refine lv_bipush (v := 64) hx hb dX12_fewestPairs_102 (by decide) ?_
                refine lv_irem hx hb dX12_fewestPairs_104 (by decide) ?_
                refine lv_topi (fun x_211 ex_211 => ?_)
                have hx_211 : x_211.toInt = x_126.toInt % 64 := by rw [ex_211, rm_I (by omega) (by rw [ti_64]; omega), ti_64]
                have bx_211 : (0 ≤ x_211.toInt ∧ x_211.toInt ≤ 63) := by constructor <;> omega
                refine tk_ViP (As := [.int p2, .int p3, .int x_211]) (rest := []) (n := 3) hx hb hml hown hU hN hZ (s_X12_isDone_k12 l (dC, dI) cI cL cZ cR cG cH Z kd L f_121 hG o0 mo0 ko0 p2 (by constructor <;> omega) p3 (by constructor <;> omega) x_211) wd_898 wd_899 wd_900 wd_5 wd_901 (by decide +kernel) ⟨Nat.le_of_ble_eq_true rfl, Nat.le_of_ble_eq_true rfl⟩ hK hP hD hS mo0 hfo_122 12 rfl rfl rfl hl.1 rfl (Nat.le_of_ble_eq_true rfl) dX12_fewestPairs_105 ⟨Nat.le_of_ble_eq_true rfl, Nat.le_of_ble_eq_true rfl⟩ (fun x_212 f_213 H locs hw hP hD hS => ?_)
                obtain ⟨rfl, bx_212⟩ := hw
                refine lv_if_eq (tgt := 119) hx hb dX12_fewestPairs_108 (by decide) (fun c_215 => ?_) (fun c_215 => ?_)
                · skip
                  rw [← Int32.toInt_inj, ti_0] at c_215
                  refine lv_aload_n hx hb dX12_fewestPairs_119 rfl (lv_at hl 4 rfl) ?_
                  refine tk_getP (D := (dC, dI)) (ci := 12) (v := .ref a_46) (C := RX12) (T := TX12) (N := 56) hx hb hU inlX12 hown hK hP mo0 hfo_122 rfl 45 (by decide) (hU _ wd_194) (fun _ h9 => h9) rfl dX12_fewestPairs_120 ?_
                  refine lv_iload hx hb dX12_fewestPairs_123 (lv_at hl 0 rfl) ?_
                  refine tk_ildP hx hb hK hP 0 ma_46 hfo_127 rfl (vp_in_iff.mpr (by constructor <;> omega)) dX12_fewestPairs_125 ?_
                  refine lv_topi (fun x_216 ex_216 => ?_)
                  have bx_216 : ((-1) ≤ x_216.toInt ∧ x_216.toInt ≤ 4) := by rw [ex_216]; exact hbg_128 _
                  refine lv_iconst (v := 4) hx hb dX12_fewestPairs_126 (by decide) ?_
                  have hcut_221 : ∀ (y_217 : Int32), (1 ≤ y_217.toInt ∧ y_217.toInt ≤ 4096) → ∀ (f_219 : Nat → va_E), GI (okc cI cL cZ cR cG cH L kd) kd L f_219 → ∀ (H : Heap) (locs : List Loc), va_P (dC, dI) vwCl (va_pl L f_219) H → va_S (fun q => q ∈ L) s.heap H locs → va_D (fun q => q ∈ L) (va_pl L f_219) → (∀ b, kd b ≠ 600 → kd b ≠ 601 → f_219 b = f b) → (f_219 o0 = .inr (12, [.ref a_1, .ref a_2, .ref a_3, .int v_4, .ref a_5, .int v_6, .int v_7, .int v_8, .int v_9, .int v_10, .int v_11, .int v_12, .int v_13, .int v_14, .int v_15, .ref a_16, .ref a_17, .ref a_18, .ref a_19, .ref a_20, .ref a_21, .ref a_22, .ref a_23, .int v_24, .int v_25, .int v_26, .int v_27, .int v_28, .ref a_29, .int v_30, .ref a_31, .ref a_32, .int v_33, .int v_34, .ref a_35, .int v_36, .ref a_37, .ref a_38, .int v_39, .int v_40, .ref a_41, .ref a_42, .ref a_43, .int v_44, .ref a_45, .ref a_46, .ref a_47, .ref a_48, .ref a_49, .ref a_50, .ref a_51, .ref a_52, .ref a_53, .int v_54, .int v_55, .ref a_56])) → ∀ (ls : Array Slot), lv_has ls 10 [(7, .int x_126), (6, .int y_118), (5, .int y_217), (4, .int x_96), (0, .ref o0), (1, .int p1), (2, .int p2), (3, .int p3)] → W p l e (headSpec (wU yX12_fewestPairs cX12_fewestPairs 10 (some .int)) { frames := 4, cells := 0, slots := 0, locals := 100 }).room s m [.ref o0, .int p1, .int p2, .int p3].toArray below meth c H locs 0 0 (MQ below (va_Qi (fun (r : Int32) (f9 : Nat → va_E) => GI (okc cI cL cZ cR cG cH L kd) kd L f9 ∧ ((-1) ≤ r.toInt ∧ r.toInt ≤ 4) ∧ (∀ b, kd b ≠ 600 → kd b ≠ 601 → f9 b = f b)) (qP (dC, dI) cI cL cZ cR cG cH L) (fun q => q ∈ L)) [.ref o0, .int p1, .int p2, .int p3].toArray s 0 0 (fun q => q ∈ L)) (F0 m 244 ls []) := by
                    intro y_217 by_217 f_219 hG H locs hP hS hD hfr0 hfo_220 ls hl
                    obtain ⟨x_222, ex_222⟩ : ∃ y : Int32, y_118 + 1 = y := ⟨_, rfl⟩
                    have hx_222 : x_222.toInt = y_118.toInt + 1 := by rw [← ex_222, ad_I (by rw [ti_1]; omega) (by rw [ti_1]; omega), ti_1]
                    have bx_222 : (1 ≤ x_222.toInt ∧ x_222.toInt ≤ 4096) := by constructor <;> omega
                    refine lv_iinc (v := x_222) (lv' := [(6, .int x_222), (7, .int x_126), (5, .int y_217), (4, .int x_96), (0, .ref o0), (1, .int p1), (2, .int p2), (3, .int p3)]) hx hb dX12_fewestPairs_244 hl (k := 1) rfl ex_222 (by decide) rfl (fun ls hl => ?_)
                    refine lv_goto (tgt := 67) hx hb dX12_fewestPairs_247 (by decide) ?_
                    obtain ⟨g_224, hfo_223, hbg_224⟩ := un_601 (hG _ ma_46) ka_46
                    obtain ⟨g_226, hfo_225, hbg_226⟩ := un_600 (hG _ ma_45) ka_45
                    exact ih_hloop_117 x_222 (by constructor <;> omega) y_217 (by constructor <;> omega) f_219 hG _ _ hP hS hD hfr0 hfo_220 (by omega) (fun gl gs h1 h2 => by first | exact ⟨(hxj gl gs h1 h2).1, (hxj gl gs h1 h2).2.1⟩ | exact hxi gl gs h1 h2) (by omega) ls (lv_sub hl [0, 2, 3, 4, 5, 6, 7] rfl)
                  refine lv_icmp_ne (tgt := 133) hx hb dX12_fewestPairs_127 (by decide) (fun c_227 => ?_) (fun c_227 => ?_)
                  · skip
                    rw [← Int32.toInt_inj, ti_4] at c_227
                    refine lv_iconst (v := 0) hx hb dX12_fewestPairs_133 (by decide) ?_
                    refine lv_istore (lv' := [(8, .int 0), (7, .int x_126), (6, .int y_118), (5, .int y_119), (4, .int x_96), (0, .ref o0), (1, .int p1), (2, .int p2), (3, .int p3)]) hx hb dX12_fewestPairs_134 hl (by decide) rfl (fun ls hl => ?_)
                    have hloop_234 : ∀ (n : Nat), ∀ (y_235 : Int32), (0 ≤ y_235.toInt ∧ y_235.toInt ≤ 20) → ∀ (y_236 : Int32), (1 ≤ y_236.toInt ∧ y_236.toInt ≤ 4096) → ∀ (f_238 : Nat → va_E), GI (okc cI cL cZ cR cG cH L kd) kd L f_238 → ∀ (H : Heap) (locs : List Loc), va_P (dC, dI) vwCl (va_pl L f_238) H → va_S (fun q => q ∈ L) s.heap H locs → va_D (fun q => q ∈ L) (va_pl L f_238) → (∀ b, kd b ≠ 600 → kd b ≠ 601 → f_238 b = f b) → (f_238 o0 = .inr (12, [.ref a_1, .ref a_2, .ref a_3, .int v_4, .ref a_5, .int v_6, .int v_7, .int v_8, .int v_9, .int v_10, .int v_11, .int v_12, .int v_13, .int v_14, .int v_15, .ref a_16, .ref a_17, .ref a_18, .ref a_19, .ref a_20, .ref a_21, .ref a_22, .ref a_23, .int v_24, .int v_25, .int v_26, .int v_27, .int v_28, .ref a_29, .int v_30, .ref a_31, .ref a_32, .int v_33, .int v_34, .ref a_35, .int v_36, .ref a_37, .ref a_38, .int v_39, .int v_40, .ref a_41, .ref a_42, .ref a_43, .int v_44, .ref a_45, .ref a_46, .ref a_47, .ref a_48, .ref a_49, .ref a_50, .ref a_51, .ref a_52, .ref a_53, .int v_54, .int v_55, .ref a_56])) → (y_118.toInt + 1 ≤ y_236.toInt) → (∀ gl gs, f_238 a_46 = .inl (cI, 4096, .inl gl) → f_238 a_45 = .inl (cI, 4096, .inl gs) → (∀ j : Nat, j < (y_236.toInt).toNat → 0 ≤ (gl (Int32.toNatClampNeg (gs j))).toInt) ∧ (y_236.toInt).toNat + ctE gl (-1) 4096 ≤ 4096 ∧ 0 ≤ (gl (Int32.toNatClampNeg x_126)).toInt ∧ (gl (Int32.toNatClampNeg x_126)).toInt ≤ 3) → 20 - y_235.toInt < (n : Int) → ∀ (ls : Array Slot), lv_has ls 10 [(8, .int y_235), (7, .int x_126), (6, .int y_118), (5, .int y_236), (4, .int x_96), (0, .ref o0), (1, .int p1), (2, .int p2), (3, .int p3)] → W p l e (headSpec (wU yX12_fewestPairs cX12_fewestPairs 10 (some .int)) { frames := 4, cells := 0, slots := 0, locals := 100 }).room s m [.ref o0, .int p1, .int p2, .int p3].toArray below meth c H locs 0 0 (MQ below (va_Qi (fun (r : Int32) (f9 : Nat → va_E) => GI (okc cI cL cZ cR cG cH L kd) kd L f9 ∧ ((-1) ≤ r.toInt ∧ r.toInt ≤ 4) ∧ (∀ b, kd b ≠ 600 → kd b ≠ 601 → f9 b = f b)) (qP (dC, dI) cI cL cZ cR cG cH L) (fun q => q ∈ L)) [.ref o0, .int p1, .int p2, .int p3].toArray s 0 0 (fun q => q ∈ L)) (F0 m 136 ls []) := by
                      intro n
                      induction n with
                      | zero => intro y_235 by_235 y_236 by_236 f_238 hG H locs hP hS hD hfr0 hfo_239 hrelhloop_234_0 hxj hmuhloop_234 ls hl; exfalso; omega
                      | succ n ih_hloop_234 =>
                        intro y_235 by_235 y_236 by_236 f_238 hG H locs hP hS hD hfr0 hfo_239 hrelhloop_234_0 hxj hmuhloop_234 ls hl
                        refine lv_iload hx hb dX12_fewestPairs_136 (lv_at hl 0 rfl) ?_
                        refine lv_aload_n hx hb dX12_fewestPairs_138 rfl (lv_at hl 5 rfl) ?_
                        refine tk_getP (D := (dC, dI)) (ci := 12) (v := .ref a_1) (C := RX12) (T := TX12) (N := 56) hx hb hU inlX12 hown hK hP mo0 hfo_239 rfl 0 (by decide) (hU _ wd_169) (fun _ h9 => h9) rfl dX12_fewestPairs_139 ?_
                        refine lv_bipush (v := 16) hx hb dX12_fewestPairs_142 (by decide) ?_
                        obtain ⟨g_241, hfo_240, hbg_241⟩ := un_575 (hG _ ma_1) ka_1
                        refine tk_ildP hx hb hK hP 0 ma_1 hfo_240 rfl (vp_in_nI (n := 16) (by decide) (by decide)) dX12_fewestPairs_144 ?_
                        refine lv_topi (fun x_242 ex_242 => ?_)
                        have bx_242 : (0 ≤ x_242.toInt ∧ x_242.toInt ≤ 20) := by rw [ex_242]; exact hbg_241.2.1 _ (by decide) (by decide) (by decide)
                        refine lv_icmp_ge (tgt := 244) hx hb dX12_fewestPairs_145 (by decide) (fun c_243 => ?_) (fun c_243 => ?_)
                        · skip
                          rw [Int32.le_iff_toInt_le] at c_243
                          exact hcut_221 y_236 (by constructor <;> omega) f_238 hG _ _ hP hS hD hfr0 hfo_239 ls (lv_sub hl [1, 2, 3, 4, 5, 6, 7, 8] rfl)
                        · skip
                          rw [Int32.le_iff_toInt_le] at c_243
                          refine lv_bipush (v := 64) hx hb dX12_fewestPairs_148 (by decide) ?_
                          refine lv_aload_n hx hb dX12_fewestPairs_150 rfl (lv_at hl 5 rfl) ?_
                          refine lv_iload_n hx hb dX12_fewestPairs_151 rfl (lv_at hl 6 rfl) ?_
                          refine lv_iload_n hx hb dX12_fewestPairs_152 rfl (lv_at hl 8 rfl) ?_
                          refine lv_iload hx hb dX12_fewestPairs_153 (lv_at hl 1 rfl) ?_
                          refine lv_bipush (v := 64) hx hb dX12_fewestPairs_155 (by decide) ?_
                          refine lv_idiv hx hb dX12_fewestPairs_157 (by decide) ?_
                          refine lv_topi (fun x_244 ex_244 => ?_)
                          have hx_244 : x_244.toInt = x_126.toInt / 64 := by rw [ex_244, dv_I (by omega) (by rw [ti_64]; omega), ti_64]
                          have bx_244 : (0 ≤ x_244.toInt ∧ x_244.toInt ≤ 63) := by constructor <;> omega
                          refine lv_aload_n hx hb dX12_fewestPairs_158 rfl (lv_at hl 5 rfl) ?_
                          refine tk_getP (D := (dC, dI)) (ci := 12) (v := .ref a_1) (C := RX12) (T := TX12) (N := 56) hx hb hU inlX12 hown hK hP mo0 hfo_239 rfl 0 (by decide) (hU _ wd_169) (fun _ h9 => h9) rfl dX12_fewestPairs_159 ?_
                          refine lv_bipush (v := 20) hx hb dX12_fewestPairs_162 (by decide) ?_
                          refine lv_iload hx hb dX12_fewestPairs_164 (lv_at hl 0 rfl) ?_
                          refine lv_iadd hx hb dX12_fewestPairs_166 ?_
                          refine lv_topi (fun x_245 ex_245 => ?_)
                          have hx_245 : x_245.toInt = 20 + y_235.toInt := by rw [ex_245, ad_I (by rw [ti_20]; omega) (by rw [ti_20]; omega), ti_20]
                          have bx_245 : (20 ≤ x_245.toInt ∧ x_245.toInt ≤ 39) := by constructor <;> omega
                          refine tk_ildP hx hb hK hP 0 ma_1 hfo_240 rfl (vp_in_iff.mpr (by constructor <;> omega)) dX12_fewestPairs_167 ?_
                          refine lv_topi (fun x_246 ex_246 => ?_)
                          have bx_246 : (0 ≤ x_246.toInt ∧ x_246.toInt ≤ 80) := by have hc9 := cl_I (i := x_245) (by omega); rw [ex_246]; exact hbg_241.2.2.2.2.2.1 _ (by omega) (by omega) (by omega)
                          refine tk_ViP (As := [.int p1, .int p3, .int x_244, .int x_246]) (rest := [.int 64]) (n := 4) hx hb hml hown hU hN hZ (s_X12_sideGoes_k12 l (dC, dI) cI cL cZ cR cG cH Z kd L f_238 hG o0 mo0 ko0 p1 (by constructor <;> omega) p3 (by constructor <;> omega) x_244 x_246) wd_1305 wd_1306 wd_1307 wd_5 wd_1308 (by decide +kernel) ⟨Nat.le_of_ble_eq_true rfl, Nat.le_of_ble_eq_true rfl⟩ hK hP hD hS mo0 hfo_239 12 rfl rfl rfl hl.1 rfl (Nat.le_of_ble_eq_true rfl) dX12_fewestPairs_168 ⟨Nat.le_of_ble_eq_true rfl, Nat.le_of_ble_eq_true rfl⟩ (fun x_247 f_248 H locs hw hP hD hS => ?_)
                          obtain ⟨rfl, bx_247⟩ := hw
                          refine lv_imul hx hb dX12_fewestPairs_171 ?_
                          refine lv_topi (fun x_250 ex_250 => ?_)
                          have hx_250 : x_250.toInt = 64 * x_247.toInt := by rw [ex_250, ml_I (by rw [ti_64]; omega) (by rw [ti_64]; omega), ti_64]
                          have bx_250 : (0 ≤ x_250.toInt ∧ x_250.toInt ≤ 4032) := by constructor <;> omega
                          refine lv_aload_n hx hb dX12_fewestPairs_172 rfl (lv_at hl 5 rfl) ?_
                          refine lv_iload_n hx hb dX12_fewestPairs_173 rfl (lv_at hl 7 rfl) ?_
                          refine lv_iload_n hx hb dX12_fewestPairs_174 rfl (lv_at hl 8 rfl) ?_
                          refine lv_iload hx hb dX12_fewestPairs_175 (lv_at hl 1 rfl) ?_
                          refine lv_bipush (v := 64) hx hb dX12_fewestPairs_177 (by decide) ?_
                          refine lv_irem hx hb dX12_fewestPairs_179 (by decide) ?_
                          refine lv_topi (fun x_251 ex_251 => ?_)
                          have hx_251 : x_251.toInt = x_126.toInt % 64 := by rw [ex_251, rm_I (by omega) (by rw [ti_64]; omega), ti_64]
                          have bx_251 : (0 ≤ x_251.toInt ∧ x_251.toInt ≤ 63) := by constructor <;> omega
                          refine lv_aload_n hx hb dX12_fewestPairs_180 rfl (lv_at hl 5 rfl) ?_
                          refine tk_getP (D := (dC, dI)) (ci := 12) (v := .ref a_1) (C := RX12) (T := TX12) (N := 56) hx hb hU inlX12 hown hK hP mo0 hfo_239 rfl 0 (by decide) (hU _ wd_169) (fun _ h9 => h9) rfl dX12_fewestPairs_181 ?_
                          refine lv_bipush (v := 20) hx hb dX12_fewestPairs_184 (by decide) ?_
                          refine lv_iload hx hb dX12_fewestPairs_186 (lv_at hl 0 rfl) ?_
                          refine lv_iadd hx hb dX12_fewestPairs_188 ?_
                          refine lv_topi (fun x_252 ex_252 => ?_)
                          have hx_252 : x_252.toInt = 20 + y_235.toInt := by rw [ex_252, ad_I (by rw [ti_20]; omega) (by rw [ti_20]; omega), ti_20]
                          have bx_252 : (20 ≤ x_252.toInt ∧ x_252.toInt ≤ 39) := by constructor <;> omega
                          refine tk_ildP hx hb hK hP 0 ma_1 hfo_240 rfl (vp_in_iff.mpr (by constructor <;> omega)) dX12_fewestPairs_189 ?_
                          refine lv_topi (fun x_253 ex_253 => ?_)
                          have bx_253 : (0 ≤ x_253.toInt ∧ x_253.toInt ≤ 80) := by have hc9 := cl_I (i := x_252) (by omega); rw [ex_253]; exact hbg_241.2.2.2.2.2.1 _ (by omega) (by omega) (by omega)
                          refine tk_ViP (As := [.int p2, .int p3, .int x_251, .int x_253]) (rest := [.int x_250]) (n := 4) hx hb hml hown hU hN hZ (s_X12_sideGoes_k12 l (dC, dI) cI cL cZ cR cG cH Z kd L f_238 hG o0 mo0 ko0 p2 (by constructor <;> omega) p3 (by constructor <;> omega) x_251 x_253) wd_1305 wd_1306 wd_1307 wd_5 wd_1308 (by decide +kernel) ⟨Nat.le_of_ble_eq_true rfl, Nat.le_of_ble_eq_true rfl⟩ hK hP hD hS mo0 hfo_239 12 rfl rfl rfl hl.1 rfl (Nat.le_of_ble_eq_true rfl) dX12_fewestPairs_190 ⟨Nat.le_of_ble_eq_true rfl, Nat.le_of_ble_eq_true rfl⟩ (fun x_254 f_255 H locs hw hP hD hS => ?_)
                          obtain ⟨rfl, bx_254⟩ := hw
                          refine lv_iadd hx hb dX12_fewestPairs_193 ?_
                          refine lv_topi (fun x_257 ex_257 => ?_)
                          have hx_257 : x_257.toInt = x_250.toInt + x_254.toInt := by rw [ex_257, ad_I (by omega) (by omega)]
                          have bx_257 : (0 ≤ x_257.toInt ∧ x_257.toInt ≤ 4095) := by constructor <;> omega
                          refine lv_istore (lv' := [(9, .int x_257), (8, .int y_235), (7, .int x_126), (6, .int y_118), (5, .int y_236), (4, .int x_96), (0, .ref o0), (1, .int p1), (2, .int p2), (3, .int p3)]) hx hb dX12_fewestPairs_194 hl (by decide) rfl (fun ls hl => ?_)
                          refine lv_aload_n hx hb dX12_fewestPairs_196 rfl (lv_at hl 6 rfl) ?_
                          refine tk_getP (D := (dC, dI)) (ci := 12) (v := .ref a_46) (C := RX12) (T := TX12) (N := 56) hx hb hU inlX12 hown hK hP mo0 hfo_239 rfl 45 (by decide) (hU _ wd_194) (fun _ h9 => h9) rfl dX12_fewestPairs_197 ?_
                          refine lv_iload hx hb dX12_fewestPairs_200 (lv_at hl 0 rfl) ?_
                          obtain ⟨g_259, hfo_258, hbg_259⟩ := un_601 (hG _ ma_46) ka_46
                          refine tk_ildP hx hb hK hP 0 ma_46 hfo_258 rfl (vp_in_iff.mpr (by constructor <;> omega)) dX12_fewestPairs_202 ?_
                          refine lv_topi (fun x_260 ex_260 => ?_)
                          have bx_260 : ((-1) ≤ x_260.toInt ∧ x_260.toInt ≤ 4) := by rw [ex_260]; exact hbg_259 _
                          refine lv_iconst (v := (-1)) hx hb dX12_fewestPairs_203 (by decide) ?_
                          have hcut_266 : ∀ (y_261 : Int32), (1 ≤ y_261.toInt ∧ y_261.toInt ≤ 4096) → ∀ (f_263 : Nat → va_E), GI (okc cI cL cZ cR cG cH L kd) kd L f_263 → ∀ (H : Heap) (locs : List Loc), va_P (dC, dI) vwCl (va_pl L f_263) H → va_S (fun q => q ∈ L) s.heap H locs → va_D (fun q => q ∈ L) (va_pl L f_263) → (∀ b, kd b ≠ 600 → kd b ≠ 601 → f_263 b = f b) → (f_263 o0 = .inr (12, [.ref a_1, .ref a_2, .ref a_3, .int v_4, .ref a_5, .int v_6, .int v_7, .int v_8, .int v_9, .int v_10, .int v_11, .int v_12, .int v_13, .int v_14, .int v_15, .ref a_16, .ref a_17, .ref a_18, .ref a_19, .ref a_20, .ref a_21, .ref a_22, .ref a_23, .int v_24, .int v_25, .int v_26, .int v_27, .int v_28, .ref a_29, .int v_30, .ref a_31, .ref a_32, .int v_33, .int v_34, .ref a_35, .int v_36, .ref a_37, .ref a_38, .int v_39, .int v_40, .ref a_41, .ref a_42, .ref a_43, .int v_44, .ref a_45, .ref a_46, .ref a_47, .ref a_48, .ref a_49, .ref a_50, .ref a_51, .ref a_52, .ref a_53, .int v_54, .int v_55, .ref a_56])) → (f_263 a_1 = .inl (cI, 1560, .inl g_241)) → ∀ (ls : Array Slot), lv_has ls 10 [(5, .int y_261), (9, .int x_257), (8, .int y_235), (7, .int x_126), (6, .int y_118), (4, .int x_96), (0, .ref o0), (1, .int p1), (2, .int p2), (3, .int p3)] → W p l e (headSpec (wU yX12_fewestPairs cX12_fewestPairs 10 (some .int)) { frames := 4, cells := 0, slots := 0, locals := 100 }).room s m [.ref o0, .int p1, .int p2, .int p3].toArray below meth c H locs 0 0 (MQ below (va_Qi (fun (r : Int32) (f9 : Nat → va_E) => GI (okc cI cL cZ cR cG cH L kd) kd L f9 ∧ ((-1) ≤ r.toInt ∧ r.toInt ≤ 4) ∧ (∀ b, kd b ≠ 600 → kd b ≠ 601 → f9 b = f b)) (qP (dC, dI) cI cL cZ cR cG cH L) (fun q => q ∈ L)) [.ref o0, .int p1, .int p2, .int p3].toArray s 0 0 (fun q => q ∈ L)) (F0 m 238 ls []) := by
                            intro y_261 by_261 f_263 hG H locs hP hS hD hfr0 hfo_264 hfo_265 ls hl
                            obtain ⟨x_267, ex_267⟩ : ∃ y : Int32, y_235 + 1 = y := ⟨_, rfl⟩
                            have hx_267 : x_267.toInt = y_235.toInt + 1 := by rw [← ex_267, ad_I (by rw [ti_1]; omega) (by rw [ti_1]; omega), ti_1]
                            have bx_267 : (1 ≤ x_267.toInt ∧ x_267.toInt ≤ 20) := by constructor <;> omega
                            refine lv_iinc (v := x_267) (lv' := [(8, .int x_267), (5, .int y_261), (9, .int x_257), (7, .int x_126), (6, .int y_118), (4, .int x_96), (0, .ref o0), (1, .int p1), (2, .int p2), (3, .int p3)]) hx hb dX12_fewestPairs_238 hl (k := 2) rfl ex_267 (by decide) rfl (fun ls hl => ?_)
                            refine lv_goto (tgt := 136) hx hb dX12_fewestPairs_241 (by decide) ?_
                            obtain ⟨g_269, hfo_268, hbg_269⟩ := un_601 (hG _ ma_46) ka_46
                            obtain ⟨g_271, hfo_270, hbg_271⟩ := un_600 (hG _ ma_45) ka_45
                            exact ih_hloop_234 x_267 (by constructor <;> omega) y_261 (by constructor <;> omega) f_263 hG _ _ hP hS hD hfr0 hfo_264 (by omega) (fun gl gs h1 h2 => hxj gl gs h1 h2) (by omega) ls (lv_sub hl [0, 3, 4, 1, 5, 6, 7, 8, 9] rfl)
                          refine lv_icmp_eq (tgt := 210) hx hb dX12_fewestPairs_204 (by decide) (fun c_272 => ?_) (fun c_272 => ?_)
                          · skip
                            rw [← Int32.toInt_inj, ti_m1] at c_272
                            obtain ⟨g_274, hfo_273, hbg_274⟩ := un_600 (hG _ ma_45) ka_45
                            have hfp := hxj g_259 g_274 hfo_258 hfo_273
                            refine lv_aload_n hx hb dX12_fewestPairs_210 rfl (lv_at hl 6 rfl) ?_
                            refine tk_getP (D := (dC, dI)) (ci := 12) (v := .ref a_46) (C := RX12) (T := TX12) (N := 56) hx hb hU inlX12 hown hK hP mo0 hfo_239 rfl 45 (by decide) (hU _ wd_194) (fun _ h9 => h9) rfl dX12_fewestPairs_211 ?_
                            refine lv_iload hx hb dX12_fewestPairs_214 (lv_at hl 0 rfl) ?_
                            refine lv_aload_n hx hb dX12_fewestPairs_216 rfl (lv_at hl 6 rfl) ?_
                            refine tk_getP (D := (dC, dI)) (ci := 12) (v := .ref a_46) (C := RX12) (T := TX12) (N := 56) hx hb hU inlX12 hown hK hP mo0 hfo_239 rfl 45 (by decide) (hU _ wd_194) (fun _ h9 => h9) rfl dX12_fewestPairs_217 ?_
                            refine lv_iload hx hb dX12_fewestPairs_220 (lv_at hl 2 rfl) ?_
                            refine tk_ildP hx hb hK hP 0 ma_46 hfo_258 rfl (vp_in_iff.mpr (by constructor <;> omega)) dX12_fewestPairs_222 ?_
                            refine lv_topi (fun x_275 ex_275 => ?_)
                            have bx_275 : ((-1) ≤ x_275.toInt ∧ x_275.toInt ≤ 4) := by rw [ex_275]; exact hbg_259 _
                            have hnrc_276 : (0 ≤ x_275.toInt ∧ x_275.toInt ≤ 3) := by have h7 := hfp.2.2; have h8 : x_275.toInt = (g_259 (Int32.toNatClampNeg x_126)).toInt := (by rw [ex_275]); constructor <;> omega
                            refine lv_iconst (v := 1) hx hb dX12_fewestPairs_223 (by decide) ?_
                            refine lv_iadd hx hb dX12_fewestPairs_224 ?_
                            refine lv_topi (fun x_277 ex_277 => ?_)
                            have hx_277 : x_277.toInt = x_275.toInt + 1 := by rw [ex_277, ad_I (by rw [ti_1]; omega) (by rw [ti_1]; omega), ti_1]
                            have bx_277 : (1 ≤ x_277.toInt ∧ x_277.toInt ≤ 4) := by constructor <;> omega
                            have hfq := fp_step (m := Int32.toNatClampNeg y_236) (s := Int32.toNatClampNeg x_126) (v := x_277) (nx := x_257) (gs := g_274) (by have hcm := cl_I (i := y_236) (by omega); intro j hj; exact hfp.1 j (by omega)) (by have hcm := cl_I (i := y_236) (by omega); have h7 := hfp.2.1; omega) hfp.2.2 rfl (by rw [← ex_260]; exact Int32.toInt_inj.mp (by rw [show ((-1 : Int32)).toInt = -1 from by decide]; omega)) (by have hc9 := cl_I (i := x_257) (by omega); omega) (by have h8 : x_275.toInt = (g_259 (Int32.toNatClampNeg x_126)).toInt := (by rw [ex_275]); omega)
                            have hmm : y_236.toInt ≤ 4095 := by have hcm := cl_I (i := y_236) (by omega); have h7 := hfq.2.2.2; omega
                            refine tk_istP hx hb hK hP hD hS 0 ma_46 hfo_258 rfl (vp_in_iff.mpr (by constructor <;> omega)) dX12_fewestPairs_225 (fun H locs hP hD hS => ?_)
                            obtain ⟨g_278, eqg_278⟩ : ∃ y : Nat → Int32, y = upd g_259 (Int32.toNatClampNeg x_257) x_277 := ⟨_, rfl⟩
                            rw [← eqg_278] at hP hD
                            have hbg_278 : ∀ j, (-1) ≤ (g_278 j).toInt ∧ (g_278 j).toInt ≤ 4 := by rw [eqg_278]; exact okI_up hbg_259 (by constructor <;> omega) _
                            obtain ⟨f_280, ef_280⟩ : ∃ y : Nat → va_E, y = va_up f_238 a_46 (.inl (cI, 4096, .inl g_278)) := ⟨_, rfl⟩
                            have hP : va_P (dC, dI) vwCl (va_pl L f_280) H := by rw [ef_280]; exact hP
                            have hD : va_D (fun q => q ∈ L) (va_pl L f_280) := by rw [ef_280]; exact hD
                            have hG : GI (okc cI cL cZ cR cG cH L kd) kd L f_280 := by rw [ef_280]; exact hG.set a_46 (mk_601 ka_46 ⟨_, rfl, hbg_278⟩)
                            have hfo_281 : f_280 o0 = .inr (12, [.ref a_1, .ref a_2, .ref a_3, .int v_4, .ref a_5, .int v_6, .int v_7, .int v_8, .int v_9, .int v_10, .int v_11, .int v_12, .int v_13, .int v_14, .int v_15, .ref a_16, .ref a_17, .ref a_18, .ref a_19, .ref a_20, .ref a_21, .ref a_22, .ref a_23, .int v_24, .int v_25, .int v_26, .int v_27, .int v_28, .ref a_29, .int v_30, .ref a_31, .ref a_32, .int v_33, .int v_34, .ref a_35, .int v_36, .ref a_37, .ref a_38, .int v_39, .int v_40, .ref a_41, .ref a_42, .ref a_43, .int v_44, .ref a_45, .ref a_46, .ref a_47, .ref a_48, .ref a_49, .ref a_50, .ref a_51, .ref a_52, .ref a_53, .int v_54, .int v_55, .ref a_56]) := by rw [ef_280, up_ne (kd_ne ka_46 ko0 (by decide))]; exact hfo_239
                            have hfo_282 : f_280 a_1 = .inl (cI, 1560, .inl g_241) := by rw [ef_280, up_ne (kd_ne ka_46 ka_1 (by decide))]; exact hfo_240
                            have hfo_283 : f_280 a_45 = .inl (cI, 4096, .inl g_274) := by rw [ef_280, up_ne (kd_ne ka_46 ka_45 (by decide))]; exact hfo_273
                            have hfr0 : ∀ b, kd b ≠ 600 → kd b ≠ 601 → f_280 b = f b := fun b q600 q601 => (congrFun ef_280 b).trans ((up_ne (fun e9 => q601 (by rw [e9]; exact ka_46))).trans (hfr0 b q600 q601))
                            have hfo_284 : f_280 a_46 = .inl (cI, 4096, .inl g_278) := by rw [ef_280]; exact up_self
                            refine lv_aload_n hx hb dX12_fewestPairs_226 rfl (lv_at hl 6 rfl) ?_
                            refine tk_getP (D := (dC, dI)) (ci := 12) (v := .ref a_45) (C := RX12) (T := TX12) (N := 56) hx hb hU inlX12 hown hK hP mo0 hfo_281 rfl 44 (by decide) (hU _ wd_193) (fun _ h9 => h9) rfl dX12_fewestPairs_227 ?_
                            refine lv_iload hx hb dX12_fewestPairs_230 (lv_at hl 4 rfl) ?_
                            refine lv_iload hx hb dX12_fewestPairs_232 (lv_at hl 0 rfl) ?_
                            refine tk_istP hx hb hK hP hD hS 0 ma_45 hfo_283 rfl (vp_in_iff.mpr (by constructor <;> omega)) dX12_fewestPairs_234 (fun H locs hP hD hS => ?_)
                            obtain ⟨g_285, eqg_285⟩ : ∃ y : Nat → Int32, y = upd g_274 (Int32.toNatClampNeg y_236) x_257 := ⟨_, rfl⟩
                            rw [← eqg_285] at hP hD
                            have hbg_285 : ∀ j, 0 ≤ (g_285 j).toInt ∧ (g_285 j).toInt ≤ 4095 := by rw [eqg_285]; exact okI_up hbg_274 (by constructor <;> omega) _
                            obtain ⟨f_287, ef_287⟩ : ∃ y : Nat → va_E, y = va_up f_280 a_45 (.inl (cI, 4096, .inl g_285)) := ⟨_, rfl⟩
                            have hP : va_P (dC, dI) vwCl (va_pl L f_287) H := by rw [ef_287]; exact hP
                            have hD : va_D (fun q => q ∈ L) (va_pl L f_287) := by rw [ef_287]; exact hD
                            have hG : GI (okc cI cL cZ cR cG cH L kd) kd L f_287 := by rw [ef_287]; exact hG.set a_45 (mk_600 ka_45 ⟨_, rfl, hbg_285⟩)
                            have hfo_288 : f_287 o0 = .inr (12, [.ref a_1, .ref a_2, .ref a_3, .int v_4, .ref a_5, .int v_6, .int v_7, .int v_8, .int v_9, .int v_10, .int v_11, .int v_12, .int v_13, .int v_14, .int v_15, .ref a_16, .ref a_17, .ref a_18, .ref a_19, .ref a_20, .ref a_21, .ref a_22, .ref a_23, .int v_24, .int v_25, .int v_26, .int v_27, .int v_28, .ref a_29, .int v_30, .ref a_31, .ref a_32, .int v_33, .int v_34, .ref a_35, .int v_36, .ref a_37, .ref a_38, .int v_39, .int v_40, .ref a_41, .ref a_42, .ref a_43, .int v_44, .ref a_45, .ref a_46, .ref a_47, .ref a_48, .ref a_49, .ref a_50, .ref a_51, .ref a_52, .ref a_53, .int v_54, .int v_55, .ref a_56]) := by rw [ef_287, up_ne (kd_ne ka_45 ko0 (by decide))]; exact hfo_281
                            have hfo_289 : f_287 a_1 = .inl (cI, 1560, .inl g_241) := by rw [ef_287, up_ne (kd_ne ka_45 ka_1 (by decide))]; exact hfo_282
                            have hfo_290 : f_287 a_46 = .inl (cI, 4096, .inl g_278) := by rw [ef_287, up_ne (kd_ne ka_45 ka_46 (by decide))]; exact hfo_284
                            have hfr0 : ∀ b, kd b ≠ 600 → kd b ≠ 601 → f_287 b = f b := fun b q600 q601 => (congrFun ef_287 b).trans ((up_ne (fun e9 => q600 (by rw [e9]; exact ka_45))).trans (hfr0 b q600 q601))
                            have hfo_291 : f_287 a_45 = .inl (cI, 4096, .inl g_285) := by rw [ef_287]; exact up_self
                            obtain ⟨x_292, ex_292⟩ : ∃ y : Int32, y_236 + 1 = y := ⟨_, rfl⟩
                            have hx_292 : x_292.toInt = y_236.toInt + 1 := by rw [← ex_292, ad_I (by rw [ti_1]; omega) (by rw [ti_1]; omega), ti_1]
                            have bx_292 : (2 ≤ x_292.toInt ∧ x_292.toInt ≤ 4096) := by constructor <;> omega
                            refine lv_iinc (v := x_292) (lv' := [(5, .int x_292), (9, .int x_257), (8, .int y_235), (7, .int x_126), (6, .int y_118), (4, .int x_96), (0, .ref o0), (1, .int p1), (2, .int p2), (3, .int p3)]) hx hb dX12_fewestPairs_235 hl (k := 4) rfl ex_292 (by decide) rfl (fun ls hl => ?_)
                            exact hcut_266 x_292 (by constructor <;> omega) f_287 hG _ _ hP hS hD hfr0 hfo_288 hfo_289 ls (lv_sub hl [0, 1, 2, 3, 4, 5, 6, 7, 8, 9] rfl)
                          · skip
                            rw [← Int32.toInt_inj, ti_m1] at c_272
                            refine lv_goto (tgt := 238) hx hb dX12_fewestPairs_207 (by decide) ?_
                            exact hcut_266 y_236 (by constructor <;> omega) f_238 hG _ _ hP hS hD hfr0 hfo_239 hfo_240 ls (lv_sub hl [4, 0, 1, 2, 3, 5, 6, 7, 8, 9] rfl)
                    exact hloop_234 21 0 (by decide) y_119 (by constructor <;> omega) f_121 hG _ _ hP hS hD hfr0 hfo_122 (by (try rw [ti_0]) <;> omega) (fun gl gs h1 h2 => by have h7 := hxi gl gs h1 h2; rw [hfo_127] at h1; cases h1; refine ⟨h7.1, h7.2, hs0, ?_⟩; have h8 : x_216.toInt = (g_128 (Int32.toNatClampNeg x_126)).toInt := (by rw [ex_216]); omega) (by (try rw [ti_0]) <;> omega) ls hl
                  · skip
                    rw [← Int32.toInt_inj, ti_4] at c_227
                    refine lv_goto (tgt := 244) hx hb dX12_fewestPairs_130 (by decide) ?_
                    exact hcut_221 y_119 (by constructor <;> omega) f_121 hG _ _ hP hS hD hfr0 hfo_122 ls (lv_sub hl [0, 1, 2, 3, 4, 5, 6, 7] rfl)
                · skip
                  rw [← Int32.toInt_inj, ti_0] at c_215
                  refine lv_aload_n hx hb dX12_fewestPairs_111 rfl (lv_at hl 4 rfl) ?_
                  refine tk_getP (D := (dC, dI)) (ci := 12) (v := .ref a_46) (C := RX12) (T := TX12) (N := 56) hx hb hU inlX12 hown hK hP mo0 hfo_122 rfl 45 (by decide) (hU _ wd_194) (fun _ h9 => h9) rfl dX12_fewestPairs_112 ?_
                  refine lv_iload hx hb dX12_fewestPairs_115 (lv_at hl 0 rfl) ?_
                  refine tk_ildP hx hb hK hP 0 ma_46 hfo_127 rfl (vp_in_iff.mpr (by constructor <;> omega)) dX12_fewestPairs_117 ?_
                  refine lv_topi (fun x_293 ex_293 => ?_)
                  have bx_293 : ((-1) ≤ x_293.toInt ∧ x_293.toInt ≤ 4) := by rw [ex_293]; exact hbg_128 _
                  exact W.iret (v := x_293) hx hb hr (fun t ht hW => ⟨⟨x_293, f_121, rfl, ⟨hG, (by constructor <;> omega), hfr0⟩, by rw [ht]; exact hP, va_K.moved hW.alike hK, pl_in hD⟩, hS.F ht⟩) hS.2.2 dX12_fewestPairs_118
        exact hloop_117 4097 0 (by decide) 1 (by decide) f_107 hG _ _ hP hS hD hfr0 hfo_108 (by (try rw [ti_0]) <;> (try rw [ti_1]) <;> omega) (fun gl gs h1 h2 => by rw [hfo_109] at h1; cases h1; rw [hfo_110] at h2; cases h2; have hc9 := cl_I (i := x_96) (by omega); have h31 : ((1 : Int32)).toInt = 1 := rfl; have hz0 : Int32.toNatClampNeg 0 = 0 := rfl; have hl0 : g_99 (Int32.toNatClampNeg x_96) = 0 := (by rw [eqg_99, pk_us]); refine ⟨fun j hj => ?_, ?_⟩; (· rw [show j = 0 by omega, eqg_105, hz0, pk_us, hl0]; decide); (· have h7 := ctE_lt (g := g_99) (d := -1) (n := 4096) (j := Int32.toNatClampNeg x_96) (by omega) (by rw [hl0]; decide); omega)) (by (try rw [ti_0]) <;> (try rw [ti_1]) <;> omega) ls hl
      · skip
        rw [Int32.le_iff_toInt_le, ti_4096] at c_88
        refine lv_aload_n hx hb dX12_fewestPairs_11 rfl (lv_at hl 1 rfl) ?_
        refine tk_getP (D := (dC, dI)) (ci := 12) (v := .ref a_46) (C := RX12) (T := TX12) (N := 56) hx hb hU inlX12 hown hK hP mo0 hfo_86 rfl 45 (by decide) (hU _ wd_194) (fun _ h9 => h9) rfl dX12_fewestPairs_12 ?_
        refine lv_iload hx hb dX12_fewestPairs_15 (lv_at hl 0 rfl) ?_
        refine lv_iconst (v := (-1)) hx hb dX12_fewestPairs_17 (by decide) ?_
        obtain ⟨g_295, hfo_294, hbg_295⟩ := un_601 (hG _ ma_46) ka_46
        refine tk_istP hx hb hK hP hD hS 0 ma_46 hfo_294 rfl (vp_in_iff.mpr (by constructor <;> omega)) dX12_fewestPairs_18 (fun H locs hP hD hS => ?_)
        obtain ⟨g_296, eqg_296⟩ : ∃ y : Nat → Int32, y = upd g_295 (Int32.toNatClampNeg y_83) (-1) := ⟨_, rfl⟩
        rw [← eqg_296] at hP hD
        have hbg_296 : ∀ j, (-1) ≤ (g_296 j).toInt ∧ (g_296 j).toInt ≤ 4 := by rw [eqg_296]; exact okI_up hbg_295 (by decide) _
        obtain ⟨f_298, ef_298⟩ : ∃ y : Nat → va_E, y = va_up f_85 a_46 (.inl (cI, 4096, .inl g_296)) := ⟨_, rfl⟩
        have hP : va_P (dC, dI) vwCl (va_pl L f_298) H := by rw [ef_298]; exact hP
        have hD : va_D (fun q => q ∈ L) (va_pl L f_298) := by rw [ef_298]; exact hD
        have hG : GI (okc cI cL cZ cR cG cH L kd) kd L f_298 := by rw [ef_298]; exact hG.set a_46 (mk_601 ka_46 ⟨_, rfl, hbg_296⟩)
        have hfo_299 : f_298 o0 = .inr (12, [.ref a_1, .ref a_2, .ref a_3, .int v_4, .ref a_5, .int v_6, .int v_7, .int v_8, .int v_9, .int v_10, .int v_11, .int v_12, .int v_13, .int v_14, .int v_15, .ref a_16, .ref a_17, .ref a_18, .ref a_19, .ref a_20, .ref a_21, .ref a_22, .ref a_23, .int v_24, .int v_25, .int v_26, .int v_27, .int v_28, .ref a_29, .int v_30, .ref a_31, .ref a_32, .int v_33, .int v_34, .ref a_35, .int v_36, .ref a_37, .ref a_38, .int v_39, .int v_40, .ref a_41, .ref a_42, .ref a_43, .int v_44, .ref a_45, .ref a_46, .ref a_47, .ref a_48, .ref a_49, .ref a_50, .ref a_51, .ref a_52, .ref a_53, .int v_54, .int v_55, .ref a_56]) := by rw [ef_298, up_ne (kd_ne ka_46 ko0 (by decide))]; exact hfo_86
        have hfo_300 : f_298 a_45 = .inl (cI, 4096, .inl g_62) := by rw [ef_298, up_ne (kd_ne ka_46 ka_45 (by decide))]; exact hfo_87
        have hfr0 : ∀ b, kd b ≠ 600 → kd b ≠ 601 → f_298 b = f b := fun b q600 q601 => (congrFun ef_298 b).trans ((up_ne (fun e9 => q601 (by rw [e9]; exact ka_46))).trans (hfr0 b q600 q601))
        have hfo_301 : f_298 a_46 = .inl (cI, 4096, .inl g_296) := by rw [ef_298]; exact up_self
        obtain ⟨x_302, ex_302⟩ : ∃ y : Int32, y_83 + 1 = y := ⟨_, rfl⟩
        have hx_302 : x_302.toInt = y_83.toInt + 1 := by rw [← ex_302, ad_I (by rw [ti_1]; omega) (by rw [ti_1]; omega), ti_1]
        have bx_302 : (1 ≤ x_302.toInt ∧ x_302.toInt ≤ 4096) := by constructor <;> omega
        refine lv_iinc (v := x_302) (lv' := [(4, .int x_302), (0, .ref o0), (1, .int p1), (2, .int p2), (3, .int p3)]) hx hb dX12_fewestPairs_19 hl (k := 0) rfl ex_302 (by decide) rfl (fun ls hl => ?_)
        refine lv_goto (tgt := 3) hx hb dX12_fewestPairs_22 (by decide) ?_
        exact ih_hloop_82 x_302 (by constructor <;> omega) f_298 hG _ _ hP hS hD hfr0 hfo_299 hfo_300 (by omega) ls (lv_sub hl [0, 1, 2, 3, 4] rfl)
  exact hloop_82 4097 0 (by decide) f hG _ _ hP hS hD hfr0 hfo_57 hfo_61 (by (try rw [ti_0]) <;> omega) ls hl
