set_option maxHeartbeats 8000000 in
set_option maxRecDepth 100000 in
theorem s_X12_triesOrders_k12 (l : Launch) (D : va_G) (cI cL cZ cR cG cH : ClassId) (Z : zT) (kd : Nat → Nat) (L : List Nat) (n_ : Nat) (f : Nat → va_E) (hG : GI (okc cI cL cZ cR cG cH L kd) kd L f) (o0 : Nat) (mo0 : o0 ∈ L) (ko0 : kd o0 = 12) (p1 : Int32) (bp1 : (0 ≤ p1.toInt ∧ p1.toInt ≤ 8)) (p2 : Int32) (bp2 : (0 ≤ p2.toInt ∧ p2.toInt ≤ 72)) (hpreo0 : ∀ (w53 : Int32), fldI (f o0) 53 = some w53 → p1.toInt ≤ w53.toInt) (hxpre0 : ∀ b9 g9, fldR (f o0) 0 = some b9 → f b9 = .inl (cI, 1560, .inl g9) → p2.toInt ≤ (g9 0).toInt + (g9 0).toInt * (g9 0).toInt) (hrk : 8 - p1.toInt < (n_ : Int)) : mPV l D cI cL cZ cR cG cH Z yX12_triesOrders cX12_triesOrders 5 none (7 + n_) (177 + n_ * 24) [.ref o0, .int p1, .int p2] L f (fun (f9 : Nat → va_E) => GI (okc cI cL cZ cR cG cH L kd) kd L f9 ∧ (∀ b, kd b ≠ 12 → kd b ≠ 589 → kd b ≠ 597 → kd b ≠ 598 → kd b ≠ 599 → kd b ≠ 607 → kd b ≠ 608 → kd b ≠ 609 → f9 b = f b) ∧ (∀ b, kd b = 12 → ∀ j, fldR (f9 b) j = fldR (f b) j) ∧ (∀ b, kd b = 12 → ∀ j, j ≠ 23 → j ≠ 43 → j ≠ 54 → fldI (f9 b) j = fldI (f b) j)) := by
  obtain ⟨dC, dI⟩ := D
  induction n_ generalizing f o0 mo0 ko0 p1 bp1 p2 bp2 hpreo0 w53 hxpre0 with
  | zero => exfalso; omega
  | succ n_ ih_ =>
    have ih_rec := ih_
    clear ih_
    refine Met.ofW (cc := cX12_triesOrders) (maxL := 5) (ret := none) (by decide) rfl ?_
    intro p e s m args below meth c s₁ B hml hv
    obtain ⟨rfl, hP, hK, hD0, hN, hZ⟩ := hv
    have hx := B.exec
    have hb := B.bytes
    have hr := B.returns
    have hU : ∀ w ∈ wsU, w.before _ s = true := fun w h => atoms_spec (ws := wU yX12_triesOrders cX12_triesOrders 5 none) B.pre w (List.mem_cons_of_mem _ h)
    have hown : s.vm.findClass RX12 = some m.cls := findClass_of_methodNamed B.named
    have hlocks := B.notSynchronized
    have hD := pl_in hD0
    have hS : va_S (fun q => q ∈ L) s.heap s.heap [] := va_S.rf
    have hl := lv_entry ([.ref o0, .int p1, .int p2]) (n := 5) (Nat.le_of_ble_eq_true rfl)
    rw [lg_entry_eq]
    generalize (lg_sl ([.ref o0, .int p1, .int p2]) ++ List.replicate (5 - (lg_sl ([.ref o0, .int p1, .int p2])).length) Slot.unset).toArray = ls at hl ⊢
    have hl : lv_has ls 5 [(0, .ref o0), (1, .int p1), (2, .int p2)] := hl
    have hfr0 : ∀ b, kd b ≠ 12 → kd b ≠ 589 → kd b ≠ 597 → kd b ≠ 598 → kd b ≠ 599 → kd b ≠ 607 → kd b ≠ 608 → kd b ≠ 609 → f b = f b := fun _ _ _ _ _ _ _ _ _ => rfl
    have hrA12 : ∀ b, kd b = 12 → ∀ j, fldR (f b) j = fldR (f b) j := fun _ _ _ => rfl
    have hfA12 : ∀ b, kd b = 12 → ∀ j, j ≠ 23 → j ≠ 43 → j ≠ 54 → fldI (f b) j = fldI (f b) j := fun _ _ _ _ _ _ => rfl
    obtain ⟨a_2, a_3, a_4, v_5, a_6, v_7, v_8, v_9, v_10, v_11, v_12, v_13, v_14, v_15, v_16, a_17, a_18, a_19, a_20, a_21, a_22, a_23, a_24, v_25, v_26, v_27, v_28, v_29, a_30, v_31, a_32, a_33, v_34, v_35, a_36, v_37, a_38, a_39, v_40, v_41, a_42, a_43, a_44, v_45, a_46, a_47, a_48, a_49, a_50, a_51, a_52, a_53, a_54, v_55, v_56, a_57, hfo_1, ⟨ma_2, ka_2⟩, ⟨ma_3, ka_3⟩, ⟨ma_4, ka_4⟩, bv_5, ⟨ma_6, ka_6⟩, bv_7, bv_8, bv_13, bv_14, bv_15, ⟨ma_17, ka_17⟩, ⟨ma_18, ka_18⟩, ⟨ma_19, ka_19⟩, ⟨ma_20, ka_20⟩, ⟨ma_21, ka_21⟩, ⟨ma_22, ka_22⟩, ⟨ma_23, ka_23⟩, ⟨ma_24, ka_24⟩, bv_25, bv_27, bv_29, ⟨ma_30, ka_30⟩, bv_31, ⟨ma_32, ka_32⟩, ⟨ma_33, ka_33⟩, bv_34, ⟨ma_36, ka_36⟩, bv_37, ⟨ma_38, ka_38⟩, ⟨ma_39, ka_39⟩, bv_40, ⟨ma_42, ka_42⟩, ⟨ma_43, ka_43⟩, ⟨ma_44, ka_44⟩, bv_45, ⟨ma_46, ka_46⟩, ⟨ma_47, ka_47⟩, ⟨ma_48, ka_48⟩, ⟨ma_49, ka_49⟩, ⟨ma_50, ka_50⟩, ⟨ma_51, ka_51⟩, ⟨ma_52, ka_52⟩, ⟨ma_53, ka_53⟩, ⟨ma_54, ka_54⟩, bv_55, ⟨ma_57, ka_57⟩⟩ := un_12 (hG _ mo0) ko0
    have bv_9 : ((-2147483648) ≤ v_9.toInt ∧ v_9.toInt ≤ 2147483647) := ⟨i32_lo _, i32_hi _⟩
    have bv_10 : ((-2147483648) ≤ v_10.toInt ∧ v_10.toInt ≤ 2147483647) := ⟨i32_lo _, i32_hi _⟩
    have bv_11 : ((-2147483648) ≤ v_11.toInt ∧ v_11.toInt ≤ 2147483647) := ⟨i32_lo _, i32_hi _⟩
    have bv_12 : ((-2147483648) ≤ v_12.toInt ∧ v_12.toInt ≤ 2147483647) := ⟨i32_lo _, i32_hi _⟩
    have bv_16 : ((-2147483648) ≤ v_16.toInt ∧ v_16.toInt ≤ 2147483647) := ⟨i32_lo _, i32_hi _⟩
    have bv_26 : ((-2147483648) ≤ v_26.toInt ∧ v_26.toInt ≤ 2147483647) := ⟨i32_lo _, i32_hi _⟩
    have bv_28 : ((-2147483648) ≤ v_28.toInt ∧ v_28.toInt ≤ 2147483647) := ⟨i32_lo _, i32_hi _⟩
    have bv_35 : ((-2147483648) ≤ v_35.toInt ∧ v_35.toInt ≤ 2147483647) := ⟨i32_lo _, i32_hi _⟩
    have bv_41 : ((-2147483648) ≤ v_41.toInt ∧ v_41.toInt ≤ 2147483647) := ⟨i32_lo _, i32_hi _⟩
    have bv_56 : ((-2147483648) ≤ v_56.toInt ∧ v_56.toInt ≤ 2147483647) := ⟨i32_lo _, i32_hi _⟩
    have hpo0 := hpreo0 v_55 (by rw [hfo_1]; rfl)
    obtain ⟨g_59, hfo_58, hbg_59⟩ := un_575 (hG _ ma_2) ka_2
    have hlw0 := hxpre0 a_2 g_59 (by rw [hfo_1]; rfl) hfo_58
    have hsq := lw_sq (L := (g_59 0).toInt) (hbg_59.1 0 (by decide) (by decide) (by decide))
    refine lv_iload_n hx hb dX12_triesOrders_0 rfl (lv_at hl 1 rfl) ?_
    refine lv_aload_n hx hb dX12_triesOrders_1 rfl (lv_at hl 0 rfl) ?_
    refine tk_getP (D := (dC, dI)) (ci := 12) (v := .int v_55) (C := RX12) (T := TX12) (N := 56) hx hb hU inlX12 hown hK hP mo0 hfo_1 rfl 53 (by decide) (hU _ wd_1241) (fun _ h9 => h9) rfl dX12_triesOrders_2 ?_
    refine lv_icmp_ne (tgt := 61) hx hb dX12_triesOrders_5 (by decide) (fun c_60 => ?_) (fun c_60 => ?_)
    · skip
      rw [← Int32.toInt_inj] at c_60
      have hclc_61 : (0 ≤ p1.toInt ∧ p1.toInt ≤ 7) := by constructor <;> omega
      refine lv_iconst (v := 0) hx hb dX12_triesOrders_61 (by decide) ?_
      refine lv_istore_n (lv' := [(3, .int 0), (0, .ref o0), (1, .int p1), (2, .int p2)]) hx hb dX12_triesOrders_62 rfl hl (by decide) rfl (fun ls hl => ?_)
      have hloop_68 : ∀ (n : Nat), ∀ (y_69 : Int32), (0 ≤ y_69.toInt ∧ y_69.toInt ≤ 8) → ∀ (f_71 : Nat → va_E), GI (okc cI cL cZ cR cG cH L kd) kd L f_71 → ∀ (H : Heap) (locs : List Loc), va_P (dC, dI) vwCl (va_pl L f_71) H → va_S (fun q => q ∈ L) s.heap H locs → va_D (fun q => q ∈ L) (va_pl L f_71) → (∀ b, kd b ≠ 12 → kd b ≠ 589 → kd b ≠ 597 → kd b ≠ 598 → kd b ≠ 599 → kd b ≠ 607 → kd b ≠ 608 → kd b ≠ 609 → f_71 b = f b) → (∀ b, kd b = 12 → ∀ j, fldR (f_71 b) j = fldR (f b) j) → (∀ b, kd b = 12 → ∀ j, j ≠ 23 → j ≠ 43 → j ≠ 54 → fldI (f_71 b) j = fldI (f b) j) → (f_71 a_2 = .inl (cI, 1560, .inl g_59)) → 8 - y_69.toInt < (n : Int) → ∀ (ls : Array Slot), lv_has ls 5 [(3, .int y_69), (0, .ref o0), (1, .int p1), (2, .int p2)] → W p l e (headSpec (wU yX12_triesOrders cX12_triesOrders 5 none) { frames := 7 + (n_ + 1), cells := 0, slots := 0, locals := 177 + (n_ + 1) * 24 }).room s m [.ref o0, .int p1, .int p2].toArray below meth c H locs 0 0 (MQ below (va_Qv (fun (f9 : Nat → va_E) => GI (okc cI cL cZ cR cG cH L kd) kd L f9 ∧ (∀ b, kd b ≠ 12 → kd b ≠ 589 → kd b ≠ 597 → kd b ≠ 598 → kd b ≠ 599 → kd b ≠ 607 → kd b ≠ 608 → kd b ≠ 609 → f9 b = f b) ∧ (∀ b, kd b = 12 → ∀ j, fldR (f9 b) j = fldR (f b) j) ∧ (∀ b, kd b = 12 → ∀ j, j ≠ 23 → j ≠ 43 → j ≠ 54 → fldI (f9 b) j = fldI (f b) j)) (qP (dC, dI) cI cL cZ cR cG cH L) (fun q => q ∈ L)) [.ref o0, .int p1, .int p2].toArray s 0 0 (fun q => q ∈ L)) (F0 m 63 ls []) := by
        intro n
        induction n with
        | zero => intro y_69 by_69 f_71 hG H locs hP hS hD hfr0 hrA12 hfA12 hfo_72 hmuhloop_68 ls hl; exfalso; omega
        | succ n ih_hloop_68 =>
          intro y_69 by_69 f_71 hG H locs hP hS hD hfr0 hrA12 hfA12 hfo_72 hmuhloop_68 ls hl
          refine lv_iload_n hx hb dX12_triesOrders_63 rfl (lv_at hl 0 rfl) ?_
          refine lv_aload_n hx hb dX12_triesOrders_64 rfl (lv_at hl 1 rfl) ?_
          obtain ⟨a_74, a_75, a_76, v_77, a_78, v_79, v_80, v_81, v_82, v_83, v_84, v_85, v_86, v_87, v_88, a_89, a_90, a_91, a_92, a_93, a_94, a_95, a_96, v_97, v_98, v_99, v_100, v_101, a_102, v_103, a_104, a_105, v_106, v_107, a_108, v_109, a_110, a_111, v_112, v_113, a_114, a_115, a_116, v_117, a_118, a_119, a_120, a_121, a_122, a_123, a_124, a_125, a_126, v_127, v_128, a_129, hfo_73, ⟨ma_74, ka_74⟩, ⟨ma_75, ka_75⟩, ⟨ma_76, ka_76⟩, bv_77, ⟨ma_78, ka_78⟩, bv_79, bv_80, bv_85, bv_86, bv_87, ⟨ma_89, ka_89⟩, ⟨ma_90, ka_90⟩, ⟨ma_91, ka_91⟩, ⟨ma_92, ka_92⟩, ⟨ma_93, ka_93⟩, ⟨ma_94, ka_94⟩, ⟨ma_95, ka_95⟩, ⟨ma_96, ka_96⟩, bv_97, bv_99, bv_101, ⟨ma_102, ka_102⟩, bv_103, ⟨ma_104, ka_104⟩, ⟨ma_105, ka_105⟩, bv_106, ⟨ma_108, ka_108⟩, bv_109, ⟨ma_110, ka_110⟩, ⟨ma_111, ka_111⟩, bv_112, ⟨ma_114, ka_114⟩, ⟨ma_115, ka_115⟩, ⟨ma_116, ka_116⟩, bv_117, ⟨ma_118, ka_118⟩, ⟨ma_119, ka_119⟩, ⟨ma_120, ka_120⟩, ⟨ma_121, ka_121⟩, ⟨ma_122, ka_122⟩, ⟨ma_123, ka_123⟩, ⟨ma_124, ka_124⟩, ⟨ma_125, ka_125⟩, ⟨ma_126, ka_126⟩, bv_127, ⟨ma_129, ka_129⟩⟩ := un_12 (hG _ mo0) ko0
          have bv_81 : ((-2147483648) ≤ v_81.toInt ∧ v_81.toInt ≤ 2147483647) := ⟨i32_lo _, i32_hi _⟩
          have bv_82 : ((-2147483648) ≤ v_82.toInt ∧ v_82.toInt ≤ 2147483647) := ⟨i32_lo _, i32_hi _⟩
          have bv_83 : ((-2147483648) ≤ v_83.toInt ∧ v_83.toInt ≤ 2147483647) := ⟨i32_lo _, i32_hi _⟩
          have bv_84 : ((-2147483648) ≤ v_84.toInt ∧ v_84.toInt ≤ 2147483647) := ⟨i32_lo _, i32_hi _⟩
          have bv_88 : ((-2147483648) ≤ v_88.toInt ∧ v_88.toInt ≤ 2147483647) := ⟨i32_lo _, i32_hi _⟩
          have bv_98 : ((-2147483648) ≤ v_98.toInt ∧ v_98.toInt ≤ 2147483647) := ⟨i32_lo _, i32_hi _⟩
          have bv_100 : ((-2147483648) ≤ v_100.toInt ∧ v_100.toInt ≤ 2147483647) := ⟨i32_lo _, i32_hi _⟩
          have bv_107 : ((-2147483648) ≤ v_107.toInt ∧ v_107.toInt ≤ 2147483647) := ⟨i32_lo _, i32_hi _⟩
          have bv_113 : ((-2147483648) ≤ v_113.toInt ∧ v_113.toInt ≤ 2147483647) := ⟨i32_lo _, i32_hi _⟩
          have bv_128 : ((-2147483648) ≤ v_128.toInt ∧ v_128.toInt ≤ 2147483647) := ⟨i32_lo _, i32_hi _⟩
          obtain ⟨rfl, rfl, rfl, rfl, rfl, rfl, rfl, rfl, rfl, rfl, rfl, rfl, rfl, rfl, rfl, rfl, rfl, rfl, rfl, rfl, rfl, rfl, rfl, rfl, rfl, rfl, rfl, rfl, rfl, rfl, rfl⟩ := re_12 hfo_1 hfo_73 (hrA12 o0 ko0)
          obtain rfl := ri_12_3 hfo_1 hfo_73 (hfA12 o0 ko0 3 (by decide) (by decide) (by decide))
          obtain rfl := ri_12_5 hfo_1 hfo_73 (hfA12 o0 ko0 5 (by decide) (by decide) (by decide))
          obtain rfl := ri_12_6 hfo_1 hfo_73 (hfA12 o0 ko0 6 (by decide) (by decide) (by decide))
          obtain rfl := ri_12_11 hfo_1 hfo_73 (hfA12 o0 ko0 11 (by decide) (by decide) (by decide))
          obtain rfl := ri_12_12 hfo_1 hfo_73 (hfA12 o0 ko0 12 (by decide) (by decide) (by decide))
          obtain rfl := ri_12_13 hfo_1 hfo_73 (hfA12 o0 ko0 13 (by decide) (by decide) (by decide))
          obtain rfl := ri_12_14 hfo_1 hfo_73 (hfA12 o0 ko0 14 (by decide) (by decide) (by decide))
          obtain rfl := ri_12_25 hfo_1 hfo_73 (hfA12 o0 ko0 25 (by decide) (by decide) (by decide))
          obtain rfl := ri_12_27 hfo_1 hfo_73 (hfA12 o0 ko0 27 (by decide) (by decide) (by decide))
          obtain rfl := ri_12_29 hfo_1 hfo_73 (hfA12 o0 ko0 29 (by decide) (by decide) (by decide))
          obtain rfl := ri_12_32 hfo_1 hfo_73 (hfA12 o0 ko0 32 (by decide) (by decide) (by decide))
          obtain rfl := ri_12_33 hfo_1 hfo_73 (hfA12 o0 ko0 33 (by decide) (by decide) (by decide))
          obtain rfl := ri_12_35 hfo_1 hfo_73 (hfA12 o0 ko0 35 (by decide) (by decide) (by decide))
          obtain rfl := ri_12_38 hfo_1 hfo_73 (hfA12 o0 ko0 38 (by decide) (by decide) (by decide))
          obtain rfl := ri_12_53 hfo_1 hfo_73 (hfA12 o0 ko0 53 (by decide) (by decide) (by decide))
          refine tk_getP (D := (dC, dI)) (ci := 12) (v := .int v_55) (C := RX12) (T := TX12) (N := 56) hx hb hU inlX12 hown hK hP mo0 hfo_73 rfl 53 (by decide) (hU _ wd_1241) (fun _ h9 => h9) rfl dX12_triesOrders_65 ?_
          refine lv_icmp_ge (tgt := 123) hx hb dX12_triesOrders_68 (by decide) (fun c_130 => ?_) (fun c_130 => ?_)
          · skip
            rw [Int32.le_iff_toInt_le] at c_130
            exact W.vret hx hb hr (fun t ht hW => ⟨⟨f_71, rfl, ⟨hG, hfr0, hrA12, hfA12⟩, by rw [ht]; exact hP, va_K.moved hW.alike hK, pl_in hD⟩, hS.F ht⟩) hS.2.2 dX12_triesOrders_123
          · skip
            rw [Int32.le_iff_toInt_le] at c_130
            refine lv_aload_n hx hb dX12_triesOrders_71 rfl (lv_at hl 1 rfl) ?_
            refine tk_getP (D := (dC, dI)) (ci := 12) (v := .ref a_54) (C := RX12) (T := TX12) (N := 56) hx hb hU inlX12 hown hK hP mo0 hfo_73 rfl 52 (by decide) (hU _ wd_203) (fun _ h9 => h9) rfl dX12_triesOrders_72 ?_
            refine lv_iload_n hx hb dX12_triesOrders_75 rfl (lv_at hl 0 rfl) ?_
            obtain ⟨g_132, hfo_131, hbg_132⟩ := un_609 (hG _ ma_54) ka_54
            refine tk_zldP hx hb hK hP 2 ma_54 hfo_131 rfl (vp_in_iff.mpr (by constructor <;> omega)) dX12_triesOrders_76 ?_
            refine lv_topi (fun x_133 ex_133 => ?_)
            have bx_133 : (0 ≤ x_133.toInt ∧ x_133.toInt ≤ 1) := by rw [ex_133]; exact hbg_132 _
            have hcut_137 : ∀ (f_135 : Nat → va_E), GI (okc cI cL cZ cR cG cH L kd) kd L f_135 → ∀ (H : Heap) (locs : List Loc), va_P (dC, dI) vwCl (va_pl L f_135) H → va_S (fun q => q ∈ L) s.heap H locs → va_D (fun q => q ∈ L) (va_pl L f_135) → (∀ b, kd b ≠ 12 → kd b ≠ 589 → kd b ≠ 597 → kd b ≠ 598 → kd b ≠ 599 → kd b ≠ 607 → kd b ≠ 608 → kd b ≠ 609 → f_135 b = f b) → (∀ b, kd b = 12 → ∀ j, fldR (f_135 b) j = fldR (f b) j) → (∀ b, kd b = 12 → ∀ j, j ≠ 23 → j ≠ 43 → j ≠ 54 → fldI (f_135 b) j = fldI (f b) j) → (f_135 a_2 = .inl (cI, 1560, .inl g_59)) → ∀ (ls : Array Slot), lv_has ls 5 [(3, .int y_69), (0, .ref o0), (1, .int p1), (2, .int p2)] → W p l e (headSpec (wU yX12_triesOrders cX12_triesOrders 5 none) { frames := 7 + (n_ + 1), cells := 0, slots := 0, locals := 177 + (n_ + 1) * 24 }).room s m [.ref o0, .int p1, .int p2].toArray below meth c H locs 0 0 (MQ below (va_Qv (fun (f9 : Nat → va_E) => GI (okc cI cL cZ cR cG cH L kd) kd L f9 ∧ (∀ b, kd b ≠ 12 → kd b ≠ 589 → kd b ≠ 597 → kd b ≠ 598 → kd b ≠ 599 → kd b ≠ 607 → kd b ≠ 608 → kd b ≠ 609 → f9 b = f b) ∧ (∀ b, kd b = 12 → ∀ j, fldR (f9 b) j = fldR (f b) j) ∧ (∀ b, kd b = 12 → ∀ j, j ≠ 23 → j ≠ 43 → j ≠ 54 → fldI (f9 b) j = fldI (f b) j)) (qP (dC, dI) cI cL cZ cR cG cH L) (fun q => q ∈ L)) [.ref o0, .int p1, .int p2].toArray s 0 0 (fun q => q ∈ L)) (F0 m 117 ls []) := by
              intro f_135 hG H locs hP hS hD hfr0 hrA12 hfA12 hfo_136 ls hl
              obtain ⟨x_138, ex_138⟩ : ∃ y : Int32, y_69 + 1 = y := ⟨_, rfl⟩
              have hx_138 : x_138.toInt = y_69.toInt + 1 := by rw [← ex_138, ad_I (by rw [ti_1]; omega) (by rw [ti_1]; omega), ti_1]
              have bx_138 : (1 ≤ x_138.toInt ∧ x_138.toInt ≤ 8) := by constructor <;> omega
              refine lv_iinc (v := x_138) (lv' := [(3, .int x_138), (0, .ref o0), (1, .int p1), (2, .int p2)]) hx hb dX12_triesOrders_117 hl (k := 0) rfl ex_138 (by decide) rfl (fun ls hl => ?_)
              refine lv_goto (tgt := 63) hx hb dX12_triesOrders_120 (by decide) ?_
              exact ih_hloop_68 x_138 (by constructor <;> omega) f_135 hG _ _ hP hS hD hfr0 hrA12 hfA12 hfo_136 (by omega) ls (lv_sub hl [0, 1, 2, 3] rfl)
            refine lv_if_eq (tgt := 83) hx hb dX12_triesOrders_77 (by decide) (fun c_139 => ?_) (fun c_139 => ?_)
            · skip
              rw [← Int32.toInt_inj, ti_0] at c_139
              refine lv_aload_n hx hb dX12_triesOrders_83 rfl (lv_at hl 1 rfl) ?_
              refine tk_getP (D := (dC, dI)) (ci := 12) (v := .ref a_54) (C := RX12) (T := TX12) (N := 56) hx hb hU inlX12 hown hK hP mo0 hfo_73 rfl 52 (by decide) (hU _ wd_203) (fun _ h9 => h9) rfl dX12_triesOrders_84 ?_
              refine lv_iload_n hx hb dX12_triesOrders_87 rfl (lv_at hl 0 rfl) ?_
              refine lv_iconst (v := 1) hx hb dX12_triesOrders_88 (by decide) ?_
              refine tk_zstP hx hb hK hP hD hS 2 ma_54 hfo_131 rfl (vp_in_iff.mpr (by constructor <;> omega)) (bt_n (by decide)) dX12_triesOrders_89 (fun H locs hP hD hS => ?_)
              obtain ⟨f_141, ef_141⟩ : ∃ y : Nat → va_E, y = va_up f_71 a_54 (.inl (cZ, 8, .inl (upd g_132 (Int32.toNatClampNeg y_69) 1))) := ⟨_, rfl⟩
              have hP : va_P (dC, dI) vwCl (va_pl L f_141) H := by rw [ef_141]; exact hP
              have hD : va_D (fun q => q ∈ L) (va_pl L f_141) := by rw [ef_141]; exact hD
              have hG : GI (okc cI cL cZ cR cG cH L kd) kd L f_141 := by rw [ef_141]; exact hG.set a_54 (mk_609 ka_54 ⟨_, rfl, okI_up hbg_132 (by decide) _⟩)
              have hfo_142 : f_141 a_2 = .inl (cI, 1560, .inl g_59) := by rw [ef_141, up_ne (kd_ne ka_54 ka_2 (by decide))]; exact hfo_72
              have hfo_143 : f_141 o0 = .inr (12, [.ref a_2, .ref a_3, .ref a_4, .int v_5, .ref a_6, .int v_7, .int v_8, .int v_81, .int v_82, .int v_83, .int v_84, .int v_13, .int v_14, .int v_15, .int v_16, .ref a_17, .ref a_18, .ref a_19, .ref a_20, .ref a_21, .ref a_22, .ref a_23, .ref a_24, .int v_97, .int v_98, .int v_27, .int v_100, .int v_29, .ref a_30, .int v_31, .ref a_32, .ref a_33, .int v_34, .int v_35, .ref a_36, .int v_37, .ref a_38, .ref a_39, .int v_40, .int v_113, .ref a_42, .ref a_43, .ref a_44, .int v_117, .ref a_46, .ref a_47, .ref a_48, .ref a_49, .ref a_50, .ref a_51, .ref a_52, .ref a_53, .ref a_54, .int v_55, .int v_128, .ref a_57]) := by rw [ef_141, up_ne (kd_ne ka_54 ko0 (by decide))]; exact hfo_73
              have hfr0 : ∀ b, kd b ≠ 12 → kd b ≠ 589 → kd b ≠ 597 → kd b ≠ 598 → kd b ≠ 599 → kd b ≠ 607 → kd b ≠ 608 → kd b ≠ 609 → f_141 b = f b := fun b q12 q589 q597 q598 q599 q607 q608 q609 => (congrFun ef_141 b).trans ((up_ne (fun e9 => q609 (by rw [e9]; exact ka_54))).trans (hfr0 b q12 q589 q597 q598 q599 q607 q608 q609))
              have hrA12 : ∀ b, kd b = 12 → ∀ j, fldR (f_141 b) j = fldR (f b) j := fun b kb j => (congrArg (fun x => fldR x j) ((congrFun ef_141 b).trans (up_ne (kd_ne ka_54 kb (by decide))))).trans (hrA12 b kb j)
              have hfA12 : ∀ b, kd b = 12 → ∀ j, j ≠ 23 → j ≠ 43 → j ≠ 54 → fldI (f_141 b) j = fldI (f b) j := fun b kb j n23 n43 n54 => (congrArg (fun x => fldI x j) ((congrFun ef_141 b).trans (up_ne (kd_ne ka_54 kb (by decide))))).trans (hfA12 b kb j n23 n43 n54)
              have hfo_144 : f_141 a_54 = .inl (cZ, 8, .inl (upd g_132 (Int32.toNatClampNeg y_69) 1)) := by rw [ef_141]; exact up_self
              refine lv_aload_n hx hb dX12_triesOrders_90 rfl (lv_at hl 1 rfl) ?_
              refine tk_getP (D := (dC, dI)) (ci := 12) (v := .ref a_52) (C := RX12) (T := TX12) (N := 56) hx hb hU inlX12 hown hK hP mo0 hfo_143 rfl 50 (by decide) (hU _ wd_201) (fun _ h9 => h9) rfl dX12_triesOrders_91 ?_
              refine lv_iload_n hx hb dX12_triesOrders_94 rfl (lv_at hl 2 rfl) ?_
              refine lv_aload_n hx hb dX12_triesOrders_95 rfl (lv_at hl 1 rfl) ?_
              refine tk_getP (D := (dC, dI)) (ci := 12) (v := .ref a_51) (C := RX12) (T := TX12) (N := 56) hx hb hU inlX12 hown hK hP mo0 hfo_143 rfl 49 (by decide) (hU _ wd_200) (fun _ h9 => h9) rfl dX12_triesOrders_96 ?_
              refine lv_iload_n hx hb dX12_triesOrders_99 rfl (lv_at hl 0 rfl) ?_
              obtain ⟨g_146, hfo_145, hbg_146⟩ := un_606 (hG _ ma_51) ka_51
              refine tk_ildP hx hb hK hP 0 ma_51 hfo_145 rfl (vp_in_iff.mpr (by constructor <;> omega)) dX12_triesOrders_100 ?_
              refine lv_topi (fun x_147 ex_147 => ?_)
              have bx_147 : (0 ≤ x_147.toInt ∧ x_147.toInt ≤ 7) := by rw [ex_147]; exact hbg_146 _
              obtain ⟨g_149, hfo_148, hbg_149⟩ := un_607 (hG _ ma_52) ka_52
              refine tk_istP hx hb hK hP hD hS 0 ma_52 hfo_148 rfl (vp_in_iff.mpr (by constructor <;> omega)) dX12_triesOrders_101 (fun H locs hP hD hS => ?_)
              obtain ⟨f_151, ef_151⟩ : ∃ y : Nat → va_E, y = va_up f_141 a_52 (.inl (cI, 8, .inl (upd g_149 (Int32.toNatClampNeg p1) x_147))) := ⟨_, rfl⟩
              have hP : va_P (dC, dI) vwCl (va_pl L f_151) H := by rw [ef_151]; exact hP
              have hD : va_D (fun q => q ∈ L) (va_pl L f_151) := by rw [ef_151]; exact hD
              have hG : GI (okc cI cL cZ cR cG cH L kd) kd L f_151 := by rw [ef_151]; exact hG.set a_52 (mk_607 ka_52 ⟨_, rfl, okI_up hbg_149 (by constructor <;> omega) _⟩)
              have hfo_152 : f_151 a_2 = .inl (cI, 1560, .inl g_59) := by rw [ef_151, up_ne (kd_ne ka_52 ka_2 (by decide))]; exact hfo_142
              have hfo_153 : f_151 o0 = .inr (12, [.ref a_2, .ref a_3, .ref a_4, .int v_5, .ref a_6, .int v_7, .int v_8, .int v_81, .int v_82, .int v_83, .int v_84, .int v_13, .int v_14, .int v_15, .int v_16, .ref a_17, .ref a_18, .ref a_19, .ref a_20, .ref a_21, .ref a_22, .ref a_23, .ref a_24, .int v_97, .int v_98, .int v_27, .int v_100, .int v_29, .ref a_30, .int v_31, .ref a_32, .ref a_33, .int v_34, .int v_35, .ref a_36, .int v_37, .ref a_38, .ref a_39, .int v_40, .int v_113, .ref a_42, .ref a_43, .ref a_44, .int v_117, .ref a_46, .ref a_47, .ref a_48, .ref a_49, .ref a_50, .ref a_51, .ref a_52, .ref a_53, .ref a_54, .int v_55, .int v_128, .ref a_57]) := by rw [ef_151, up_ne (kd_ne ka_52 ko0 (by decide))]; exact hfo_143
              have hfo_154 : f_151 a_51 = .inl (cI, 8, .inl g_146) := by rw [ef_151, up_ne (kd_ne ka_52 ka_51 (by decide))]; exact hfo_145
              have hfr0 : ∀ b, kd b ≠ 12 → kd b ≠ 589 → kd b ≠ 597 → kd b ≠ 598 → kd b ≠ 599 → kd b ≠ 607 → kd b ≠ 608 → kd b ≠ 609 → f_151 b = f b := fun b q12 q589 q597 q598 q599 q607 q608 q609 => (congrFun ef_151 b).trans ((up_ne (fun e9 => q607 (by rw [e9]; exact ka_52))).trans (hfr0 b q12 q589 q597 q598 q599 q607 q608 q609))
              have hrA12 : ∀ b, kd b = 12 → ∀ j, fldR (f_151 b) j = fldR (f b) j := fun b kb j => (congrArg (fun x => fldR x j) ((congrFun ef_151 b).trans (up_ne (kd_ne ka_52 kb (by decide))))).trans (hrA12 b kb j)
              have hfA12 : ∀ b, kd b = 12 → ∀ j, j ≠ 23 → j ≠ 43 → j ≠ 54 → fldI (f_151 b) j = fldI (f b) j := fun b kb j n23 n43 n54 => (congrArg (fun x => fldI x j) ((congrFun ef_151 b).trans (up_ne (kd_ne ka_52 kb (by decide))))).trans (hfA12 b kb j n23 n43 n54)
              have hfo_155 : f_151 a_52 = .inl (cI, 8, .inl (upd g_149 (Int32.toNatClampNeg p1) x_147)) := by rw [ef_151]; exact up_self
              refine lv_aload_n hx hb dX12_triesOrders_102 rfl (lv_at hl 1 rfl) ?_
              refine lv_iload_n hx hb dX12_triesOrders_103 rfl (lv_at hl 2 rfl) ?_
              refine lv_iconst (v := 1) hx hb dX12_triesOrders_104 (by decide) ?_
              refine lv_iadd hx hb dX12_triesOrders_105 ?_
              refine lv_topi (fun x_156 ex_156 => ?_)
              have hx_156 : x_156.toInt = p1.toInt + 1 := by rw [ex_156, ad_I (by rw [ti_1]; omega) (by rw [ti_1]; omega), ti_1]
              have bx_156 : (1 ≤ x_156.toInt ∧ x_156.toInt ≤ 8) := by constructor <;> omega
              refine lv_iload_n hx hb dX12_triesOrders_106 rfl (lv_at hl 3 rfl) ?_
              refine tk_VvP (As := [.int x_156, .int p2]) (rest := []) (n := 2) hx hb hml hown hU hN hZ (ih_rec f_151 hG o0 mo0 ko0 x_156 (by constructor <;> omega) p2 (by constructor <;> omega) (by intro w53 e53; rw [hfo_153] at e53; obtain rfl := Option.some.inj e53; omega) (fun b9 g9 h1 h2 => by rw [hfo_153] at h1; obtain rfl := Option.some.inj h1; rw [hfo_152] at h2; cases h2; omega) (by omega)) wd_1247 wd_1248 wd_1249 wd_5 wd_1250 (by decide +kernel) ⟨(show (7 + n_) + 1 ≤ 7 + (n_ + 1) by omega), (show 8 + (5 + 11) + (177 + n_ * 24) ≤ 177 + (n_ + 1) * 24 by omega)⟩ hK hP hD hS mo0 hfo_153 12 rfl rfl rfl hl.1 rfl (Nat.le_of_ble_eq_true rfl) dX12_triesOrders_107 ⟨Nat.le_of_ble_eq_true rfl, Nat.le_of_ble_eq_true rfl⟩ (fun f_158 H locs hw hP hD hS => ?_)
              obtain ⟨hG, hkc_159, hra_160, hfa_161⟩ := hw
              have hfo_163 : f_158 a_2 = .inl (cI, 1560, .inl g_59) := by rw [hkc_159 a_2 (by rw [ka_2]; decide) (by rw [ka_2]; decide) (by rw [ka_2]; decide) (by rw [ka_2]; decide) (by rw [ka_2]; decide) (by rw [ka_2]; decide) (by rw [ka_2]; decide) (by rw [ka_2]; decide)]; exact hfo_152
              have hfo_164 : f_158 a_51 = .inl (cI, 8, .inl g_146) := by rw [hkc_159 a_51 (by rw [ka_51]; decide) (by rw [ka_51]; decide) (by rw [ka_51]; decide) (by rw [ka_51]; decide) (by rw [ka_51]; decide) (by rw [ka_51]; decide) (by rw [ka_51]; decide) (by rw [ka_51]; decide)]; exact hfo_154
              have hfr0 : ∀ b, kd b ≠ 12 → kd b ≠ 589 → kd b ≠ 597 → kd b ≠ 598 → kd b ≠ 599 → kd b ≠ 607 → kd b ≠ 608 → kd b ≠ 609 → f_158 b = f b := fun b q12 q589 q597 q598 q599 q607 q608 q609 => (hkc_159 b q12 q589 q597 q598 q599 q607 q608 q609).trans (hfr0 b q12 q589 q597 q598 q599 q607 q608 q609)
              have hrA12 : ∀ b, kd b = 12 → ∀ j, fldR (f_158 b) j = fldR (f b) j := fun b kb j => (hra_160 b kb j).trans (hrA12 b kb j)
              have hfA12 : ∀ b, kd b = 12 → ∀ j, j ≠ 23 → j ≠ 43 → j ≠ 54 → fldI (f_158 b) j = fldI (f b) j := fun b kb j n23 n43 n54 => (hfa_161 b kb j n23 n43 n54).trans (hfA12 b kb j n23 n43 n54)
              obtain ⟨a_166, a_167, a_168, v_169, a_170, v_171, v_172, v_173, v_174, v_175, v_176, v_177, v_178, v_179, v_180, a_181, a_182, a_183, a_184, a_185, a_186, a_187, a_188, v_189, v_190, v_191, v_192, v_193, a_194, v_195, a_196, a_197, v_198, v_199, a_200, v_201, a_202, a_203, v_204, v_205, a_206, a_207, a_208, v_209, a_210, a_211, a_212, a_213, a_214, a_215, a_216, a_217, a_218, v_219, v_220, a_221, hfo_165, ⟨ma_166, ka_166⟩, ⟨ma_167, ka_167⟩, ⟨ma_168, ka_168⟩, bv_169, ⟨ma_170, ka_170⟩, bv_171, bv_172, bv_177, bv_178, bv_179, ⟨ma_181, ka_181⟩, ⟨ma_182, ka_182⟩, ⟨ma_183, ka_183⟩, ⟨ma_184, ka_184⟩, ⟨ma_185, ka_185⟩, ⟨ma_186, ka_186⟩, ⟨ma_187, ka_187⟩, ⟨ma_188, ka_188⟩, bv_189, bv_191, bv_193, ⟨ma_194, ka_194⟩, bv_195, ⟨ma_196, ka_196⟩, ⟨ma_197, ka_197⟩, bv_198, ⟨ma_200, ka_200⟩, bv_201, ⟨ma_202, ka_202⟩, ⟨ma_203, ka_203⟩, bv_204, ⟨ma_206, ka_206⟩, ⟨ma_207, ka_207⟩, ⟨ma_208, ka_208⟩, bv_209, ⟨ma_210, ka_210⟩, ⟨ma_211, ka_211⟩, ⟨ma_212, ka_212⟩, ⟨ma_213, ka_213⟩, ⟨ma_214, ka_214⟩, ⟨ma_215, ka_215⟩, ⟨ma_216, ka_216⟩, ⟨ma_217, ka_217⟩, ⟨ma_218, ka_218⟩, bv_219, ⟨ma_221, ka_221⟩⟩ := un_12 (hG _ mo0) ko0
              have bv_173 : ((-2147483648) ≤ v_173.toInt ∧ v_173.toInt ≤ 2147483647) := ⟨i32_lo _, i32_hi _⟩
              have bv_174 : ((-2147483648) ≤ v_174.toInt ∧ v_174.toInt ≤ 2147483647) := ⟨i32_lo _, i32_hi _⟩
              have bv_175 : ((-2147483648) ≤ v_175.toInt ∧ v_175.toInt ≤ 2147483647) := ⟨i32_lo _, i32_hi _⟩
              have bv_176 : ((-2147483648) ≤ v_176.toInt ∧ v_176.toInt ≤ 2147483647) := ⟨i32_lo _, i32_hi _⟩
              have bv_180 : ((-2147483648) ≤ v_180.toInt ∧ v_180.toInt ≤ 2147483647) := ⟨i32_lo _, i32_hi _⟩
              have bv_190 : ((-2147483648) ≤ v_190.toInt ∧ v_190.toInt ≤ 2147483647) := ⟨i32_lo _, i32_hi _⟩
              have bv_192 : ((-2147483648) ≤ v_192.toInt ∧ v_192.toInt ≤ 2147483647) := ⟨i32_lo _, i32_hi _⟩
              have bv_199 : ((-2147483648) ≤ v_199.toInt ∧ v_199.toInt ≤ 2147483647) := ⟨i32_lo _, i32_hi _⟩
              have bv_205 : ((-2147483648) ≤ v_205.toInt ∧ v_205.toInt ≤ 2147483647) := ⟨i32_lo _, i32_hi _⟩
              have bv_220 : ((-2147483648) ≤ v_220.toInt ∧ v_220.toInt ≤ 2147483647) := ⟨i32_lo _, i32_hi _⟩
              obtain ⟨rfl, rfl, rfl, rfl, rfl, rfl, rfl, rfl, rfl, rfl, rfl, rfl, rfl, rfl, rfl, rfl, rfl, rfl, rfl, rfl, rfl, rfl, rfl, rfl, rfl, rfl, rfl, rfl, rfl, rfl, rfl⟩ := re_12 hfo_1 hfo_165 (hrA12 o0 ko0)
              obtain rfl := ri_12_3 hfo_1 hfo_165 (hfA12 o0 ko0 3 (by decide) (by decide) (by decide))
              obtain rfl := ri_12_5 hfo_1 hfo_165 (hfA12 o0 ko0 5 (by decide) (by decide) (by decide))
              obtain rfl := ri_12_6 hfo_1 hfo_165 (hfA12 o0 ko0 6 (by decide) (by decide) (by decide))
              obtain rfl := ri_12_11 hfo_1 hfo_165 (hfA12 o0 ko0 11 (by decide) (by decide) (by decide))
              obtain rfl := ri_12_12 hfo_1 hfo_165 (hfA12 o0 ko0 12 (by decide) (by decide) (by decide))
              obtain rfl := ri_12_13 hfo_1 hfo_165 (hfA12 o0 ko0 13 (by decide) (by decide) (by decide))
              obtain rfl := ri_12_14 hfo_1 hfo_165 (hfA12 o0 ko0 14 (by decide) (by decide) (by decide))
              obtain rfl := ri_12_25 hfo_1 hfo_165 (hfA12 o0 ko0 25 (by decide) (by decide) (by decide))
              obtain rfl := ri_12_27 hfo_1 hfo_165 (hfA12 o0 ko0 27 (by decide) (by decide) (by decide))
              obtain rfl := ri_12_29 hfo_1 hfo_165 (hfA12 o0 ko0 29 (by decide) (by decide) (by decide))
              obtain rfl := ri_12_32 hfo_1 hfo_165 (hfA12 o0 ko0 32 (by decide) (by decide) (by decide))
              obtain rfl := ri_12_33 hfo_1 hfo_165 (hfA12 o0 ko0 33 (by decide) (by decide) (by decide))
              obtain rfl := ri_12_35 hfo_1 hfo_165 (hfA12 o0 ko0 35 (by decide) (by decide) (by decide))
              obtain rfl := ri_12_38 hfo_1 hfo_165 (hfA12 o0 ko0 38 (by decide) (by decide) (by decide))
              obtain rfl := ri_12_53 hfo_1 hfo_165 (hfA12 o0 ko0 53 (by decide) (by decide) (by decide))
              refine lv_aload_n hx hb dX12_triesOrders_110 rfl (lv_at hl 1 rfl) ?_
              refine tk_getP (D := (dC, dI)) (ci := 12) (v := .ref a_54) (C := RX12) (T := TX12) (N := 56) hx hb hU inlX12 hown hK hP mo0 hfo_165 rfl 52 (by decide) (hU _ wd_203) (fun _ h9 => h9) rfl dX12_triesOrders_111 ?_
              refine lv_iload_n hx hb dX12_triesOrders_114 rfl (lv_at hl 0 rfl) ?_
              refine lv_iconst (v := 0) hx hb dX12_triesOrders_115 (by decide) ?_
              obtain ⟨g_223, hfo_222, hbg_223⟩ := un_609 (hG _ ma_54) ka_54
              refine tk_zstP hx hb hK hP hD hS 2 ma_54 hfo_222 rfl (vp_in_iff.mpr (by constructor <;> omega)) (bt_n (by decide)) dX12_triesOrders_116 (fun H locs hP hD hS => ?_)
              obtain ⟨f_225, ef_225⟩ : ∃ y : Nat → va_E, y = va_up f_158 a_54 (.inl (cZ, 8, .inl (upd g_223 (Int32.toNatClampNeg y_69) 0))) := ⟨_, rfl⟩
              have hP : va_P (dC, dI) vwCl (va_pl L f_225) H := by rw [ef_225]; exact hP
              have hD : va_D (fun q => q ∈ L) (va_pl L f_225) := by rw [ef_225]; exact hD
              have hG : GI (okc cI cL cZ cR cG cH L kd) kd L f_225 := by rw [ef_225]; exact hG.set a_54 (mk_609 ka_54 ⟨_, rfl, okI_up hbg_223 (by decide) _⟩)
              have hfo_226 : f_225 a_2 = .inl (cI, 1560, .inl g_59) := by rw [ef_225, up_ne (kd_ne ka_54 ka_2 (by decide))]; exact hfo_163
              have hfo_227 : f_225 a_51 = .inl (cI, 8, .inl g_146) := by rw [ef_225, up_ne (kd_ne ka_54 ka_51 (by decide))]; exact hfo_164
              have hfo_228 : f_225 o0 = .inr (12, [.ref a_2, .ref a_3, .ref a_4, .int v_5, .ref a_6, .int v_7, .int v_8, .int v_173, .int v_174, .int v_175, .int v_176, .int v_13, .int v_14, .int v_15, .int v_16, .ref a_17, .ref a_18, .ref a_19, .ref a_20, .ref a_21, .ref a_22, .ref a_23, .ref a_24, .int v_189, .int v_190, .int v_27, .int v_192, .int v_29, .ref a_30, .int v_31, .ref a_32, .ref a_33, .int v_34, .int v_35, .ref a_36, .int v_37, .ref a_38, .ref a_39, .int v_40, .int v_205, .ref a_42, .ref a_43, .ref a_44, .int v_209, .ref a_46, .ref a_47, .ref a_48, .ref a_49, .ref a_50, .ref a_51, .ref a_52, .ref a_53, .ref a_54, .int v_55, .int v_220, .ref a_57]) := by rw [ef_225, up_ne (kd_ne ka_54 ko0 (by decide))]; exact hfo_165
              have hfr0 : ∀ b, kd b ≠ 12 → kd b ≠ 589 → kd b ≠ 597 → kd b ≠ 598 → kd b ≠ 599 → kd b ≠ 607 → kd b ≠ 608 → kd b ≠ 609 → f_225 b = f b := fun b q12 q589 q597 q598 q599 q607 q608 q609 => (congrFun ef_225 b).trans ((up_ne (fun e9 => q609 (by rw [e9]; exact ka_54))).trans (hfr0 b q12 q589 q597 q598 q599 q607 q608 q609))
              have hrA12 : ∀ b, kd b = 12 → ∀ j, fldR (f_225 b) j = fldR (f b) j := fun b kb j => (congrArg (fun x => fldR x j) ((congrFun ef_225 b).trans (up_ne (kd_ne ka_54 kb (by decide))))).trans (hrA12 b kb j)
              have hfA12 : ∀ b, kd b = 12 → ∀ j, j ≠ 23 → j ≠ 43 → j ≠ 54 → fldI (f_225 b) j = fldI (f b) j := fun b kb j n23 n43 n54 => (congrArg (fun x => fldI x j) ((congrFun ef_225 b).trans (up_ne (kd_ne ka_54 kb (by decide))))).trans (hfA12 b kb j n23 n43 n54)
              have hfo_229 : f_225 a_54 = .inl (cZ, 8, .inl (upd g_223 (Int32.toNatClampNeg y_69) 0)) := by rw [ef_225]; exact up_self
              exact hcut_137 f_225 hG _ _ hP hS hD hfr0 hrA12 hfA12 hfo_226 ls (lv_sub hl [0, 1, 2, 3] rfl)
            · skip
              rw [← Int32.toInt_inj, ti_0] at c_139
              refine lv_goto (tgt := 117) hx hb dX12_triesOrders_80 (by decide) ?_
              exact hcut_137 f_71 hG _ _ hP hS hD hfr0 hrA12 hfA12 hfo_72 ls (lv_sub hl [0, 1, 2, 3] rfl)
      exact hloop_68 9 0 (by decide) f hG _ _ hP hS hD hfr0 hrA12 hfA12 hfo_58 (by (try rw [ti_0]) <;> omega) ls hl
    · skip
      rw [← Int32.toInt_inj] at c_60
      refine lv_aload_n hx hb dX12_triesOrders_8 rfl (lv_at hl 0 rfl) ?_
      refine lv_iload_n hx hb dX12_triesOrders_9 rfl (lv_at hl 2 rfl) ?_
      refine tk_ViP (As := [.int p2]) (rest := []) (n := 1) hx hb hml hown hU hN hZ (s_X12_agreeing_k12 l (dC, dI) cI cL cZ cR cG cH Z kd L f hG o0 mo0 ko0 p2 (by constructor <;> omega) (fun b9 g9 h1 h2 => by rw [hfo_1] at h1; obtain rfl := Option.some.inj h1; rw [hfo_58] at h2; cases h2; omega)) wd_1251 wd_1252 wd_1253 wd_5 wd_1254 (by decide +kernel) ⟨(show 6 + 1 ≤ 7 + (n_ + 1) by omega), (show 8 + (6 + 11) + 152 ≤ 177 + (n_ + 1) * 24 by omega)⟩ hK hP hD hS mo0 hfo_1 12 rfl rfl rfl hl.1 rfl (Nat.le_of_ble_eq_true rfl) dX12_triesOrders_10 ⟨Nat.le_of_ble_eq_true rfl, Nat.le_of_ble_eq_true rfl⟩ (fun x_230 f_231 H locs hw hP hD hS => ?_)
      obtain ⟨hG, bx_230, hkc_232, hra_233, hfa_234⟩ := hw
      have hfo_236 : f_231 a_2 = .inl (cI, 1560, .inl g_59) := by rw [hkc_232 a_2 (by rw [ka_2]; decide) (by rw [ka_2]; decide) (by rw [ka_2]; decide) (by rw [ka_2]; decide) (by rw [ka_2]; decide)]; exact hfo_58
      have hfr0 : ∀ b, kd b ≠ 12 → kd b ≠ 589 → kd b ≠ 597 → kd b ≠ 598 → kd b ≠ 599 → kd b ≠ 607 → kd b ≠ 608 → kd b ≠ 609 → f_231 b = f b := fun b q12 q589 q597 q598 q599 q607 q608 q609 => (hkc_232 b q12 q589 q597 q598 q599).trans (hfr0 b q12 q589 q597 q598 q599 q607 q608 q609)
      have hrA12 : ∀ b, kd b = 12 → ∀ j, fldR (f_231 b) j = fldR (f b) j := fun b kb j => (hra_233 b kb j).trans (hrA12 b kb j)
      have hfA12 : ∀ b, kd b = 12 → ∀ j, j ≠ 23 → j ≠ 43 → j ≠ 54 → fldI (f_231 b) j = fldI (f b) j := fun b kb j n23 n43 n54 => (hfa_234 b kb j n23 n43).trans (hfA12 b kb j n23 n43 n54)
      obtain ⟨a_238, a_239, a_240, v_241, a_242, v_243, v_244, v_245, v_246, v_247, v_248, v_249, v_250, v_251, v_252, a_253, a_254, a_255, a_256, a_257, a_258, a_259, a_260, v_261, v_262, v_263, v_264, v_265, a_266, v_267, a_268, a_269, v_270, v_271, a_272, v_273, a_274, a_275, v_276, v_277, a_278, a_279, a_280, v_281, a_282, a_283, a_284, a_285, a_286, a_287, a_288, a_289, a_290, v_291, v_292, a_293, hfo_237, ⟨ma_238, ka_238⟩, ⟨ma_239, ka_239⟩, ⟨ma_240, ka_240⟩, bv_241, ⟨ma_242, ka_242⟩, bv_243, bv_244, bv_249, bv_250, bv_251, ⟨ma_253, ka_253⟩, ⟨ma_254, ka_254⟩, ⟨ma_255, ka_255⟩, ⟨ma_256, ka_256⟩, ⟨ma_257, ka_257⟩, ⟨ma_258, ka_258⟩, ⟨ma_259, ka_259⟩, ⟨ma_260, ka_260⟩, bv_261, bv_263, bv_265, ⟨ma_266, ka_266⟩, bv_267, ⟨ma_268, ka_268⟩, ⟨ma_269, ka_269⟩, bv_270, ⟨ma_272, ka_272⟩, bv_273, ⟨ma_274, ka_274⟩, ⟨ma_275, ka_275⟩, bv_276, ⟨ma_278, ka_278⟩, ⟨ma_279, ka_279⟩, ⟨ma_280, ka_280⟩, bv_281, ⟨ma_282, ka_282⟩, ⟨ma_283, ka_283⟩, ⟨ma_284, ka_284⟩, ⟨ma_285, ka_285⟩, ⟨ma_286, ka_286⟩, ⟨ma_287, ka_287⟩, ⟨ma_288, ka_288⟩, ⟨ma_289, ka_289⟩, ⟨ma_290, ka_290⟩, bv_291, ⟨ma_293, ka_293⟩⟩ := un_12 (hG _ mo0) ko0
      have bv_245 : ((-2147483648) ≤ v_245.toInt ∧ v_245.toInt ≤ 2147483647) := ⟨i32_lo _, i32_hi _⟩
      have bv_246 : ((-2147483648) ≤ v_246.toInt ∧ v_246.toInt ≤ 2147483647) := ⟨i32_lo _, i32_hi _⟩
      have bv_247 : ((-2147483648) ≤ v_247.toInt ∧ v_247.toInt ≤ 2147483647) := ⟨i32_lo _, i32_hi _⟩
      have bv_248 : ((-2147483648) ≤ v_248.toInt ∧ v_248.toInt ≤ 2147483647) := ⟨i32_lo _, i32_hi _⟩
      have bv_252 : ((-2147483648) ≤ v_252.toInt ∧ v_252.toInt ≤ 2147483647) := ⟨i32_lo _, i32_hi _⟩
      have bv_262 : ((-2147483648) ≤ v_262.toInt ∧ v_262.toInt ≤ 2147483647) := ⟨i32_lo _, i32_hi _⟩
      have bv_264 : ((-2147483648) ≤ v_264.toInt ∧ v_264.toInt ≤ 2147483647) := ⟨i32_lo _, i32_hi _⟩
      have bv_271 : ((-2147483648) ≤ v_271.toInt ∧ v_271.toInt ≤ 2147483647) := ⟨i32_lo _, i32_hi _⟩
      have bv_277 : ((-2147483648) ≤ v_277.toInt ∧ v_277.toInt ≤ 2147483647) := ⟨i32_lo _, i32_hi _⟩
      have bv_292 : ((-2147483648) ≤ v_292.toInt ∧ v_292.toInt ≤ 2147483647) := ⟨i32_lo _, i32_hi _⟩
      obtain ⟨rfl, rfl, rfl, rfl, rfl, rfl, rfl, rfl, rfl, rfl, rfl, rfl, rfl, rfl, rfl, rfl, rfl, rfl, rfl, rfl, rfl, rfl, rfl, rfl, rfl, rfl, rfl, rfl, rfl, rfl, rfl⟩ := re_12 hfo_1 hfo_237 (hrA12 o0 ko0)
      obtain rfl := ri_12_3 hfo_1 hfo_237 (hfA12 o0 ko0 3 (by decide) (by decide) (by decide))
      obtain rfl := ri_12_5 hfo_1 hfo_237 (hfA12 o0 ko0 5 (by decide) (by decide) (by decide))
      obtain rfl := ri_12_6 hfo_1 hfo_237 (hfA12 o0 ko0 6 (by decide) (by decide) (by decide))
      obtain rfl := ri_12_11 hfo_1 hfo_237 (hfA12 o0 ko0 11 (by decide) (by decide) (by decide))
      obtain rfl := ri_12_12 hfo_1 hfo_237 (hfA12 o0 ko0 12 (by decide) (by decide) (by decide))
      obtain rfl := ri_12_13 hfo_1 hfo_237 (hfA12 o0 ko0 13 (by decide) (by decide) (by decide))
      obtain rfl := ri_12_14 hfo_1 hfo_237 (hfA12 o0 ko0 14 (by decide) (by decide) (by decide))
      obtain rfl := ri_12_25 hfo_1 hfo_237 (hfA12 o0 ko0 25 (by decide) (by decide) (by decide))
      obtain rfl := ri_12_27 hfo_1 hfo_237 (hfA12 o0 ko0 27 (by decide) (by decide) (by decide))
      obtain rfl := ri_12_29 hfo_1 hfo_237 (hfA12 o0 ko0 29 (by decide) (by decide) (by decide))
      obtain rfl := ri_12_32 hfo_1 hfo_237 (hfA12 o0 ko0 32 (by decide) (by decide) (by decide))
      obtain rfl := ri_12_33 hfo_1 hfo_237 (hfA12 o0 ko0 33 (by decide) (by decide) (by decide))
      obtain rfl := ri_12_35 hfo_1 hfo_237 (hfA12 o0 ko0 35 (by decide) (by decide) (by decide))
      obtain rfl := ri_12_38 hfo_1 hfo_237 (hfA12 o0 ko0 38 (by decide) (by decide) (by decide))
      obtain rfl := ri_12_53 hfo_1 hfo_237 (hfA12 o0 ko0 53 (by decide) (by decide) (by decide))
      refine lv_istore_n (lv' := [(3, .int x_230), (0, .ref o0), (1, .int p1), (2, .int p2)]) hx hb dX12_triesOrders_13 rfl hl (by decide) rfl (fun ls hl => ?_)
      refine lv_iload_n hx hb dX12_triesOrders_14 rfl (lv_at hl 0 rfl) ?_
      refine lv_aload_n hx hb dX12_triesOrders_15 rfl (lv_at hl 1 rfl) ?_
      refine tk_getP (D := (dC, dI)) (ci := 12) (v := .int v_292) (C := RX12) (T := TX12) (N := 56) hx hb hU inlX12 hown hK hP mo0 hfo_237 rfl 54 (by decide) (hU _ wd_1242) (fun _ h9 => h9) rfl dX12_triesOrders_16 ?_
      refine lv_icmp_gt (tgt := 23) hx hb dX12_triesOrders_19 (by decide) (fun c_294 => ?_) (fun c_294 => ?_)
      · skip
        rw [Int32.lt_iff_toInt_lt] at c_294
        refine lv_aload_n hx hb dX12_triesOrders_23 rfl (lv_at hl 1 rfl) ?_
        refine lv_iload_n hx hb dX12_triesOrders_24 rfl (lv_at hl 0 rfl) ?_
        refine tk_putP (D := (dC, dI)) (ci := 12) (v := .int x_230) (ty := .int) (C := RX12) (T := TX12) (N := 56) hx hb hU inlX12 tyX12 tyX12_ok nmX12 hown hK hP hD hS mo0 hfo_237 rfl 54 (by decide) (hU _ wd_1242) (fun _ h9 => h9) rfl (by decide +kernel) rfl rfl (Nat.le_of_ble_eq_true rfl) dX12_triesOrders_25 (fun H locs hP hD hS => ?_)
        obtain ⟨f_296, ef_296⟩ : ∃ y : Nat → va_E, y = va_up f_231 o0 (.inr (12, [.ref a_2, .ref a_3, .ref a_4, .int v_5, .ref a_6, .int v_7, .int v_8, .int v_245, .int v_246, .int v_247, .int v_248, .int v_13, .int v_14, .int v_15, .int v_16, .ref a_17, .ref a_18, .ref a_19, .ref a_20, .ref a_21, .ref a_22, .ref a_23, .ref a_24, .int v_261, .int v_262, .int v_27, .int v_264, .int v_29, .ref a_30, .int v_31, .ref a_32, .ref a_33, .int v_34, .int v_35, .ref a_36, .int v_37, .ref a_38, .ref a_39, .int v_40, .int v_277, .ref a_42, .ref a_43, .ref a_44, .int v_281, .ref a_46, .ref a_47, .ref a_48, .ref a_49, .ref a_50, .ref a_51, .ref a_52, .ref a_53, .ref a_54, .int v_55, .int x_230, .ref a_57])) := ⟨_, rfl⟩
        have hP : va_P (dC, dI) vwCl (va_pl L f_296) H := by rw [ef_296]; exact hP
        have hD : va_D (fun q => q ∈ L) (va_pl L f_296) := by rw [ef_296]; exact hD
        have hG : GI (okc cI cL cZ cR cG cH L kd) kd L f_296 := by rw [ef_296]; exact hG.set o0 (mk_12 ko0 ⟨a_2, a_3, a_4, v_5, a_6, v_7, v_8, v_245, v_246, v_247, v_248, v_13, v_14, v_15, v_16, a_17, a_18, a_19, a_20, a_21, a_22, a_23, a_24, v_261, v_262, v_27, v_264, v_29, a_30, v_31, a_32, a_33, v_34, v_35, a_36, v_37, a_38, a_39, v_40, v_277, a_42, a_43, a_44, v_281, a_46, a_47, a_48, a_49, a_50, a_51, a_52, a_53, a_54, v_55, x_230, a_57, rfl, ⟨ma_2, ka_2⟩, ⟨ma_3, ka_3⟩, ⟨ma_4, ka_4⟩, (by constructor <;> omega), ⟨ma_6, ka_6⟩, (by constructor <;> omega), (by constructor <;> omega), (by constructor <;> omega), (by constructor <;> omega), (by constructor <;> omega), ⟨ma_17, ka_17⟩, ⟨ma_18, ka_18⟩, ⟨ma_19, ka_19⟩, ⟨ma_20, ka_20⟩, ⟨ma_21, ka_21⟩, ⟨ma_22, ka_22⟩, ⟨ma_23, ka_23⟩, ⟨ma_24, ka_24⟩, (by constructor <;> omega), (by constructor <;> omega), (by constructor <;> omega), ⟨ma_30, ka_30⟩, (by constructor <;> omega), ⟨ma_32, ka_32⟩, ⟨ma_33, ka_33⟩, (by constructor <;> omega), ⟨ma_36, ka_36⟩, (by constructor <;> omega), ⟨ma_38, ka_38⟩, ⟨ma_39, ka_39⟩, (by constructor <;> omega), ⟨ma_42, ka_42⟩, ⟨ma_43, ka_43⟩, ⟨ma_44, ka_44⟩, (by constructor <;> omega), ⟨ma_46, ka_46⟩, ⟨ma_47, ka_47⟩, ⟨ma_48, ka_48⟩, ⟨ma_49, ka_49⟩, ⟨ma_50, ka_50⟩, ⟨ma_51, ka_51⟩, ⟨ma_52, ka_52⟩, ⟨ma_53, ka_53⟩, ⟨ma_54, ka_54⟩, (by constructor <;> omega), ⟨ma_57, ka_57⟩⟩)
        have hfo_297 : f_296 a_2 = .inl (cI, 1560, .inl g_59) := by rw [ef_296, up_ne (kd_ne ko0 ka_2 (by decide))]; exact hfo_236
        have hfr0 : ∀ b, kd b ≠ 12 → kd b ≠ 589 → kd b ≠ 597 → kd b ≠ 598 → kd b ≠ 599 → kd b ≠ 607 → kd b ≠ 608 → kd b ≠ 609 → f_296 b = f b := fun b q12 q589 q597 q598 q599 q607 q608 q609 => (congrFun ef_296 b).trans ((up_ne (fun e9 => q12 (by rw [e9]; exact ko0))).trans (hfr0 b q12 q589 q597 q598 q599 q607 q608 q609))
        have hrA12 : ∀ b, kd b = 12 → ∀ j, fldR (f_296 b) j = fldR (f b) j := fun b kb j => ((congrArg (fun x => fldR x j) (congrFun ef_296 b)).trans (fra_up (fun j => by rw [hfo_237]; exact fr_set (k := 54) rfl rfl j) j b)).trans (hrA12 b kb j)
        have hfA12 : ∀ b, kd b = 12 → ∀ j, j ≠ 23 → j ≠ 43 → j ≠ 54 → fldI (f_296 b) j = fldI (f b) j := fun b kb j n23 n43 n54 => ((congrArg (fun x => fldI x j) (congrFun ef_296 b)).trans (fia_up (fun h9 => by rw [hfo_237]; exact fi_set (k := 54) rfl h9) n54 b)).trans (hfA12 b kb j n23 n43 n54)
        have hfo_298 : f_296 o0 = .inr (12, [.ref a_2, .ref a_3, .ref a_4, .int v_5, .ref a_6, .int v_7, .int v_8, .int v_245, .int v_246, .int v_247, .int v_248, .int v_13, .int v_14, .int v_15, .int v_16, .ref a_17, .ref a_18, .ref a_19, .ref a_20, .ref a_21, .ref a_22, .ref a_23, .ref a_24, .int v_261, .int v_262, .int v_27, .int v_264, .int v_29, .ref a_30, .int v_31, .ref a_32, .ref a_33, .int v_34, .int v_35, .ref a_36, .int v_37, .ref a_38, .ref a_39, .int v_40, .int v_277, .ref a_42, .ref a_43, .ref a_44, .int v_281, .ref a_46, .ref a_47, .ref a_48, .ref a_49, .ref a_50, .ref a_51, .ref a_52, .ref a_53, .ref a_54, .int v_55, .int x_230, .ref a_57]) := by rw [ef_296]; exact up_self
        refine lv_iconst (v := 0) hx hb dX12_triesOrders_28 (by decide) ?_
        refine lv_istore (lv' := [(4, .int 0), (3, .int x_230), (0, .ref o0), (1, .int p1), (2, .int p2)]) hx hb dX12_triesOrders_29 hl (by decide) rfl (fun ls hl => ?_)
        have hloop_305 : ∀ (n : Nat), ∀ (y_306 : Int32), (0 ≤ y_306.toInt ∧ y_306.toInt ≤ 8) → ∀ (f_308 : Nat → va_E), GI (okc cI cL cZ cR cG cH L kd) kd L f_308 → ∀ (H : Heap) (locs : List Loc), va_P (dC, dI) vwCl (va_pl L f_308) H → va_S (fun q => q ∈ L) s.heap H locs → va_D (fun q => q ∈ L) (va_pl L f_308) → (∀ b, kd b ≠ 12 → kd b ≠ 589 → kd b ≠ 597 → kd b ≠ 598 → kd b ≠ 599 → kd b ≠ 607 → kd b ≠ 608 → kd b ≠ 609 → f_308 b = f b) → (∀ b, kd b = 12 → ∀ j, fldR (f_308 b) j = fldR (f b) j) → (∀ b, kd b = 12 → ∀ j, j ≠ 23 → j ≠ 43 → j ≠ 54 → fldI (f_308 b) j = fldI (f b) j) → (f_308 a_2 = .inl (cI, 1560, .inl g_59)) → (f_308 o0 = .inr (12, [.ref a_2, .ref a_3, .ref a_4, .int v_5, .ref a_6, .int v_7, .int v_8, .int v_245, .int v_246, .int v_247, .int v_248, .int v_13, .int v_14, .int v_15, .int v_16, .ref a_17, .ref a_18, .ref a_19, .ref a_20, .ref a_21, .ref a_22, .ref a_23, .ref a_24, .int v_261, .int v_262, .int v_27, .int v_264, .int v_29, .ref a_30, .int v_31, .ref a_32, .ref a_33, .int v_34, .int v_35, .ref a_36, .int v_37, .ref a_38, .ref a_39, .int v_40, .int v_277, .ref a_42, .ref a_43, .ref a_44, .int v_281, .ref a_46, .ref a_47, .ref a_48, .ref a_49, .ref a_50, .ref a_51, .ref a_52, .ref a_53, .ref a_54, .int v_55, .int x_230, .ref a_57])) → 8 - y_306.toInt < (n : Int) → ∀ (ls : Array Slot), lv_has ls 5 [(4, .int y_306), (3, .int x_230), (0, .ref o0), (1, .int p1), (2, .int p2)] → W p l e (headSpec (wU yX12_triesOrders cX12_triesOrders 5 none) { frames := 7 + (n_ + 1), cells := 0, slots := 0, locals := 177 + (n_ + 1) * 24 }).room s m [.ref o0, .int p1, .int p2].toArray below meth c H locs 0 0 (MQ below (va_Qv (fun (f9 : Nat → va_E) => GI (okc cI cL cZ cR cG cH L kd) kd L f9 ∧ (∀ b, kd b ≠ 12 → kd b ≠ 589 → kd b ≠ 597 → kd b ≠ 598 → kd b ≠ 599 → kd b ≠ 607 → kd b ≠ 608 → kd b ≠ 609 → f9 b = f b) ∧ (∀ b, kd b = 12 → ∀ j, fldR (f9 b) j = fldR (f b) j) ∧ (∀ b, kd b = 12 → ∀ j, j ≠ 23 → j ≠ 43 → j ≠ 54 → fldI (f9 b) j = fldI (f b) j)) (qP (dC, dI) cI cL cZ cR cG cH L) (fun q => q ∈ L)) [.ref o0, .int p1, .int p2].toArray s 0 0 (fun q => q ∈ L)) (F0 m 31 ls []) := by
          intro n
          induction n with
          | zero => intro y_306 by_306 f_308 hG H locs hP hS hD hfr0 hrA12 hfA12 hfo_309 hfo_310 hmuhloop_305 ls hl; exfalso; omega
          | succ n ih_hloop_305 =>
            intro y_306 by_306 f_308 hG H locs hP hS hD hfr0 hrA12 hfA12 hfo_309 hfo_310 hmuhloop_305 ls hl
            refine lv_iload hx hb dX12_triesOrders_31 (lv_at hl 0 rfl) ?_
            refine lv_aload_n hx hb dX12_triesOrders_33 rfl (lv_at hl 2 rfl) ?_
            refine tk_getP (D := (dC, dI)) (ci := 12) (v := .int v_55) (C := RX12) (T := TX12) (N := 56) hx hb hU inlX12 hown hK hP mo0 hfo_310 rfl 53 (by decide) (hU _ wd_1241) (fun _ h9 => h9) rfl dX12_triesOrders_34 ?_
            refine lv_icmp_ge (tgt := 60) hx hb dX12_triesOrders_37 (by decide) (fun c_311 => ?_) (fun c_311 => ?_)
            · skip
              rw [Int32.le_iff_toInt_le] at c_311
              exact W.vret hx hb hr (fun t ht hW => ⟨⟨f_308, rfl, ⟨hG, hfr0, hrA12, hfA12⟩, by rw [ht]; exact hP, va_K.moved hW.alike hK, pl_in hD⟩, hS.F ht⟩) hS.2.2 dX12_triesOrders_60
            · skip
              rw [Int32.le_iff_toInt_le] at c_311
              refine lv_aload_n hx hb dX12_triesOrders_40 rfl (lv_at hl 2 rfl) ?_
              refine tk_getP (D := (dC, dI)) (ci := 12) (v := .ref a_53) (C := RX12) (T := TX12) (N := 56) hx hb hU inlX12 hown hK hP mo0 hfo_310 rfl 51 (by decide) (hU _ wd_202) (fun _ h9 => h9) rfl dX12_triesOrders_41 ?_
              refine lv_iload hx hb dX12_triesOrders_44 (lv_at hl 0 rfl) ?_
              refine lv_aload_n hx hb dX12_triesOrders_46 rfl (lv_at hl 2 rfl) ?_
              refine tk_getP (D := (dC, dI)) (ci := 12) (v := .ref a_52) (C := RX12) (T := TX12) (N := 56) hx hb hU inlX12 hown hK hP mo0 hfo_310 rfl 50 (by decide) (hU _ wd_201) (fun _ h9 => h9) rfl dX12_triesOrders_47 ?_
              refine lv_iload hx hb dX12_triesOrders_50 (lv_at hl 0 rfl) ?_
              obtain ⟨g_313, hfo_312, hbg_313⟩ := un_607 (hG _ ma_52) ka_52
              refine tk_ildP hx hb hK hP 0 ma_52 hfo_312 rfl (vp_in_iff.mpr (by constructor <;> omega)) dX12_triesOrders_52 ?_
              refine lv_topi (fun x_314 ex_314 => ?_)
              have bx_314 : (0 ≤ x_314.toInt ∧ x_314.toInt ≤ 7) := by rw [ex_314]; exact hbg_313 _
              obtain ⟨g_316, hfo_315, hbg_316⟩ := un_608 (hG _ ma_53) ka_53
              refine tk_istP hx hb hK hP hD hS 0 ma_53 hfo_315 rfl (vp_in_iff.mpr (by constructor <;> omega)) dX12_triesOrders_53 (fun H locs hP hD hS => ?_)
              obtain ⟨f_318, ef_318⟩ : ∃ y : Nat → va_E, y = va_up f_308 a_53 (.inl (cI, 8, .inl (upd g_316 (Int32.toNatClampNeg y_306) x_314))) := ⟨_, rfl⟩
              have hP : va_P (dC, dI) vwCl (va_pl L f_318) H := by rw [ef_318]; exact hP
              have hD : va_D (fun q => q ∈ L) (va_pl L f_318) := by rw [ef_318]; exact hD
              have hG : GI (okc cI cL cZ cR cG cH L kd) kd L f_318 := by rw [ef_318]; exact hG.set a_53 (mk_608 ka_53 ⟨_, rfl, okI_up hbg_316 (by constructor <;> omega) _⟩)
              have hfo_319 : f_318 a_2 = .inl (cI, 1560, .inl g_59) := by rw [ef_318, up_ne (kd_ne ka_53 ka_2 (by decide))]; exact hfo_309
              have hfo_320 : f_318 o0 = .inr (12, [.ref a_2, .ref a_3, .ref a_4, .int v_5, .ref a_6, .int v_7, .int v_8, .int v_245, .int v_246, .int v_247, .int v_248, .int v_13, .int v_14, .int v_15, .int v_16, .ref a_17, .ref a_18, .ref a_19, .ref a_20, .ref a_21, .ref a_22, .ref a_23, .ref a_24, .int v_261, .int v_262, .int v_27, .int v_264, .int v_29, .ref a_30, .int v_31, .ref a_32, .ref a_33, .int v_34, .int v_35, .ref a_36, .int v_37, .ref a_38, .ref a_39, .int v_40, .int v_277, .ref a_42, .ref a_43, .ref a_44, .int v_281, .ref a_46, .ref a_47, .ref a_48, .ref a_49, .ref a_50, .ref a_51, .ref a_52, .ref a_53, .ref a_54, .int v_55, .int x_230, .ref a_57]) := by rw [ef_318, up_ne (kd_ne ka_53 ko0 (by decide))]; exact hfo_310
              have hfo_321 : f_318 a_52 = .inl (cI, 8, .inl g_313) := by rw [ef_318, up_ne (kd_ne ka_53 ka_52 (by decide))]; exact hfo_312
              have hfr0 : ∀ b, kd b ≠ 12 → kd b ≠ 589 → kd b ≠ 597 → kd b ≠ 598 → kd b ≠ 599 → kd b ≠ 607 → kd b ≠ 608 → kd b ≠ 609 → f_318 b = f b := fun b q12 q589 q597 q598 q599 q607 q608 q609 => (congrFun ef_318 b).trans ((up_ne (fun e9 => q608 (by rw [e9]; exact ka_53))).trans (hfr0 b q12 q589 q597 q598 q599 q607 q608 q609))
              have hrA12 : ∀ b, kd b = 12 → ∀ j, fldR (f_318 b) j = fldR (f b) j := fun b kb j => (congrArg (fun x => fldR x j) ((congrFun ef_318 b).trans (up_ne (kd_ne ka_53 kb (by decide))))).trans (hrA12 b kb j)
              have hfA12 : ∀ b, kd b = 12 → ∀ j, j ≠ 23 → j ≠ 43 → j ≠ 54 → fldI (f_318 b) j = fldI (f b) j := fun b kb j n23 n43 n54 => (congrArg (fun x => fldI x j) ((congrFun ef_318 b).trans (up_ne (kd_ne ka_53 kb (by decide))))).trans (hfA12 b kb j n23 n43 n54)
              have hfo_322 : f_318 a_53 = .inl (cI, 8, .inl (upd g_316 (Int32.toNatClampNeg y_306) x_314)) := by rw [ef_318]; exact up_self
              obtain ⟨x_323, ex_323⟩ : ∃ y : Int32, y_306 + 1 = y := ⟨_, rfl⟩
              have hx_323 : x_323.toInt = y_306.toInt + 1 := by rw [← ex_323, ad_I (by rw [ti_1]; omega) (by rw [ti_1]; omega), ti_1]
              have bx_323 : (1 ≤ x_323.toInt ∧ x_323.toInt ≤ 8) := by constructor <;> omega
              refine lv_iinc (v := x_323) (lv' := [(4, .int x_323), (3, .int x_230), (0, .ref o0), (1, .int p1), (2, .int p2)]) hx hb dX12_triesOrders_54 hl (k := 0) rfl ex_323 (by decide) rfl (fun ls hl => ?_)
              refine lv_goto (tgt := 31) hx hb dX12_triesOrders_57 (by decide) ?_
              exact ih_hloop_305 x_323 (by constructor <;> omega) f_318 hG _ _ hP hS hD hfr0 hrA12 hfA12 hfo_319 hfo_320 (by omega) ls (lv_sub hl [0, 1, 2, 3, 4] rfl)
        exact hloop_305 9 0 (by decide) f_296 hG _ _ hP hS hD hfr0 hrA12 hfA12 hfo_297 hfo_298 (by (try rw [ti_0]) <;> omega) ls hl
      · skip
        rw [Int32.lt_iff_toInt_lt] at c_294
        exact W.vret hx hb hr (fun t ht hW => ⟨⟨f_231, rfl, ⟨hG, hfr0, hrA12, hfA12⟩, by rw [ht]; exact hP, va_K.moved hW.alike hK, pl_in hD⟩, hS.F ht⟩) hS.2.2 dX12_triesOrders_22
set_option maxHeartbeats 8000000 in
set_option maxRecDepth 100000 in
theorem s_X12_orders_k12 (l : Launch) (D : va_G) (cI cL cZ cR cG cH : ClassId) (Z : zT) (kd : Nat → Nat) (L : List Nat) (f : Nat → va_E) (hG : GI (okc cI cL cZ cR cG cH L kd) kd L f) (o0 : Nat) (mo0 : o0 ∈ L) (ko0 : kd o0 = 12) (p1 : Int32) (p2 : Int32) (hpreo0 : ∀ (w29 : Int32), fldI (f o0) 29 = some w29 → w29.toInt ≤ 200) (hxtr0 : srel kd 592 f o0) : mPI l D cI cL cZ cR cG cH Z yX12_orders cX12_orders 6 (some .int) 24 676 [.ref o0, .int p1, .int p2] L f (fun (r : Int32) (f9 : Nat → va_E) => GI (okc cI cL cZ cR cG cH L kd) kd L f9 ∧ ((-2147483648) ≤ r.toInt ∧ r.toInt ≤ 2147483647) ∧ (∀ b, kd b ≠ 12 → kd b ≠ 579 → kd b ≠ 581 → kd b ≠ 583 → kd b ≠ 585 → kd b ≠ 587 → kd b ≠ 588 → kd b ≠ 589 → kd b ≠ 590 → kd b ≠ 591 → kd b ≠ 592 → kd b ≠ 593 → kd b ≠ 597 → kd b ≠ 598 → kd b ≠ 599 → kd b ≠ 603 → kd b ≠ 604 → kd b ≠ 606 → kd b ≠ 607 → kd b ≠ 608 → kd b ≠ 609 → kd b ≠ 610 → f9 b = f b) ∧ (∀ b, kd b = 12 → ∀ j, fldR (f9 b) j = fldR (f b) j) ∧ (∀ b, kd b = 12 → ∀ j, j ≠ 23 → j ≠ 25 → j ≠ 27 → j ≠ 29 → j ≠ 32 → j ≠ 33 → j ≠ 43 → j ≠ 53 → j ≠ 54 → fldI (f9 b) j = fldI (f b) j) ∧ (∀ (w29 z29 : Int32), fldI (f o0) 29 = some w29 → fldI (f9 o0) 29 = some z29 → z29.toInt = w29.toInt) ∧ (srel kd 592 f9 o0)) := by
  obtain ⟨dC, dI⟩ := D
  refine Met.ofW (cc := cX12_orders) (maxL := 6) (ret := (some .int)) (by decide) rfl ?_
  intro p e s m args below meth c s₁ B hml hv
  obtain ⟨rfl, hP, hK, hD0, hN, hZ⟩ := hv
  have hx := B.exec
  have hb := B.bytes
  have hr := B.returns
  have hU : ∀ w ∈ wsU, w.before _ s = true := fun w h => atoms_spec (ws := wU yX12_orders cX12_orders 6 (some .int)) B.pre w (List.mem_cons_of_mem _ h)
  have hown : s.vm.findClass RX12 = some m.cls := findClass_of_methodNamed B.named
  have hlocks := B.notSynchronized
  have hD := pl_in hD0
  have hS : va_S (fun q => q ∈ L) s.heap s.heap [] := va_S.rf
  have hl := lv_entry ([.ref o0, .int p1, .int p2]) (n := 6) (Nat.le_of_ble_eq_true rfl)
  rw [lg_entry_eq]
  generalize (lg_sl ([.ref o0, .int p1, .int p2]) ++ List.replicate (6 - (lg_sl ([.ref o0, .int p1, .int p2])).length) Slot.unset).toArray = ls at hl ⊢
  have hl : lv_has ls 6 [(0, .ref o0), (1, .int p1), (2, .int p2)] := hl
  have bp1 : ((-2147483648) ≤ p1.toInt ∧ p1.toInt ≤ 2147483647) := ⟨i32_lo _, i32_hi _⟩
  have bp2 : ((-2147483648) ≤ p2.toInt ∧ p2.toInt ≤ 2147483647) := ⟨i32_lo _, i32_hi _⟩
  have hfr0 : ∀ b, kd b ≠ 12 → kd b ≠ 579 → kd b ≠ 581 → kd b ≠ 583 → kd b ≠ 585 → kd b ≠ 587 → kd b ≠ 588 → kd b ≠ 589 → kd b ≠ 590 → kd b ≠ 591 → kd b ≠ 592 → kd b ≠ 593 → kd b ≠ 597 → kd b ≠ 598 → kd b ≠ 599 → kd b ≠ 603 → kd b ≠ 604 → kd b ≠ 606 → kd b ≠ 607 → kd b ≠ 608 → kd b ≠ 609 → kd b ≠ 610 → f b = f b := fun _ _ _ _ _ _ _ _ _ _ _ _ _ _ _ _ _ _ _ _ _ _ _ => rfl
  have hrA12 : ∀ b, kd b = 12 → ∀ j, fldR (f b) j = fldR (f b) j := fun _ _ _ => rfl
  have hfA12 : ∀ b, kd b = 12 → ∀ j, j ≠ 23 → j ≠ 25 → j ≠ 27 → j ≠ 29 → j ≠ 32 → j ≠ 33 → j ≠ 43 → j ≠ 53 → j ≠ 54 → fldI (f b) j = fldI (f b) j := fun _ _ _ _ _ _ _ _ _ _ _ _ => rfl
  obtain ⟨a_2, a_3, a_4, v_5, a_6, v_7, v_8, v_9, v_10, v_11, v_12, v_13, v_14, v_15, v_16, a_17, a_18, a_19, a_20, a_21, a_22, a_23, a_24, v_25, v_26, v_27, v_28, v_29, a_30, v_31, a_32, a_33, v_34, v_35, a_36, v_37, a_38, a_39, v_40, v_41, a_42, a_43, a_44, v_45, a_46, a_47, a_48, a_49, a_50, a_51, a_52, a_53, a_54, v_55, v_56, a_57, hfo_1, ⟨ma_2, ka_2⟩, ⟨ma_3, ka_3⟩, ⟨ma_4, ka_4⟩, bv_5, ⟨ma_6, ka_6⟩, bv_7, bv_8, bv_13, bv_14, bv_15, ⟨ma_17, ka_17⟩, ⟨ma_18, ka_18⟩, ⟨ma_19, ka_19⟩, ⟨ma_20, ka_20⟩, ⟨ma_21, ka_21⟩, ⟨ma_22, ka_22⟩, ⟨ma_23, ka_23⟩, ⟨ma_24, ka_24⟩, bv_25, bv_27, bv_29, ⟨ma_30, ka_30⟩, bv_31, ⟨ma_32, ka_32⟩, ⟨ma_33, ka_33⟩, bv_34, ⟨ma_36, ka_36⟩, bv_37, ⟨ma_38, ka_38⟩, ⟨ma_39, ka_39⟩, bv_40, ⟨ma_42, ka_42⟩, ⟨ma_43, ka_43⟩, ⟨ma_44, ka_44⟩, bv_45, ⟨ma_46, ka_46⟩, ⟨ma_47, ka_47⟩, ⟨ma_48, ka_48⟩, ⟨ma_49, ka_49⟩, ⟨ma_50, ka_50⟩, ⟨ma_51, ka_51⟩, ⟨ma_52, ka_52⟩, ⟨ma_53, ka_53⟩, ⟨ma_54, ka_54⟩, bv_55, ⟨ma_57, ka_57⟩⟩ := un_12 (hG _ mo0) ko0
  have bv_9 : ((-2147483648) ≤ v_9.toInt ∧ v_9.toInt ≤ 2147483647) := ⟨i32_lo _, i32_hi _⟩
  have bv_10 : ((-2147483648) ≤ v_10.toInt ∧ v_10.toInt ≤ 2147483647) := ⟨i32_lo _, i32_hi _⟩
  have bv_11 : ((-2147483648) ≤ v_11.toInt ∧ v_11.toInt ≤ 2147483647) := ⟨i32_lo _, i32_hi _⟩
  have bv_12 : ((-2147483648) ≤ v_12.toInt ∧ v_12.toInt ≤ 2147483647) := ⟨i32_lo _, i32_hi _⟩
  have bv_16 : ((-2147483648) ≤ v_16.toInt ∧ v_16.toInt ≤ 2147483647) := ⟨i32_lo _, i32_hi _⟩
  have bv_26 : ((-2147483648) ≤ v_26.toInt ∧ v_26.toInt ≤ 2147483647) := ⟨i32_lo _, i32_hi _⟩
  have bv_28 : ((-2147483648) ≤ v_28.toInt ∧ v_28.toInt ≤ 2147483647) := ⟨i32_lo _, i32_hi _⟩
  have bv_35 : ((-2147483648) ≤ v_35.toInt ∧ v_35.toInt ≤ 2147483647) := ⟨i32_lo _, i32_hi _⟩
  have bv_41 : ((-2147483648) ≤ v_41.toInt ∧ v_41.toInt ≤ 2147483647) := ⟨i32_lo _, i32_hi _⟩
  have bv_56 : ((-2147483648) ≤ v_56.toInt ∧ v_56.toInt ≤ 2147483647) := ⟨i32_lo _, i32_hi _⟩
  have hpo0 := hpreo0 v_31 (by rw [hfo_1]; rfl)
  have hT0 := hxtr0
  obtain ⟨g_59, hfo_58, hbg_59⟩ := un_575 (hG _ ma_2) ka_2
  refine lv_aload_n hx hb dX12_orders_0 rfl (lv_at hl 0 rfl) ?_
  refine lv_iconst (v := 0) hx hb dX12_orders_1 (by decide) ?_
  refine tk_putP (D := (dC, dI)) (ci := 12) (v := .int 0) (ty := .int) (C := RX12) (T := TX12) (N := 56) hx hb hU inlX12 tyX12 tyX12_ok nmX12 hown hK hP hD hS mo0 hfo_1 rfl 53 (by decide) (hU _ wd_1241) (fun _ h9 => h9) rfl (by decide +kernel) rfl rfl (Nat.le_of_ble_eq_true rfl) dX12_orders_2 (fun H locs hP hD hS => ?_)
  obtain ⟨f_61, ef_61⟩ : ∃ y : Nat → va_E, y = va_up f o0 (.inr (12, [.ref a_2, .ref a_3, .ref a_4, .int v_5, .ref a_6, .int v_7, .int v_8, .int v_9, .int v_10, .int v_11, .int v_12, .int v_13, .int v_14, .int v_15, .int v_16, .ref a_17, .ref a_18, .ref a_19, .ref a_20, .ref a_21, .ref a_22, .ref a_23, .ref a_24, .int v_25, .int v_26, .int v_27, .int v_28, .int v_29, .ref a_30, .int v_31, .ref a_32, .ref a_33, .int v_34, .int v_35, .ref a_36, .int v_37, .ref a_38, .ref a_39, .int v_40, .int v_41, .ref a_42, .ref a_43, .ref a_44, .int v_45, .ref a_46, .ref a_47, .ref a_48, .ref a_49, .ref a_50, .ref a_51, .ref a_52, .ref a_53, .ref a_54, .int 0, .int v_56, .ref a_57])) := ⟨_, rfl⟩
  have hP : va_P (dC, dI) vwCl (va_pl L f_61) H := by rw [ef_61]; exact hP
  have hD : va_D (fun q => q ∈ L) (va_pl L f_61) := by rw [ef_61]; exact hD
  have hG : GI (okc cI cL cZ cR cG cH L kd) kd L f_61 := by rw [ef_61]; exact hG.set o0 (mk_12 ko0 ⟨a_2, a_3, a_4, v_5, a_6, v_7, v_8, v_9, v_10, v_11, v_12, v_13, v_14, v_15, v_16, a_17, a_18, a_19, a_20, a_21, a_22, a_23, a_24, v_25, v_26, v_27, v_28, v_29, a_30, v_31, a_32, a_33, v_34, v_35, a_36, v_37, a_38, a_39, v_40, v_41, a_42, a_43, a_44, v_45, a_46, a_47, a_48, a_49, a_50, a_51, a_52, a_53, a_54, 0, v_56, a_57, rfl, ⟨ma_2, ka_2⟩, ⟨ma_3, ka_3⟩, ⟨ma_4, ka_4⟩, (by constructor <;> omega), ⟨ma_6, ka_6⟩, (by constructor <;> omega), (by constructor <;> omega), (by constructor <;> omega), (by constructor <;> omega), (by constructor <;> omega), ⟨ma_17, ka_17⟩, ⟨ma_18, ka_18⟩, ⟨ma_19, ka_19⟩, ⟨ma_20, ka_20⟩, ⟨ma_21, ka_21⟩, ⟨ma_22, ka_22⟩, ⟨ma_23, ka_23⟩, ⟨ma_24, ka_24⟩, (by constructor <;> omega), (by constructor <;> omega), (by constructor <;> omega), ⟨ma_30, ka_30⟩, (by constructor <;> omega), ⟨ma_32, ka_32⟩, ⟨ma_33, ka_33⟩, (by constructor <;> omega), ⟨ma_36, ka_36⟩, (by constructor <;> omega), ⟨ma_38, ka_38⟩, ⟨ma_39, ka_39⟩, (by constructor <;> omega), ⟨ma_42, ka_42⟩, ⟨ma_43, ka_43⟩, ⟨ma_44, ka_44⟩, (by constructor <;> omega), ⟨ma_46, ka_46⟩, ⟨ma_47, ka_47⟩, ⟨ma_48, ka_48⟩, ⟨ma_49, ka_49⟩, ⟨ma_50, ka_50⟩, ⟨ma_51, ka_51⟩, ⟨ma_52, ka_52⟩, ⟨ma_53, ka_53⟩, ⟨ma_54, ka_54⟩, (by decide), ⟨ma_57, ka_57⟩⟩)
  have hfo_62 : f_61 a_2 = .inl (cI, 1560, .inl g_59) := by rw [ef_61, up_ne (kd_ne ko0 ka_2 (by decide))]; exact hfo_58
  have hfr0 : ∀ b, kd b ≠ 12 → kd b ≠ 579 → kd b ≠ 581 → kd b ≠ 583 → kd b ≠ 585 → kd b ≠ 587 → kd b ≠ 588 → kd b ≠ 589 → kd b ≠ 590 → kd b ≠ 591 → kd b ≠ 592 → kd b ≠ 593 → kd b ≠ 597 → kd b ≠ 598 → kd b ≠ 599 → kd b ≠ 603 → kd b ≠ 604 → kd b ≠ 606 → kd b ≠ 607 → kd b ≠ 608 → kd b ≠ 609 → kd b ≠ 610 → f_61 b = f b := fun b q12 q579 q581 q583 q585 q587 q588 q589 q590 q591 q592 q593 q597 q598 q599 q603 q604 q606 q607 q608 q609 q610 => (congrFun ef_61 b).trans ((up_ne (fun e9 => q12 (by rw [e9]; exact ko0))).trans (hfr0 b q12 q579 q581 q583 q585 q587 q588 q589 q590 q591 q592 q593 q597 q598 q599 q603 q604 q606 q607 q608 q609 q610))
  have hrA12 : ∀ b, kd b = 12 → ∀ j, fldR (f_61 b) j = fldR (f b) j := fun b kb j => ((congrArg (fun x => fldR x j) (congrFun ef_61 b)).trans (fra_up (fun j => by rw [hfo_1]; exact fr_set (k := 53) rfl rfl j) j b)).trans (hrA12 b kb j)
  have hfA12 : ∀ b, kd b = 12 → ∀ j, j ≠ 23 → j ≠ 25 → j ≠ 27 → j ≠ 29 → j ≠ 32 → j ≠ 33 → j ≠ 43 → j ≠ 53 → j ≠ 54 → fldI (f_61 b) j = fldI (f b) j := fun b kb j n23 n25 n27 n29 n32 n33 n43 n53 n54 => ((congrArg (fun x => fldI x j) (congrFun ef_61 b)).trans (fia_up (fun h9 => by rw [hfo_1]; exact fi_set (k := 53) rfl h9) n53 b)).trans (hfA12 b kb j n23 n25 n27 n29 n32 n33 n43 n53 n54)
  have hT0 : srel kd 592 f_61 o0 := by rw [ef_61]; exact hT0.keep (fun b _ => fr_up (by rw [hfo_1]; rfl) b) (fun b _ => fk_up (by rw [hfo_1]; rfl) b) (fun b _ => fk_up (by rw [hfo_1]; rfl) b) (fun b q => up_ne (kd_ne ko0 q (by decide)))
  have hfo_63 : f_61 o0 = .inr (12, [.ref a_2, .ref a_3, .ref a_4, .int v_5, .ref a_6, .int v_7, .int v_8, .int v_9, .int v_10, .int v_11, .int v_12, .int v_13, .int v_14, .int v_15, .int v_16, .ref a_17, .ref a_18, .ref a_19, .ref a_20, .ref a_21, .ref a_22, .ref a_23, .ref a_24, .int v_25, .int v_26, .int v_27, .int v_28, .int v_29, .ref a_30, .int v_31, .ref a_32, .ref a_33, .int v_34, .int v_35, .ref a_36, .int v_37, .ref a_38, .ref a_39, .int v_40, .int v_41, .ref a_42, .ref a_43, .ref a_44, .int v_45, .ref a_46, .ref a_47, .ref a_48, .ref a_49, .ref a_50, .ref a_51, .ref a_52, .ref a_53, .ref a_54, .int 0, .int v_56, .ref a_57]) := by rw [ef_61]; exact up_self
  refine lv_iconst (v := 0) hx hb dX12_orders_5 (by decide) ?_
  refine lv_istore_n (lv' := [(3, .int 0), (0, .ref o0), (1, .int p1), (2, .int p2)]) hx hb dX12_orders_6 rfl hl (by decide) rfl (fun ls hl => ?_)
  have hloop_70 : ∀ (n : Nat), ∀ (y_71 : Int32), (0 ≤ y_71.toInt ∧ y_71.toInt ≤ 8) → ∀ (f_73 : Nat → va_E), GI (okc cI cL cZ cR cG cH L kd) kd L f_73 → ∀ (H : Heap) (locs : List Loc), va_P (dC, dI) vwCl (va_pl L f_73) H → va_S (fun q => q ∈ L) s.heap H locs → va_D (fun q => q ∈ L) (va_pl L f_73) → (∀ b, kd b ≠ 12 → kd b ≠ 579 → kd b ≠ 581 → kd b ≠ 583 → kd b ≠ 585 → kd b ≠ 587 → kd b ≠ 588 → kd b ≠ 589 → kd b ≠ 590 → kd b ≠ 591 → kd b ≠ 592 → kd b ≠ 593 → kd b ≠ 597 → kd b ≠ 598 → kd b ≠ 599 → kd b ≠ 603 → kd b ≠ 604 → kd b ≠ 606 → kd b ≠ 607 → kd b ≠ 608 → kd b ≠ 609 → kd b ≠ 610 → f_73 b = f b) → (∀ b, kd b = 12 → ∀ j, fldR (f_73 b) j = fldR (f b) j) → (∀ b, kd b = 12 → ∀ j, j ≠ 23 → j ≠ 25 → j ≠ 27 → j ≠ 29 → j ≠ 32 → j ≠ 33 → j ≠ 43 → j ≠ 53 → j ≠ 54 → fldI (f_73 b) j = fldI (f b) j) → (f_73 a_2 = .inl (cI, 1560, .inl g_59)) → srel kd 592 f_73 o0 → ∀ (whloop_70_0_53 : Int32), fldI (f_73 o0) 53 = some whloop_70_0_53 → ∀ (whloop_70_0_29 : Int32), fldI (f_73 o0) 29 = some whloop_70_0_29 → (whloop_70_0_53.toInt ≤ y_71.toInt) → (whloop_70_0_29.toInt = v_31.toInt) → (0 ≤ whloop_70_0_53.toInt ∧ whloop_70_0_53.toInt ≤ 8) → (0 ≤ whloop_70_0_29.toInt ∧ whloop_70_0_29.toInt ≤ 201) → 8 - y_71.toInt < (n : Int) → ∀ (ls : Array Slot), lv_has ls 6 [(3, .int y_71), (0, .ref o0), (1, .int p1), (2, .int p2)] → W p l e (headSpec (wU yX12_orders cX12_orders 6 (some .int)) { frames := 24, cells := 0, slots := 0, locals := 676 }).room s m [.ref o0, .int p1, .int p2].toArray below meth c H locs 0 0 (MQ below (va_Qi (fun (r : Int32) (f9 : Nat → va_E) => GI (okc cI cL cZ cR cG cH L kd) kd L f9 ∧ ((-2147483648) ≤ r.toInt ∧ r.toInt ≤ 2147483647) ∧ (∀ b, kd b ≠ 12 → kd b ≠ 579 → kd b ≠ 581 → kd b ≠ 583 → kd b ≠ 585 → kd b ≠ 587 → kd b ≠ 588 → kd b ≠ 589 → kd b ≠ 590 → kd b ≠ 591 → kd b ≠ 592 → kd b ≠ 593 → kd b ≠ 597 → kd b ≠ 598 → kd b ≠ 599 → kd b ≠ 603 → kd b ≠ 604 → kd b ≠ 606 → kd b ≠ 607 → kd b ≠ 608 → kd b ≠ 609 → kd b ≠ 610 → f9 b = f b) ∧ (∀ b, kd b = 12 → ∀ j, fldR (f9 b) j = fldR (f b) j) ∧ (∀ b, kd b = 12 → ∀ j, j ≠ 23 → j ≠ 25 → j ≠ 27 → j ≠ 29 → j ≠ 32 → j ≠ 33 → j ≠ 43 → j ≠ 53 → j ≠ 54 → fldI (f9 b) j = fldI (f b) j) ∧ (∀ (w29 z29 : Int32), fldI (f o0) 29 = some w29 → fldI (f9 o0) 29 = some z29 → z29.toInt = w29.toInt) ∧ (srel kd 592 f9 o0)) (qP (dC, dI) cI cL cZ cR cG cH L) (fun q => q ∈ L)) [.ref o0, .int p1, .int p2].toArray s 0 0 (fun q => q ∈ L)) (F0 m 7 ls []) := by
    intro n
    induction n with
    | zero => intro y_71 by_71 f_73 hG H locs hP hS hD hfr0 hrA12 hfA12 hfo_74 hT0 whloop_70_0_53 hghloop_70_0_53 whloop_70_0_29 hghloop_70_0_29 hrelhloop_70_0 hrelhloop_70_1 hrelhloop_70_2 hrelhloop_70_3 hmuhloop_70 ls hl; exfalso; omega
    | succ n ih_hloop_70 =>
      intro y_71 by_71 f_73 hG H locs hP hS hD hfr0 hrA12 hfA12 hfo_74 hT0 whloop_70_0_53 hghloop_70_0_53 whloop_70_0_29 hghloop_70_0_29 hrelhloop_70_0 hrelhloop_70_1 hrelhloop_70_2 hrelhloop_70_3 hmuhloop_70 ls hl
      obtain ⟨a_76, a_77, a_78, v_79, a_80, v_81, v_82, v_83, v_84, v_85, v_86, v_87, v_88, v_89, v_90, a_91, a_92, a_93, a_94, a_95, a_96, a_97, a_98, v_99, v_100, v_101, v_102, v_103, a_104, v_105, a_106, a_107, v_108, v_109, a_110, v_111, a_112, a_113, v_114, v_115, a_116, a_117, a_118, v_119, a_120, a_121, a_122, a_123, a_124, a_125, a_126, a_127, a_128, v_129, v_130, a_131, hfo_75, ⟨ma_76, ka_76⟩, ⟨ma_77, ka_77⟩, ⟨ma_78, ka_78⟩, bv_79, ⟨ma_80, ka_80⟩, bv_81, bv_82, bv_87, bv_88, bv_89, ⟨ma_91, ka_91⟩, ⟨ma_92, ka_92⟩, ⟨ma_93, ka_93⟩, ⟨ma_94, ka_94⟩, ⟨ma_95, ka_95⟩, ⟨ma_96, ka_96⟩, ⟨ma_97, ka_97⟩, ⟨ma_98, ka_98⟩, bv_99, bv_101, bv_103, ⟨ma_104, ka_104⟩, bv_105, ⟨ma_106, ka_106⟩, ⟨ma_107, ka_107⟩, bv_108, ⟨ma_110, ka_110⟩, bv_111, ⟨ma_112, ka_112⟩, ⟨ma_113, ka_113⟩, bv_114, ⟨ma_116, ka_116⟩, ⟨ma_117, ka_117⟩, ⟨ma_118, ka_118⟩, bv_119, ⟨ma_120, ka_120⟩, ⟨ma_121, ka_121⟩, ⟨ma_122, ka_122⟩, ⟨ma_123, ka_123⟩, ⟨ma_124, ka_124⟩, ⟨ma_125, ka_125⟩, ⟨ma_126, ka_126⟩, ⟨ma_127, ka_127⟩, ⟨ma_128, ka_128⟩, bv_129, ⟨ma_131, ka_131⟩⟩ := un_12 (hG _ mo0) ko0
      have bv_83 : ((-2147483648) ≤ v_83.toInt ∧ v_83.toInt ≤ 2147483647) := ⟨i32_lo _, i32_hi _⟩
      have bv_84 : ((-2147483648) ≤ v_84.toInt ∧ v_84.toInt ≤ 2147483647) := ⟨i32_lo _, i32_hi _⟩
      have bv_85 : ((-2147483648) ≤ v_85.toInt ∧ v_85.toInt ≤ 2147483647) := ⟨i32_lo _, i32_hi _⟩
      have bv_86 : ((-2147483648) ≤ v_86.toInt ∧ v_86.toInt ≤ 2147483647) := ⟨i32_lo _, i32_hi _⟩
      have bv_90 : ((-2147483648) ≤ v_90.toInt ∧ v_90.toInt ≤ 2147483647) := ⟨i32_lo _, i32_hi _⟩
      have bv_100 : ((-2147483648) ≤ v_100.toInt ∧ v_100.toInt ≤ 2147483647) := ⟨i32_lo _, i32_hi _⟩
      have bv_102 : ((-2147483648) ≤ v_102.toInt ∧ v_102.toInt ≤ 2147483647) := ⟨i32_lo _, i32_hi _⟩
      have bv_109 : ((-2147483648) ≤ v_109.toInt ∧ v_109.toInt ≤ 2147483647) := ⟨i32_lo _, i32_hi _⟩
      have bv_115 : ((-2147483648) ≤ v_115.toInt ∧ v_115.toInt ≤ 2147483647) := ⟨i32_lo _, i32_hi _⟩
      have bv_130 : ((-2147483648) ≤ v_130.toInt ∧ v_130.toInt ≤ 2147483647) := ⟨i32_lo _, i32_hi _⟩
      obtain ⟨rfl, rfl, rfl, rfl, rfl, rfl, rfl, rfl, rfl, rfl, rfl, rfl, rfl, rfl, rfl, rfl, rfl, rfl, rfl, rfl, rfl, rfl, rfl, rfl, rfl, rfl, rfl, rfl, rfl, rfl, rfl⟩ := re_12 hfo_1 hfo_75 (hrA12 o0 ko0)
      obtain rfl := ri_12_3 hfo_1 hfo_75 (hfA12 o0 ko0 3 (by decide) (by decide) (by decide) (by decide) (by decide) (by decide) (by decide) (by decide) (by decide))
      obtain rfl := ri_12_5 hfo_1 hfo_75 (hfA12 o0 ko0 5 (by decide) (by decide) (by decide) (by decide) (by decide) (by decide) (by decide) (by decide) (by decide))
      obtain rfl := ri_12_6 hfo_1 hfo_75 (hfA12 o0 ko0 6 (by decide) (by decide) (by decide) (by decide) (by decide) (by decide) (by decide) (by decide) (by decide))
      obtain rfl := ri_12_11 hfo_1 hfo_75 (hfA12 o0 ko0 11 (by decide) (by decide) (by decide) (by decide) (by decide) (by decide) (by decide) (by decide) (by decide))
      obtain rfl := ri_12_12 hfo_1 hfo_75 (hfA12 o0 ko0 12 (by decide) (by decide) (by decide) (by decide) (by decide) (by decide) (by decide) (by decide) (by decide))
      obtain rfl := ri_12_13 hfo_1 hfo_75 (hfA12 o0 ko0 13 (by decide) (by decide) (by decide) (by decide) (by decide) (by decide) (by decide) (by decide) (by decide))
      obtain rfl := ri_12_14 hfo_1 hfo_75 (hfA12 o0 ko0 14 (by decide) (by decide) (by decide) (by decide) (by decide) (by decide) (by decide) (by decide) (by decide))
      obtain rfl := ri_12_35 hfo_1 hfo_75 (hfA12 o0 ko0 35 (by decide) (by decide) (by decide) (by decide) (by decide) (by decide) (by decide) (by decide) (by decide))
      obtain rfl := ri_12_38 hfo_1 hfo_75 (hfA12 o0 ko0 38 (by decide) (by decide) (by decide) (by decide) (by decide) (by decide) (by decide) (by decide) (by decide))
      obtain rfl : v_129 = whloop_70_0_53 := by rw [hfo_75] at hghloop_70_0_53; exact Option.some.inj hghloop_70_0_53
      obtain rfl : v_105 = whloop_70_0_29 := by rw [hfo_75] at hghloop_70_0_29; exact Option.some.inj hghloop_70_0_29
      refine lv_iload_n hx hb dX12_orders_7 rfl (lv_at hl 0 rfl) ?_
      refine lv_aload_n hx hb dX12_orders_8 rfl (lv_at hl 1 rfl) ?_
      refine tk_getP (D := (dC, dI)) (ci := 12) (v := .ref a_2) (C := RX12) (T := TX12) (N := 56) hx hb hU inlX12 hown hK hP mo0 hfo_75 rfl 0 (by decide) (hU _ wd_169) (fun _ h9 => h9) rfl dX12_orders_9 ?_
      refine lv_bipush (v := 17) hx hb dX12_orders_12 (by decide) ?_
      refine tk_ildP hx hb hK hP 0 ma_2 hfo_74 rfl (vp_in_nI (n := 17) (by decide) (by decide)) dX12_orders_14 ?_
      refine lv_topi (fun x_132 ex_132 => ?_)
      have bx_132 : (0 ≤ x_132.toInt ∧ x_132.toInt ≤ 8) := by rw [ex_132]; exact hbg_59.2.2.1 _ (by decide) (by decide) (by decide)
      refine lv_icmp_ge (tgt := 61) hx hb dX12_orders_15 (by decide) (fun c_133 => ?_) (fun c_133 => ?_)
      · skip
        rw [Int32.le_iff_toInt_le] at c_133
        refine lv_iload_n hx hb dX12_orders_61 rfl (lv_at hl 2 rfl) ?_
        refine lv_iconst (v := 1) hx hb dX12_orders_62 (by decide) ?_
        refine lv_iconst (v := 2) hx hb dX12_orders_63 (by decide) ?_
        refine tk_SiP (As := [.int p1, .int 1, .int 2]) (rest := []) (n := 3) hx hb hml hown hU hN hZ (s_X12_isIn l (dC, dI) cI cL cZ cR cG cH Z kd L f_73 hG p1 1 2) wd_227 wd_228 wd_5 wd_229 (by decide +kernel) ⟨Nat.le_of_ble_eq_true rfl, Nat.le_of_ble_eq_true rfl⟩ hK hP hD hS rfl hl.1 rfl (Nat.le_of_ble_eq_true rfl) dX12_orders_64 ⟨Nat.le_of_ble_eq_true rfl, Nat.le_of_ble_eq_true rfl⟩ (fun x_134 f_135 H locs hw hP hD hS => ?_)
        obtain ⟨rfl, bx_134, relx_134⟩ := hw
        try rw [ti_1] at relx_134
        try rw [ti_2] at relx_134
        refine lv_if_eq (tgt := 104) hx hb dX12_orders_67 (by decide) (fun c_137 => ?_) (fun c_137 => ?_)
        · skip
          rw [← Int32.toInt_inj, ti_0] at c_137
          refine lv_iconst (v := (-1)) hx hb dX12_orders_104 (by decide) ?_
          exact W.iret (v := (-1)) hx hb hr (fun t ht hW => ⟨⟨(-1), f_73, rfl, ⟨hG, (by decide), hfr0, hrA12, hfA12, (by intro w29 z29 e29 d29; rw [hfo_1] at e29; rw [hfo_75] at d29; obtain rfl := Option.some.inj e29; obtain rfl := Option.some.inj d29; (try rw [ti_m1]) <;> omega), hT0⟩, by rw [ht]; exact hP, va_K.moved hW.alike hK, pl_in hD⟩, hS.F ht⟩) hS.2.2 dX12_orders_105
        · skip
          rw [← Int32.toInt_inj, ti_0] at c_137
          refine lv_aload_n hx hb dX12_orders_70 rfl (lv_at hl 1 rfl) ?_
          refine tk_getP (D := (dC, dI)) (ci := 12) (v := .int v_129) (C := RX12) (T := TX12) (N := 56) hx hb hU inlX12 hown hK hP mo0 hfo_75 rfl 53 (by decide) (hU _ wd_1241) (fun _ h9 => h9) rfl dX12_orders_71 ?_
          refine lv_bipush (v := 6) hx hb dX12_orders_74 (by decide) ?_
          refine lv_icmp_gt (tgt := 104) hx hb dX12_orders_76 (by decide) (fun c_138 => ?_) (fun c_138 => ?_)
          · skip
            rw [Int32.lt_iff_toInt_lt, ti_6] at c_138
            refine lv_iconst (v := (-1)) hx hb dX12_orders_104 (by decide) ?_
            exact W.iret (v := (-1)) hx hb hr (fun t ht hW => ⟨⟨(-1), f_73, rfl, ⟨hG, (by decide), hfr0, hrA12, hfA12, (by intro w29 z29 e29 d29; rw [hfo_1] at e29; rw [hfo_75] at d29; obtain rfl := Option.some.inj e29; obtain rfl := Option.some.inj d29; (try rw [ti_m1]) <;> omega), hT0⟩, by rw [ht]; exact hP, va_K.moved hW.alike hK, pl_in hD⟩, hS.F ht⟩) hS.2.2 dX12_orders_105
          · skip
            rw [Int32.lt_iff_toInt_lt, ti_6] at c_138
            refine lv_iload_n hx hb dX12_orders_79 rfl (lv_at hl 3 rfl) ?_
            refine lv_iconst (v := 0) hx hb dX12_orders_80 (by decide) ?_
            refine lv_iconst (v := 1) hx hb dX12_orders_81 (by decide) ?_
            refine tk_SiP (As := [.int p2, .int 0, .int 1]) (rest := []) (n := 3) hx hb hml hown hU hN hZ (s_X12_isIn l (dC, dI) cI cL cZ cR cG cH Z kd L f_73 hG p2 0 1) wd_227 wd_228 wd_5 wd_229 (by decide +kernel) ⟨Nat.le_of_ble_eq_true rfl, Nat.le_of_ble_eq_true rfl⟩ hK hP hD hS rfl hl.1 rfl (Nat.le_of_ble_eq_true rfl) dX12_orders_82 ⟨Nat.le_of_ble_eq_true rfl, Nat.le_of_ble_eq_true rfl⟩ (fun x_139 f_140 H locs hw hP hD hS => ?_)
            obtain ⟨rfl, bx_139, relx_139⟩ := hw
            try rw [ti_0] at relx_139
            try rw [ti_1] at relx_139
            refine lv_if_ne (tgt := 106) hx hb dX12_orders_85 (by decide) (fun c_142 => ?_) (fun c_142 => ?_)
            · skip
              rw [← Int32.toInt_inj, ti_0] at c_142
              refine lv_aload_n hx hb dX12_orders_106 rfl (lv_at hl 1 rfl) ?_
              refine lv_iload_n hx hb dX12_orders_107 rfl (lv_at hl 2 rfl) ?_
              refine tk_ViP (As := [.int p1]) (rest := []) (n := 1) hx hb hml hown hU hN hZ (s_X12_wordsUpTo_k12 l (dC, dI) cI cL cZ cR cG cH Z kd L f_73 hG o0 mo0 ko0 p1 (by constructor <;> omega)) wd_1169 wd_1170 wd_1171 wd_5 wd_1172 (by decide +kernel) ⟨Nat.le_of_ble_eq_true rfl, Nat.le_of_ble_eq_true rfl⟩ hK hP hD hS mo0 hfo_75 12 rfl rfl rfl hl.1 rfl (Nat.le_of_ble_eq_true rfl) dX12_orders_108 ⟨Nat.le_of_ble_eq_true rfl, Nat.le_of_ble_eq_true rfl⟩ (fun x_143 f_144 H locs hw hP hD hS => ?_)
              obtain ⟨rfl, bx_143, hxp_145⟩ := hw
              have hwu := hxp_145 a_2 g_59 (by rw [hfo_75]; rfl) hfo_74
              have hsq := lw_sq (L := (g_59 0).toInt) (hbg_59.1 0 (by decide) (by decide) (by decide))
              refine lv_istore_n (lv' := [(3, .int x_143), (0, .ref o0), (1, .int p1), (2, .int p2)]) hx hb dX12_orders_111 rfl hl (by decide) rfl (fun ls hl => ?_)
              have hclx_143 : (0 ≤ x_143.toInt ∧ x_143.toInt ≤ 72) := by constructor <;> omega
              refine lv_iload_n hx hb dX12_orders_112 rfl (lv_at hl 3 rfl) ?_
              refine lv_iconst (v := 1) hx hb dX12_orders_113 (by decide) ?_
              refine lv_icmp_ne (tgt := 119) hx hb dX12_orders_114 (by decide) (fun c_147 => ?_) (fun c_147 => ?_)
              · skip
                rw [← Int32.toInt_inj, ti_1] at c_147
                refine lv_iconst (v := 0) hx hb dX12_orders_119 (by decide) ?_
                refine lv_istore (lv' := [(4, .int 0), (3, .int x_143), (0, .ref o0), (1, .int p1), (2, .int p2)]) hx hb dX12_orders_120 hl (by decide) rfl (fun ls hl => ?_)
                have hloop_210 : ∀ (n : Nat), ∀ (y_211 : Int32), (0 ≤ y_211.toInt ∧ y_211.toInt ≤ 72) → ∀ (f_213 : Nat → va_E), GI (okc cI cL cZ cR cG cH L kd) kd L f_213 → ∀ (H : Heap) (locs : List Loc), va_P (dC, dI) vwCl (va_pl L f_213) H → va_S (fun q => q ∈ L) s.heap H locs → va_D (fun q => q ∈ L) (va_pl L f_213) → (∀ b, kd b ≠ 12 → kd b ≠ 579 → kd b ≠ 581 → kd b ≠ 583 → kd b ≠ 585 → kd b ≠ 587 → kd b ≠ 588 → kd b ≠ 589 → kd b ≠ 590 → kd b ≠ 591 → kd b ≠ 592 → kd b ≠ 593 → kd b ≠ 597 → kd b ≠ 598 → kd b ≠ 599 → kd b ≠ 603 → kd b ≠ 604 → kd b ≠ 606 → kd b ≠ 607 → kd b ≠ 608 → kd b ≠ 609 → kd b ≠ 610 → f_213 b = f b) → (∀ b, kd b = 12 → ∀ j, fldR (f_213 b) j = fldR (f b) j) → (∀ b, kd b = 12 → ∀ j, j ≠ 23 → j ≠ 25 → j ≠ 27 → j ≠ 29 → j ≠ 32 → j ≠ 33 → j ≠ 43 → j ≠ 53 → j ≠ 54 → fldI (f_213 b) j = fldI (f b) j) → (f_213 a_2 = .inl (cI, 1560, .inl g_59)) → srel kd 592 f_213 o0 → ∀ (whloop_210_0_29 : Int32), fldI (f_213 o0) 29 = some whloop_210_0_29 → (whloop_210_0_29.toInt = v_31.toInt) → (0 ≤ whloop_210_0_29.toInt ∧ whloop_210_0_29.toInt ≤ 201) → 72 - y_211.toInt < (n : Int) → ∀ (ls : Array Slot), lv_has ls 6 [(4, .int y_211), (3, .int x_143), (0, .ref o0), (1, .int p1), (2, .int p2)] → W p l e (headSpec (wU yX12_orders cX12_orders 6 (some .int)) { frames := 24, cells := 0, slots := 0, locals := 676 }).room s m [.ref o0, .int p1, .int p2].toArray below meth c H locs 0 0 (MQ below (va_Qi (fun (r : Int32) (f9 : Nat → va_E) => GI (okc cI cL cZ cR cG cH L kd) kd L f9 ∧ ((-2147483648) ≤ r.toInt ∧ r.toInt ≤ 2147483647) ∧ (∀ b, kd b ≠ 12 → kd b ≠ 579 → kd b ≠ 581 → kd b ≠ 583 → kd b ≠ 585 → kd b ≠ 587 → kd b ≠ 588 → kd b ≠ 589 → kd b ≠ 590 → kd b ≠ 591 → kd b ≠ 592 → kd b ≠ 593 → kd b ≠ 597 → kd b ≠ 598 → kd b ≠ 599 → kd b ≠ 603 → kd b ≠ 604 → kd b ≠ 606 → kd b ≠ 607 → kd b ≠ 608 → kd b ≠ 609 → kd b ≠ 610 → f9 b = f b) ∧ (∀ b, kd b = 12 → ∀ j, fldR (f9 b) j = fldR (f b) j) ∧ (∀ b, kd b = 12 → ∀ j, j ≠ 23 → j ≠ 25 → j ≠ 27 → j ≠ 29 → j ≠ 32 → j ≠ 33 → j ≠ 43 → j ≠ 53 → j ≠ 54 → fldI (f9 b) j = fldI (f b) j) ∧ (∀ (w29 z29 : Int32), fldI (f o0) 29 = some w29 → fldI (f9 o0) 29 = some z29 → z29.toInt = w29.toInt) ∧ (srel kd 592 f9 o0)) (qP (dC, dI) cI cL cZ cR cG cH L) (fun q => q ∈ L)) [.ref o0, .int p1, .int p2].toArray s 0 0 (fun q => q ∈ L)) (F0 m 122 ls []) := by
                  intro n
                  induction n with
                  | zero => intro y_211 by_211 f_213 hG H locs hP hS hD hfr0 hrA12 hfA12 hfo_214 hT0 whloop_210_0_29 hghloop_210_0_29 hrelhloop_210_0 hrelhloop_210_1 hmuhloop_210 ls hl; exfalso; omega
                  | succ n ih_hloop_210 =>
                    intro y_211 by_211 f_213 hG H locs hP hS hD hfr0 hrA12 hfA12 hfo_214 hT0 whloop_210_0_29 hghloop_210_0_29 hrelhloop_210_0 hrelhloop_210_1 hmuhloop_210 ls hl
                    obtain ⟨a_216, a_217, a_218, v_219, a_220, v_221, v_222, v_223, v_224, v_225, v_226, v_227, v_228, v_229, v_230, a_231, a_232, a_233, a_234, a_235, a_236, a_237, a_238, v_239, v_240, v_241, v_242, v_243, a_244, v_245, a_246, a_247, v_248, v_249, a_250, v_251, a_252, a_253, v_254, v_255, a_256, a_257, a_258, v_259, a_260, a_261, a_262, a_263, a_264, a_265, a_266, a_267, a_268, v_269, v_270, a_271, hfo_215, ⟨ma_216, ka_216⟩, ⟨ma_217, ka_217⟩, ⟨ma_218, ka_218⟩, bv_219, ⟨ma_220, ka_220⟩, bv_221, bv_222, bv_227, bv_228, bv_229, ⟨ma_231, ka_231⟩, ⟨ma_232, ka_232⟩, ⟨ma_233, ka_233⟩, ⟨ma_234, ka_234⟩, ⟨ma_235, ka_235⟩, ⟨ma_236, ka_236⟩, ⟨ma_237, ka_237⟩, ⟨ma_238, ka_238⟩, bv_239, bv_241, bv_243, ⟨ma_244, ka_244⟩, bv_245, ⟨ma_246, ka_246⟩, ⟨ma_247, ka_247⟩, bv_248, ⟨ma_250, ka_250⟩, bv_251, ⟨ma_252, ka_252⟩, ⟨ma_253, ka_253⟩, bv_254, ⟨ma_256, ka_256⟩, ⟨ma_257, ka_257⟩, ⟨ma_258, ka_258⟩, bv_259, ⟨ma_260, ka_260⟩, ⟨ma_261, ka_261⟩, ⟨ma_262, ka_262⟩, ⟨ma_263, ka_263⟩, ⟨ma_264, ka_264⟩, ⟨ma_265, ka_265⟩, ⟨ma_266, ka_266⟩, ⟨ma_267, ka_267⟩, ⟨ma_268, ka_268⟩, bv_269, ⟨ma_271, ka_271⟩⟩ := un_12 (hG _ mo0) ko0
                    have bv_223 : ((-2147483648) ≤ v_223.toInt ∧ v_223.toInt ≤ 2147483647) := ⟨i32_lo _, i32_hi _⟩
                    have bv_224 : ((-2147483648) ≤ v_224.toInt ∧ v_224.toInt ≤ 2147483647) := ⟨i32_lo _, i32_hi _⟩
                    have bv_225 : ((-2147483648) ≤ v_225.toInt ∧ v_225.toInt ≤ 2147483647) := ⟨i32_lo _, i32_hi _⟩
                    have bv_226 : ((-2147483648) ≤ v_226.toInt ∧ v_226.toInt ≤ 2147483647) := ⟨i32_lo _, i32_hi _⟩
                    have bv_230 : ((-2147483648) ≤ v_230.toInt ∧ v_230.toInt ≤ 2147483647) := ⟨i32_lo _, i32_hi _⟩
                    have bv_240 : ((-2147483648) ≤ v_240.toInt ∧ v_240.toInt ≤ 2147483647) := ⟨i32_lo _, i32_hi _⟩
                    have bv_242 : ((-2147483648) ≤ v_242.toInt ∧ v_242.toInt ≤ 2147483647) := ⟨i32_lo _, i32_hi _⟩
                    have bv_249 : ((-2147483648) ≤ v_249.toInt ∧ v_249.toInt ≤ 2147483647) := ⟨i32_lo _, i32_hi _⟩
                    have bv_255 : ((-2147483648) ≤ v_255.toInt ∧ v_255.toInt ≤ 2147483647) := ⟨i32_lo _, i32_hi _⟩
                    have bv_270 : ((-2147483648) ≤ v_270.toInt ∧ v_270.toInt ≤ 2147483647) := ⟨i32_lo _, i32_hi _⟩
                    obtain ⟨rfl, rfl, rfl, rfl, rfl, rfl, rfl, rfl, rfl, rfl, rfl, rfl, rfl, rfl, rfl, rfl, rfl, rfl, rfl, rfl, rfl, rfl, rfl, rfl, rfl, rfl, rfl, rfl, rfl, rfl, rfl⟩ := re_12 hfo_1 hfo_215 (hrA12 o0 ko0)
                    obtain rfl := ri_12_3 hfo_1 hfo_215 (hfA12 o0 ko0 3 (by decide) (by decide) (by decide) (by decide) (by decide) (by decide) (by decide) (by decide) (by decide))
                    obtain rfl := ri_12_5 hfo_1 hfo_215 (hfA12 o0 ko0 5 (by decide) (by decide) (by decide) (by decide) (by decide) (by decide) (by decide) (by decide) (by decide))
                    obtain rfl := ri_12_6 hfo_1 hfo_215 (hfA12 o0 ko0 6 (by decide) (by decide) (by decide) (by decide) (by decide) (by decide) (by decide) (by decide) (by decide))
                    obtain rfl := ri_12_11 hfo_1 hfo_215 (hfA12 o0 ko0 11 (by decide) (by decide) (by decide) (by decide) (by decide) (by decide) (by decide) (by decide) (by decide))
                    obtain rfl := ri_12_12 hfo_1 hfo_215 (hfA12 o0 ko0 12 (by decide) (by decide) (by decide) (by decide) (by decide) (by decide) (by decide) (by decide) (by decide))
                    obtain rfl := ri_12_13 hfo_1 hfo_215 (hfA12 o0 ko0 13 (by decide) (by decide) (by decide) (by decide) (by decide) (by decide) (by decide) (by decide) (by decide))
                    obtain rfl := ri_12_14 hfo_1 hfo_215 (hfA12 o0 ko0 14 (by decide) (by decide) (by decide) (by decide) (by decide) (by decide) (by decide) (by decide) (by decide))
                    obtain rfl := ri_12_35 hfo_1 hfo_215 (hfA12 o0 ko0 35 (by decide) (by decide) (by decide) (by decide) (by decide) (by decide) (by decide) (by decide) (by decide))
                    obtain rfl := ri_12_38 hfo_1 hfo_215 (hfA12 o0 ko0 38 (by decide) (by decide) (by decide) (by decide) (by decide) (by decide) (by decide) (by decide) (by decide))
                    obtain rfl : v_245 = whloop_210_0_29 := by rw [hfo_215] at hghloop_210_0_29; exact Option.some.inj hghloop_210_0_29
                    refine lv_iload hx hb dX12_orders_122 (lv_at hl 0 rfl) ?_
                    refine lv_iload_n hx hb dX12_orders_124 rfl (lv_at hl 1 rfl) ?_
                    refine lv_icmp_ge (tgt := 224) hx hb dX12_orders_125 (by decide) (fun c_272 => ?_) (fun c_272 => ?_)
                    · skip
                      rw [Int32.le_iff_toInt_le] at c_272
                      refine lv_aload_n hx hb dX12_orders_224 rfl (lv_at hl 2 rfl) ?_
                      refine tk_getP (D := (dC, dI)) (ci := 12) (v := .int v_259) (C := RX12) (T := TX12) (N := 56) hx hb hU inlX12 hown hK hP mo0 hfo_215 rfl 43 (by decide) (hU _ wd_572) (fun _ h9 => h9) rfl dX12_orders_225 ?_
                      refine lv_istore (lv' := [(4, .int v_259), (3, .int x_143), (0, .ref o0), (1, .int p1), (2, .int p2)]) hx hb dX12_orders_228 hl (by decide) rfl (fun ls hl => ?_)
                      refine lv_iconst (v := 0) hx hb dX12_orders_230 (by decide) ?_
                      refine lv_istore (lv' := [(5, .int 0), (4, .int v_259), (3, .int x_143), (0, .ref o0), (1, .int p1), (2, .int p2)]) hx hb dX12_orders_231 hl (by decide) rfl (fun ls hl => ?_)
                      have hloop_291 : ∀ (n : Nat), ∀ (y_292 : Int32), (0 ≤ y_292.toInt ∧ y_292.toInt ≤ 16) → ∀ (f_294 : Nat → va_E), GI (okc cI cL cZ cR cG cH L kd) kd L f_294 → ∀ (H : Heap) (locs : List Loc), va_P (dC, dI) vwCl (va_pl L f_294) H → va_S (fun q => q ∈ L) s.heap H locs → va_D (fun q => q ∈ L) (va_pl L f_294) → (∀ b, kd b ≠ 12 → kd b ≠ 579 → kd b ≠ 581 → kd b ≠ 583 → kd b ≠ 585 → kd b ≠ 587 → kd b ≠ 588 → kd b ≠ 589 → kd b ≠ 590 → kd b ≠ 591 → kd b ≠ 592 → kd b ≠ 593 → kd b ≠ 597 → kd b ≠ 598 → kd b ≠ 599 → kd b ≠ 603 → kd b ≠ 604 → kd b ≠ 606 → kd b ≠ 607 → kd b ≠ 608 → kd b ≠ 609 → kd b ≠ 610 → f_294 b = f b) → (∀ b, kd b = 12 → ∀ j, fldR (f_294 b) j = fldR (f b) j) → (∀ b, kd b = 12 → ∀ j, j ≠ 23 → j ≠ 25 → j ≠ 27 → j ≠ 29 → j ≠ 32 → j ≠ 33 → j ≠ 43 → j ≠ 53 → j ≠ 54 → fldI (f_294 b) j = fldI (f b) j) → (f_294 a_2 = .inl (cI, 1560, .inl g_59)) → (f_294 o0 = .inr (12, [.ref a_2, .ref a_3, .ref a_4, .int v_5, .ref a_6, .int v_7, .int v_8, .int v_223, .int v_224, .int v_225, .int v_226, .int v_13, .int v_14, .int v_15, .int v_16, .ref a_17, .ref a_18, .ref a_19, .ref a_20, .ref a_21, .ref a_22, .ref a_23, .ref a_24, .int v_239, .int v_240, .int v_241, .int v_242, .int v_243, .ref a_30, .int v_245, .ref a_32, .ref a_33, .int v_248, .int v_249, .ref a_36, .int v_37, .ref a_38, .ref a_39, .int v_40, .int v_255, .ref a_42, .ref a_43, .ref a_44, .int v_259, .ref a_46, .ref a_47, .ref a_48, .ref a_49, .ref a_50, .ref a_51, .ref a_52, .ref a_53, .ref a_54, .int v_269, .int v_270, .ref a_57])) → srel kd 592 f_294 o0 → 16 - y_292.toInt < (n : Int) → ∀ (ls : Array Slot), lv_has ls 6 [(5, .int y_292), (4, .int v_259), (3, .int x_143), (0, .ref o0), (1, .int p1), (2, .int p2)] → W p l e (headSpec (wU yX12_orders cX12_orders 6 (some .int)) { frames := 24, cells := 0, slots := 0, locals := 676 }).room s m [.ref o0, .int p1, .int p2].toArray below meth c H locs 0 0 (MQ below (va_Qi (fun (r : Int32) (f9 : Nat → va_E) => GI (okc cI cL cZ cR cG cH L kd) kd L f9 ∧ ((-2147483648) ≤ r.toInt ∧ r.toInt ≤ 2147483647) ∧ (∀ b, kd b ≠ 12 → kd b ≠ 579 → kd b ≠ 581 → kd b ≠ 583 → kd b ≠ 585 → kd b ≠ 587 → kd b ≠ 588 → kd b ≠ 589 → kd b ≠ 590 → kd b ≠ 591 → kd b ≠ 592 → kd b ≠ 593 → kd b ≠ 597 → kd b ≠ 598 → kd b ≠ 599 → kd b ≠ 603 → kd b ≠ 604 → kd b ≠ 606 → kd b ≠ 607 → kd b ≠ 608 → kd b ≠ 609 → kd b ≠ 610 → f9 b = f b) ∧ (∀ b, kd b = 12 → ∀ j, fldR (f9 b) j = fldR (f b) j) ∧ (∀ b, kd b = 12 → ∀ j, j ≠ 23 → j ≠ 25 → j ≠ 27 → j ≠ 29 → j ≠ 32 → j ≠ 33 → j ≠ 43 → j ≠ 53 → j ≠ 54 → fldI (f9 b) j = fldI (f b) j) ∧ (∀ (w29 z29 : Int32), fldI (f o0) 29 = some w29 → fldI (f9 o0) 29 = some z29 → z29.toInt = w29.toInt) ∧ (srel kd 592 f9 o0)) (qP (dC, dI) cI cL cZ cR cG cH L) (fun q => q ∈ L)) [.ref o0, .int p1, .int p2].toArray s 0 0 (fun q => q ∈ L)) (F0 m 233 ls []) := by
                        intro n
                        induction n with
                        | zero => intro y_292 by_292 f_294 hG H locs hP hS hD hfr0 hrA12 hfA12 hfo_295 hfo_296 hT0 hmuhloop_291 ls hl; exfalso; omega
                        | succ n ih_hloop_291 =>
                          intro y_292 by_292 f_294 hG H locs hP hS hD hfr0 hrA12 hfA12 hfo_295 hfo_296 hT0 hmuhloop_291 ls hl
                          refine lv_iload hx hb dX12_orders_233 (lv_at hl 0 rfl) ?_
                          refine lv_bipush (v := 16) hx hb dX12_orders_235 (by decide) ?_
                          refine lv_icmp_ge (tgt := 260) hx hb dX12_orders_237 (by decide) (fun c_297 => ?_) (fun c_297 => ?_)
                          · skip
                            rw [Int32.le_iff_toInt_le, ti_16] at c_297
                            refine lv_aload_n hx hb dX12_orders_260 rfl (lv_at hl 3 rfl) ?_
                            refine lv_iconst (v := (-1)) hx hb dX12_orders_261 (by decide) ?_
                            refine tk_putP (D := (dC, dI)) (ci := 12) (v := .int (-1)) (ty := .int) (C := RX12) (T := TX12) (N := 56) hx hb hU inlX12 tyX12 tyX12_ok nmX12 hown hK hP hD hS mo0 hfo_296 rfl 54 (by decide) (hU _ wd_1242) (fun _ h9 => h9) rfl (by decide +kernel) rfl rfl (Nat.le_of_ble_eq_true rfl) dX12_orders_262 (fun H locs hP hD hS => ?_)
                            obtain ⟨f_299, ef_299⟩ : ∃ y : Nat → va_E, y = va_up f_294 o0 (.inr (12, [.ref a_2, .ref a_3, .ref a_4, .int v_5, .ref a_6, .int v_7, .int v_8, .int v_223, .int v_224, .int v_225, .int v_226, .int v_13, .int v_14, .int v_15, .int v_16, .ref a_17, .ref a_18, .ref a_19, .ref a_20, .ref a_21, .ref a_22, .ref a_23, .ref a_24, .int v_239, .int v_240, .int v_241, .int v_242, .int v_243, .ref a_30, .int v_245, .ref a_32, .ref a_33, .int v_248, .int v_249, .ref a_36, .int v_37, .ref a_38, .ref a_39, .int v_40, .int v_255, .ref a_42, .ref a_43, .ref a_44, .int v_259, .ref a_46, .ref a_47, .ref a_48, .ref a_49, .ref a_50, .ref a_51, .ref a_52, .ref a_53, .ref a_54, .int v_269, .int (-1), .ref a_57])) := ⟨_, rfl⟩
                            have hP : va_P (dC, dI) vwCl (va_pl L f_299) H := by rw [ef_299]; exact hP
                            have hD : va_D (fun q => q ∈ L) (va_pl L f_299) := by rw [ef_299]; exact hD
                            have hG : GI (okc cI cL cZ cR cG cH L kd) kd L f_299 := by rw [ef_299]; exact hG.set o0 (mk_12 ko0 ⟨a_2, a_3, a_4, v_5, a_6, v_7, v_8, v_223, v_224, v_225, v_226, v_13, v_14, v_15, v_16, a_17, a_18, a_19, a_20, a_21, a_22, a_23, a_24, v_239, v_240, v_241, v_242, v_243, a_30, v_245, a_32, a_33, v_248, v_249, a_36, v_37, a_38, a_39, v_40, v_255, a_42, a_43, a_44, v_259, a_46, a_47, a_48, a_49, a_50, a_51, a_52, a_53, a_54, v_269, (-1), a_57, rfl, ⟨ma_2, ka_2⟩, ⟨ma_3, ka_3⟩, ⟨ma_4, ka_4⟩, (by constructor <;> omega), ⟨ma_6, ka_6⟩, (by constructor <;> omega), (by constructor <;> omega), (by constructor <;> omega), (by constructor <;> omega), (by constructor <;> omega), ⟨ma_17, ka_17⟩, ⟨ma_18, ka_18⟩, ⟨ma_19, ka_19⟩, ⟨ma_20, ka_20⟩, ⟨ma_21, ka_21⟩, ⟨ma_22, ka_22⟩, ⟨ma_23, ka_23⟩, ⟨ma_24, ka_24⟩, (by constructor <;> omega), (by constructor <;> omega), (by constructor <;> omega), ⟨ma_30, ka_30⟩, (by constructor <;> omega), ⟨ma_32, ka_32⟩, ⟨ma_33, ka_33⟩, (by constructor <;> omega), ⟨ma_36, ka_36⟩, (by constructor <;> omega), ⟨ma_38, ka_38⟩, ⟨ma_39, ka_39⟩, (by constructor <;> omega), ⟨ma_42, ka_42⟩, ⟨ma_43, ka_43⟩, ⟨ma_44, ka_44⟩, (by constructor <;> omega), ⟨ma_46, ka_46⟩, ⟨ma_47, ka_47⟩, ⟨ma_48, ka_48⟩, ⟨ma_49, ka_49⟩, ⟨ma_50, ka_50⟩, ⟨ma_51, ka_51⟩, ⟨ma_52, ka_52⟩, ⟨ma_53, ka_53⟩, ⟨ma_54, ka_54⟩, (by constructor <;> omega), ⟨ma_57, ka_57⟩⟩)
                            have hfo_300 : f_299 a_2 = .inl (cI, 1560, .inl g_59) := by rw [ef_299, up_ne (kd_ne ko0 ka_2 (by decide))]; exact hfo_295
                            have hfr0 : ∀ b, kd b ≠ 12 → kd b ≠ 579 → kd b ≠ 581 → kd b ≠ 583 → kd b ≠ 585 → kd b ≠ 587 → kd b ≠ 588 → kd b ≠ 589 → kd b ≠ 590 → kd b ≠ 591 → kd b ≠ 592 → kd b ≠ 593 → kd b ≠ 597 → kd b ≠ 598 → kd b ≠ 599 → kd b ≠ 603 → kd b ≠ 604 → kd b ≠ 606 → kd b ≠ 607 → kd b ≠ 608 → kd b ≠ 609 → kd b ≠ 610 → f_299 b = f b := fun b q12 q579 q581 q583 q585 q587 q588 q589 q590 q591 q592 q593 q597 q598 q599 q603 q604 q606 q607 q608 q609 q610 => (congrFun ef_299 b).trans ((up_ne (fun e9 => q12 (by rw [e9]; exact ko0))).trans (hfr0 b q12 q579 q581 q583 q585 q587 q588 q589 q590 q591 q592 q593 q597 q598 q599 q603 q604 q606 q607 q608 q609 q610))
                            have hrA12 : ∀ b, kd b = 12 → ∀ j, fldR (f_299 b) j = fldR (f b) j := fun b kb j => ((congrArg (fun x => fldR x j) (congrFun ef_299 b)).trans (fra_up (fun j => by rw [hfo_296]; exact fr_set (k := 54) rfl rfl j) j b)).trans (hrA12 b kb j)
                            have hfA12 : ∀ b, kd b = 12 → ∀ j, j ≠ 23 → j ≠ 25 → j ≠ 27 → j ≠ 29 → j ≠ 32 → j ≠ 33 → j ≠ 43 → j ≠ 53 → j ≠ 54 → fldI (f_299 b) j = fldI (f b) j := fun b kb j n23 n25 n27 n29 n32 n33 n43 n53 n54 => ((congrArg (fun x => fldI x j) (congrFun ef_299 b)).trans (fia_up (fun h9 => by rw [hfo_296]; exact fi_set (k := 54) rfl h9) n54 b)).trans (hfA12 b kb j n23 n25 n27 n29 n32 n33 n43 n53 n54)
                            have hT0 : srel kd 592 f_299 o0 := by rw [ef_299]; exact hT0.keep (fun b _ => fr_up (by rw [hfo_296]; rfl) b) (fun b _ => fk_up (by rw [hfo_296]; rfl) b) (fun b _ => fk_up (by rw [hfo_296]; rfl) b) (fun b q => up_ne (kd_ne ko0 q (by decide)))
                            have hfo_301 : f_299 o0 = .inr (12, [.ref a_2, .ref a_3, .ref a_4, .int v_5, .ref a_6, .int v_7, .int v_8, .int v_223, .int v_224, .int v_225, .int v_226, .int v_13, .int v_14, .int v_15, .int v_16, .ref a_17, .ref a_18, .ref a_19, .ref a_20, .ref a_21, .ref a_22, .ref a_23, .ref a_24, .int v_239, .int v_240, .int v_241, .int v_242, .int v_243, .ref a_30, .int v_245, .ref a_32, .ref a_33, .int v_248, .int v_249, .ref a_36, .int v_37, .ref a_38, .ref a_39, .int v_40, .int v_255, .ref a_42, .ref a_43, .ref a_44, .int v_259, .ref a_46, .ref a_47, .ref a_48, .ref a_49, .ref a_50, .ref a_51, .ref a_52, .ref a_53, .ref a_54, .int v_269, .int (-1), .ref a_57]) := by rw [ef_299]; exact up_self
                            refine lv_aload_n hx hb dX12_orders_265 rfl (lv_at hl 3 rfl) ?_
                            refine lv_iconst (v := 0) hx hb dX12_orders_266 (by decide) ?_
                            refine lv_iload_n hx hb dX12_orders_267 rfl (lv_at hl 2 rfl) ?_
                            refine tk_VvP (As := [.int 0, .int x_143]) (rest := []) (n := 2) hx hb hml hown hU hN hZ (s_X12_triesOrders_k12 l (dC, dI) cI cL cZ cR cG cH Z kd L 9 f_299 hG o0 mo0 ko0 0 (by decide) x_143 (by constructor <;> omega) (by intro w53 e53; rw [hfo_301] at e53; obtain rfl := Option.some.inj e53; omega) (fun b9 g9 h1 h2 => by rw [hfo_301] at h1; obtain rfl := Option.some.inj h1; rw [hfo_300] at h2; cases h2; omega) (by (try rw [ti_0]) <;> omega)) wd_1247 wd_1248 wd_1249 wd_5 wd_1250 (by decide +kernel) ⟨Nat.le_of_ble_eq_true rfl, Nat.le_of_ble_eq_true rfl⟩ hK hP hD hS mo0 hfo_301 12 rfl rfl rfl hl.1 rfl (Nat.le_of_ble_eq_true rfl) dX12_orders_268 ⟨Nat.le_of_ble_eq_true rfl, Nat.le_of_ble_eq_true rfl⟩ (fun f_303 H locs hw hP hD hS => ?_)
                            obtain ⟨hG, hkc_304, hra_305, hfa_306⟩ := hw
                            have hfo_308 : f_303 a_2 = .inl (cI, 1560, .inl g_59) := by rw [hkc_304 a_2 (by rw [ka_2]; decide) (by rw [ka_2]; decide) (by rw [ka_2]; decide) (by rw [ka_2]; decide) (by rw [ka_2]; decide) (by rw [ka_2]; decide) (by rw [ka_2]; decide) (by rw [ka_2]; decide)]; exact hfo_300
                            have hfr0 : ∀ b, kd b ≠ 12 → kd b ≠ 579 → kd b ≠ 581 → kd b ≠ 583 → kd b ≠ 585 → kd b ≠ 587 → kd b ≠ 588 → kd b ≠ 589 → kd b ≠ 590 → kd b ≠ 591 → kd b ≠ 592 → kd b ≠ 593 → kd b ≠ 597 → kd b ≠ 598 → kd b ≠ 599 → kd b ≠ 603 → kd b ≠ 604 → kd b ≠ 606 → kd b ≠ 607 → kd b ≠ 608 → kd b ≠ 609 → kd b ≠ 610 → f_303 b = f b := fun b q12 q579 q581 q583 q585 q587 q588 q589 q590 q591 q592 q593 q597 q598 q599 q603 q604 q606 q607 q608 q609 q610 => (hkc_304 b q12 q589 q597 q598 q599 q607 q608 q609).trans (hfr0 b q12 q579 q581 q583 q585 q587 q588 q589 q590 q591 q592 q593 q597 q598 q599 q603 q604 q606 q607 q608 q609 q610)
                            have hrA12 : ∀ b, kd b = 12 → ∀ j, fldR (f_303 b) j = fldR (f b) j := fun b kb j => (hra_305 b kb j).trans (hrA12 b kb j)
                            have hfA12 : ∀ b, kd b = 12 → ∀ j, j ≠ 23 → j ≠ 25 → j ≠ 27 → j ≠ 29 → j ≠ 32 → j ≠ 33 → j ≠ 43 → j ≠ 53 → j ≠ 54 → fldI (f_303 b) j = fldI (f b) j := fun b kb j n23 n25 n27 n29 n32 n33 n43 n53 n54 => (hfa_306 b kb j n23 n43 n54).trans (hfA12 b kb j n23 n25 n27 n29 n32 n33 n43 n53 n54)
                            have hT0 : srel kd 592 f_303 o0 := hT0.keep (fun b q => hra_305 b q 30) (fun b q => hfa_306 b q 32 (by decide) (by decide) (by decide)) (fun b q => hfa_306 b q 33 (by decide) (by decide) (by decide)) (fun b q => hkc_304 b (by rw [q]; decide) (by rw [q]; decide) (by rw [q]; decide) (by rw [q]; decide) (by rw [q]; decide) (by rw [q]; decide) (by rw [q]; decide) (by rw [q]; decide))
                            obtain ⟨a_310, a_311, a_312, v_313, a_314, v_315, v_316, v_317, v_318, v_319, v_320, v_321, v_322, v_323, v_324, a_325, a_326, a_327, a_328, a_329, a_330, a_331, a_332, v_333, v_334, v_335, v_336, v_337, a_338, v_339, a_340, a_341, v_342, v_343, a_344, v_345, a_346, a_347, v_348, v_349, a_350, a_351, a_352, v_353, a_354, a_355, a_356, a_357, a_358, a_359, a_360, a_361, a_362, v_363, v_364, a_365, hfo_309, ⟨ma_310, ka_310⟩, ⟨ma_311, ka_311⟩, ⟨ma_312, ka_312⟩, bv_313, ⟨ma_314, ka_314⟩, bv_315, bv_316, bv_321, bv_322, bv_323, ⟨ma_325, ka_325⟩, ⟨ma_326, ka_326⟩, ⟨ma_327, ka_327⟩, ⟨ma_328, ka_328⟩, ⟨ma_329, ka_329⟩, ⟨ma_330, ka_330⟩, ⟨ma_331, ka_331⟩, ⟨ma_332, ka_332⟩, bv_333, bv_335, bv_337, ⟨ma_338, ka_338⟩, bv_339, ⟨ma_340, ka_340⟩, ⟨ma_341, ka_341⟩, bv_342, ⟨ma_344, ka_344⟩, bv_345, ⟨ma_346, ka_346⟩, ⟨ma_347, ka_347⟩, bv_348, ⟨ma_350, ka_350⟩, ⟨ma_351, ka_351⟩, ⟨ma_352, ka_352⟩, bv_353, ⟨ma_354, ka_354⟩, ⟨ma_355, ka_355⟩, ⟨ma_356, ka_356⟩, ⟨ma_357, ka_357⟩, ⟨ma_358, ka_358⟩, ⟨ma_359, ka_359⟩, ⟨ma_360, ka_360⟩, ⟨ma_361, ka_361⟩, ⟨ma_362, ka_362⟩, bv_363, ⟨ma_365, ka_365⟩⟩ := un_12 (hG _ mo0) ko0
                            have bv_317 : ((-2147483648) ≤ v_317.toInt ∧ v_317.toInt ≤ 2147483647) := ⟨i32_lo _, i32_hi _⟩
                            have bv_318 : ((-2147483648) ≤ v_318.toInt ∧ v_318.toInt ≤ 2147483647) := ⟨i32_lo _, i32_hi _⟩
                            have bv_319 : ((-2147483648) ≤ v_319.toInt ∧ v_319.toInt ≤ 2147483647) := ⟨i32_lo _, i32_hi _⟩
                            have bv_320 : ((-2147483648) ≤ v_320.toInt ∧ v_320.toInt ≤ 2147483647) := ⟨i32_lo _, i32_hi _⟩
                            have bv_324 : ((-2147483648) ≤ v_324.toInt ∧ v_324.toInt ≤ 2147483647) := ⟨i32_lo _, i32_hi _⟩
                            have bv_334 : ((-2147483648) ≤ v_334.toInt ∧ v_334.toInt ≤ 2147483647) := ⟨i32_lo _, i32_hi _⟩
                            have bv_336 : ((-2147483648) ≤ v_336.toInt ∧ v_336.toInt ≤ 2147483647) := ⟨i32_lo _, i32_hi _⟩
                            have bv_343 : ((-2147483648) ≤ v_343.toInt ∧ v_343.toInt ≤ 2147483647) := ⟨i32_lo _, i32_hi _⟩
                            have bv_349 : ((-2147483648) ≤ v_349.toInt ∧ v_349.toInt ≤ 2147483647) := ⟨i32_lo _, i32_hi _⟩
                            have bv_364 : ((-2147483648) ≤ v_364.toInt ∧ v_364.toInt ≤ 2147483647) := ⟨i32_lo _, i32_hi _⟩
                            obtain ⟨rfl, rfl, rfl, rfl, rfl, rfl, rfl, rfl, rfl, rfl, rfl, rfl, rfl, rfl, rfl, rfl, rfl, rfl, rfl, rfl, rfl, rfl, rfl, rfl, rfl, rfl, rfl, rfl, rfl, rfl, rfl⟩ := re_12 hfo_1 hfo_309 (hrA12 o0 ko0)
                            obtain rfl := ri_12_3 hfo_1 hfo_309 (hfA12 o0 ko0 3 (by decide) (by decide) (by decide) (by decide) (by decide) (by decide) (by decide) (by decide) (by decide))
                            obtain rfl := ri_12_5 hfo_1 hfo_309 (hfA12 o0 ko0 5 (by decide) (by decide) (by decide) (by decide) (by decide) (by decide) (by decide) (by decide) (by decide))
                            obtain rfl := ri_12_6 hfo_1 hfo_309 (hfA12 o0 ko0 6 (by decide) (by decide) (by decide) (by decide) (by decide) (by decide) (by decide) (by decide) (by decide))
                            obtain rfl := ri_12_11 hfo_1 hfo_309 (hfA12 o0 ko0 11 (by decide) (by decide) (by decide) (by decide) (by decide) (by decide) (by decide) (by decide) (by decide))
                            obtain rfl := ri_12_12 hfo_1 hfo_309 (hfA12 o0 ko0 12 (by decide) (by decide) (by decide) (by decide) (by decide) (by decide) (by decide) (by decide) (by decide))
                            obtain rfl := ri_12_13 hfo_1 hfo_309 (hfA12 o0 ko0 13 (by decide) (by decide) (by decide) (by decide) (by decide) (by decide) (by decide) (by decide) (by decide))
                            obtain rfl := ri_12_14 hfo_1 hfo_309 (hfA12 o0 ko0 14 (by decide) (by decide) (by decide) (by decide) (by decide) (by decide) (by decide) (by decide) (by decide))
                            obtain rfl := ri_12_35 hfo_1 hfo_309 (hfA12 o0 ko0 35 (by decide) (by decide) (by decide) (by decide) (by decide) (by decide) (by decide) (by decide) (by decide))
                            obtain rfl := ri_12_38 hfo_1 hfo_309 (hfA12 o0 ko0 38 (by decide) (by decide) (by decide) (by decide) (by decide) (by decide) (by decide) (by decide) (by decide))
                            obtain rfl := ri_12_25 hfo_301 hfo_309 (hfa_306 o0 ko0 25 (by decide) (by decide) (by decide))
                            obtain rfl := ri_12_27 hfo_301 hfo_309 (hfa_306 o0 ko0 27 (by decide) (by decide) (by decide))
                            obtain rfl := ri_12_29 hfo_301 hfo_309 (hfa_306 o0 ko0 29 (by decide) (by decide) (by decide))
                            obtain rfl := ri_12_32 hfo_301 hfo_309 (hfa_306 o0 ko0 32 (by decide) (by decide) (by decide))
                            obtain rfl := ri_12_33 hfo_301 hfo_309 (hfa_306 o0 ko0 33 (by decide) (by decide) (by decide))
                            obtain rfl := ri_12_53 hfo_301 hfo_309 (hfa_306 o0 ko0 53 (by decide) (by decide) (by decide))
                            refine lv_aload_n hx hb dX12_orders_271 rfl (lv_at hl 3 rfl) ?_
                            refine lv_iload hx hb dX12_orders_272 (lv_at hl 1 rfl) ?_
                            refine tk_putP (D := (dC, dI)) (ci := 12) (v := .int v_259) (ty := .int) (C := RX12) (T := TX12) (N := 56) hx hb hU inlX12 tyX12 tyX12_ok nmX12 hown hK hP hD hS mo0 hfo_309 rfl 43 (by decide) (hU _ wd_572) (fun _ h9 => h9) rfl (by decide +kernel) rfl rfl (Nat.le_of_ble_eq_true rfl) dX12_orders_274 (fun H locs hP hD hS => ?_)
                            obtain ⟨f_367, ef_367⟩ : ∃ y : Nat → va_E, y = va_up f_303 o0 (.inr (12, [.ref a_2, .ref a_3, .ref a_4, .int v_5, .ref a_6, .int v_7, .int v_8, .int v_317, .int v_318, .int v_319, .int v_320, .int v_13, .int v_14, .int v_15, .int v_16, .ref a_17, .ref a_18, .ref a_19, .ref a_20, .ref a_21, .ref a_22, .ref a_23, .ref a_24, .int v_333, .int v_334, .int v_241, .int v_336, .int v_243, .ref a_30, .int v_245, .ref a_32, .ref a_33, .int v_248, .int v_249, .ref a_36, .int v_37, .ref a_38, .ref a_39, .int v_40, .int v_349, .ref a_42, .ref a_43, .ref a_44, .int v_259, .ref a_46, .ref a_47, .ref a_48, .ref a_49, .ref a_50, .ref a_51, .ref a_52, .ref a_53, .ref a_54, .int v_269, .int v_364, .ref a_57])) := ⟨_, rfl⟩
                            have hP : va_P (dC, dI) vwCl (va_pl L f_367) H := by rw [ef_367]; exact hP
                            have hD : va_D (fun q => q ∈ L) (va_pl L f_367) := by rw [ef_367]; exact hD
                            have hG : GI (okc cI cL cZ cR cG cH L kd) kd L f_367 := by rw [ef_367]; exact hG.set o0 (mk_12 ko0 ⟨a_2, a_3, a_4, v_5, a_6, v_7, v_8, v_317, v_318, v_319, v_320, v_13, v_14, v_15, v_16, a_17, a_18, a_19, a_20, a_21, a_22, a_23, a_24, v_333, v_334, v_241, v_336, v_243, a_30, v_245, a_32, a_33, v_248, v_249, a_36, v_37, a_38, a_39, v_40, v_349, a_42, a_43, a_44, v_259, a_46, a_47, a_48, a_49, a_50, a_51, a_52, a_53, a_54, v_269, v_364, a_57, rfl, ⟨ma_2, ka_2⟩, ⟨ma_3, ka_3⟩, ⟨ma_4, ka_4⟩, (by constructor <;> omega), ⟨ma_6, ka_6⟩, (by constructor <;> omega), (by constructor <;> omega), (by constructor <;> omega), (by constructor <;> omega), (by constructor <;> omega), ⟨ma_17, ka_17⟩, ⟨ma_18, ka_18⟩, ⟨ma_19, ka_19⟩, ⟨ma_20, ka_20⟩, ⟨ma_21, ka_21⟩, ⟨ma_22, ka_22⟩, ⟨ma_23, ka_23⟩, ⟨ma_24, ka_24⟩, (by constructor <;> omega), (by constructor <;> omega), (by constructor <;> omega), ⟨ma_30, ka_30⟩, (by constructor <;> omega), ⟨ma_32, ka_32⟩, ⟨ma_33, ka_33⟩, (by constructor <;> omega), ⟨ma_36, ka_36⟩, (by constructor <;> omega), ⟨ma_38, ka_38⟩, ⟨ma_39, ka_39⟩, (by constructor <;> omega), ⟨ma_42, ka_42⟩, ⟨ma_43, ka_43⟩, ⟨ma_44, ka_44⟩, (by constructor <;> omega), ⟨ma_46, ka_46⟩, ⟨ma_47, ka_47⟩, ⟨ma_48, ka_48⟩, ⟨ma_49, ka_49⟩, ⟨ma_50, ka_50⟩, ⟨ma_51, ka_51⟩, ⟨ma_52, ka_52⟩, ⟨ma_53, ka_53⟩, ⟨ma_54, ka_54⟩, (by constructor <;> omega), ⟨ma_57, ka_57⟩⟩)
                            have hfo_368 : f_367 a_2 = .inl (cI, 1560, .inl g_59) := by rw [ef_367, up_ne (kd_ne ko0 ka_2 (by decide))]; exact hfo_308
                            have hfr0 : ∀ b, kd b ≠ 12 → kd b ≠ 579 → kd b ≠ 581 → kd b ≠ 583 → kd b ≠ 585 → kd b ≠ 587 → kd b ≠ 588 → kd b ≠ 589 → kd b ≠ 590 → kd b ≠ 591 → kd b ≠ 592 → kd b ≠ 593 → kd b ≠ 597 → kd b ≠ 598 → kd b ≠ 599 → kd b ≠ 603 → kd b ≠ 604 → kd b ≠ 606 → kd b ≠ 607 → kd b ≠ 608 → kd b ≠ 609 → kd b ≠ 610 → f_367 b = f b := fun b q12 q579 q581 q583 q585 q587 q588 q589 q590 q591 q592 q593 q597 q598 q599 q603 q604 q606 q607 q608 q609 q610 => (congrFun ef_367 b).trans ((up_ne (fun e9 => q12 (by rw [e9]; exact ko0))).trans (hfr0 b q12 q579 q581 q583 q585 q587 q588 q589 q590 q591 q592 q593 q597 q598 q599 q603 q604 q606 q607 q608 q609 q610))
                            have hrA12 : ∀ b, kd b = 12 → ∀ j, fldR (f_367 b) j = fldR (f b) j := fun b kb j => ((congrArg (fun x => fldR x j) (congrFun ef_367 b)).trans (fra_up (fun j => by rw [hfo_309]; exact fr_set (k := 43) rfl rfl j) j b)).trans (hrA12 b kb j)
                            have hfA12 : ∀ b, kd b = 12 → ∀ j, j ≠ 23 → j ≠ 25 → j ≠ 27 → j ≠ 29 → j ≠ 32 → j ≠ 33 → j ≠ 43 → j ≠ 53 → j ≠ 54 → fldI (f_367 b) j = fldI (f b) j := fun b kb j n23 n25 n27 n29 n32 n33 n43 n53 n54 => ((congrArg (fun x => fldI x j) (congrFun ef_367 b)).trans (fia_up (fun h9 => by rw [hfo_309]; exact fi_set (k := 43) rfl h9) n43 b)).trans (hfA12 b kb j n23 n25 n27 n29 n32 n33 n43 n53 n54)
                            have hT0 : srel kd 592 f_367 o0 := by rw [ef_367]; exact hT0.keep (fun b _ => fr_up (by rw [hfo_309]; rfl) b) (fun b _ => fk_up (by rw [hfo_309]; rfl) b) (fun b _ => fk_up (by rw [hfo_309]; rfl) b) (fun b q => up_ne (kd_ne ko0 q (by decide)))
                            have hfo_369 : f_367 o0 = .inr (12, [.ref a_2, .ref a_3, .ref a_4, .int v_5, .ref a_6, .int v_7, .int v_8, .int v_317, .int v_318, .int v_319, .int v_320, .int v_13, .int v_14, .int v_15, .int v_16, .ref a_17, .ref a_18, .ref a_19, .ref a_20, .ref a_21, .ref a_22, .ref a_23, .ref a_24, .int v_333, .int v_334, .int v_241, .int v_336, .int v_243, .ref a_30, .int v_245, .ref a_32, .ref a_33, .int v_248, .int v_249, .ref a_36, .int v_37, .ref a_38, .ref a_39, .int v_40, .int v_349, .ref a_42, .ref a_43, .ref a_44, .int v_259, .ref a_46, .ref a_47, .ref a_48, .ref a_49, .ref a_50, .ref a_51, .ref a_52, .ref a_53, .ref a_54, .int v_269, .int v_364, .ref a_57]) := by rw [ef_367]; exact up_self
                            refine lv_iconst (v := 0) hx hb dX12_orders_277 (by decide) ?_
                            refine lv_istore (lv' := [(5, .int 0), (4, .int v_259), (3, .int x_143), (0, .ref o0), (1, .int p1), (2, .int p2)]) hx hb dX12_orders_278 hl (by decide) rfl (fun ls hl => ?_)
                            have hloop_388 : ∀ (n : Nat), ∀ (y_389 : Int32), (0 ≤ y_389.toInt ∧ y_389.toInt ≤ 16) → ∀ (f_391 : Nat → va_E), GI (okc cI cL cZ cR cG cH L kd) kd L f_391 → ∀ (H : Heap) (locs : List Loc), va_P (dC, dI) vwCl (va_pl L f_391) H → va_S (fun q => q ∈ L) s.heap H locs → va_D (fun q => q ∈ L) (va_pl L f_391) → (∀ b, kd b ≠ 12 → kd b ≠ 579 → kd b ≠ 581 → kd b ≠ 583 → kd b ≠ 585 → kd b ≠ 587 → kd b ≠ 588 → kd b ≠ 589 → kd b ≠ 590 → kd b ≠ 591 → kd b ≠ 592 → kd b ≠ 593 → kd b ≠ 597 → kd b ≠ 598 → kd b ≠ 599 → kd b ≠ 603 → kd b ≠ 604 → kd b ≠ 606 → kd b ≠ 607 → kd b ≠ 608 → kd b ≠ 609 → kd b ≠ 610 → f_391 b = f b) → (∀ b, kd b = 12 → ∀ j, fldR (f_391 b) j = fldR (f b) j) → (∀ b, kd b = 12 → ∀ j, j ≠ 23 → j ≠ 25 → j ≠ 27 → j ≠ 29 → j ≠ 32 → j ≠ 33 → j ≠ 43 → j ≠ 53 → j ≠ 54 → fldI (f_391 b) j = fldI (f b) j) → (f_391 a_2 = .inl (cI, 1560, .inl g_59)) → (f_391 o0 = .inr (12, [.ref a_2, .ref a_3, .ref a_4, .int v_5, .ref a_6, .int v_7, .int v_8, .int v_317, .int v_318, .int v_319, .int v_320, .int v_13, .int v_14, .int v_15, .int v_16, .ref a_17, .ref a_18, .ref a_19, .ref a_20, .ref a_21, .ref a_22, .ref a_23, .ref a_24, .int v_333, .int v_334, .int v_241, .int v_336, .int v_243, .ref a_30, .int v_245, .ref a_32, .ref a_33, .int v_248, .int v_249, .ref a_36, .int v_37, .ref a_38, .ref a_39, .int v_40, .int v_349, .ref a_42, .ref a_43, .ref a_44, .int v_259, .ref a_46, .ref a_47, .ref a_48, .ref a_49, .ref a_50, .ref a_51, .ref a_52, .ref a_53, .ref a_54, .int v_269, .int v_364, .ref a_57])) → srel kd 592 f_391 o0 → 16 - y_389.toInt < (n : Int) → ∀ (ls : Array Slot), lv_has ls 6 [(5, .int y_389), (4, .int v_259), (3, .int x_143), (0, .ref o0), (1, .int p1), (2, .int p2)] → W p l e (headSpec (wU yX12_orders cX12_orders 6 (some .int)) { frames := 24, cells := 0, slots := 0, locals := 676 }).room s m [.ref o0, .int p1, .int p2].toArray below meth c H locs 0 0 (MQ below (va_Qi (fun (r : Int32) (f9 : Nat → va_E) => GI (okc cI cL cZ cR cG cH L kd) kd L f9 ∧ ((-2147483648) ≤ r.toInt ∧ r.toInt ≤ 2147483647) ∧ (∀ b, kd b ≠ 12 → kd b ≠ 579 → kd b ≠ 581 → kd b ≠ 583 → kd b ≠ 585 → kd b ≠ 587 → kd b ≠ 588 → kd b ≠ 589 → kd b ≠ 590 → kd b ≠ 591 → kd b ≠ 592 → kd b ≠ 593 → kd b ≠ 597 → kd b ≠ 598 → kd b ≠ 599 → kd b ≠ 603 → kd b ≠ 604 → kd b ≠ 606 → kd b ≠ 607 → kd b ≠ 608 → kd b ≠ 609 → kd b ≠ 610 → f9 b = f b) ∧ (∀ b, kd b = 12 → ∀ j, fldR (f9 b) j = fldR (f b) j) ∧ (∀ b, kd b = 12 → ∀ j, j ≠ 23 → j ≠ 25 → j ≠ 27 → j ≠ 29 → j ≠ 32 → j ≠ 33 → j ≠ 43 → j ≠ 53 → j ≠ 54 → fldI (f9 b) j = fldI (f b) j) ∧ (∀ (w29 z29 : Int32), fldI (f o0) 29 = some w29 → fldI (f9 o0) 29 = some z29 → z29.toInt = w29.toInt) ∧ (srel kd 592 f9 o0)) (qP (dC, dI) cI cL cZ cR cG cH L) (fun q => q ∈ L)) [.ref o0, .int p1, .int p2].toArray s 0 0 (fun q => q ∈ L)) (F0 m 280 ls []) := by
                              intro n
                              induction n with
                              | zero => intro y_389 by_389 f_391 hG H locs hP hS hD hfr0 hrA12 hfA12 hfo_392 hfo_393 hT0 hmuhloop_388 ls hl; exfalso; omega
                              | succ n ih_hloop_388 =>
                                intro y_389 by_389 f_391 hG H locs hP hS hD hfr0 hrA12 hfA12 hfo_392 hfo_393 hT0 hmuhloop_388 ls hl
                                refine lv_iload hx hb dX12_orders_280 (lv_at hl 0 rfl) ?_
                                refine lv_bipush (v := 16) hx hb dX12_orders_282 (by decide) ?_
                                refine lv_icmp_ge (tgt := 307) hx hb dX12_orders_284 (by decide) (fun c_394 => ?_) (fun c_394 => ?_)
                                · skip
                                  rw [Int32.le_iff_toInt_le, ti_16] at c_394
                                  refine lv_iload_n hx hb dX12_orders_307 rfl (lv_at hl 5 rfl) ?_
                                  refine lv_if_ne (tgt := 318) hx hb dX12_orders_308 (by decide) (fun c_395 => ?_) (fun c_395 => ?_)
                                  · skip
                                    rw [← Int32.toInt_inj, ti_0] at c_395
                                    exfalso
                                    omega
                                  · skip
                                    rw [← Int32.toInt_inj, ti_0] at c_395
                                    refine lv_aload_n hx hb dX12_orders_311 rfl (lv_at hl 3 rfl) ?_
                                    refine tk_getP (D := (dC, dI)) (ci := 12) (v := .int v_364) (C := RX12) (T := TX12) (N := 56) hx hb hU inlX12 hown hK hP mo0 hfo_393 rfl 54 (by decide) (hU _ wd_1242) (fun _ h9 => h9) rfl dX12_orders_312 ?_
                                    refine lv_goto (tgt := 327) hx hb dX12_orders_315 (by decide) ?_
                                    exact W.iret (v := v_364) hx hb hr (fun t ht hW => ⟨⟨v_364, f_391, rfl, ⟨hG, (by constructor <;> omega), hfr0, hrA12, hfA12, (by intro w29 z29 e29 d29; rw [hfo_1] at e29; rw [hfo_393] at d29; obtain rfl := Option.some.inj e29; obtain rfl := Option.some.inj d29; omega), hT0⟩, by rw [ht]; exact hP, va_K.moved hW.alike hK, pl_in hD⟩, hS.F ht⟩) hS.2.2 dX12_orders_327
                                · skip
                                  rw [Int32.le_iff_toInt_le, ti_16] at c_394
                                  refine lv_aload_n hx hb dX12_orders_287 rfl (lv_at hl 3 rfl) ?_
                                  refine tk_getP (D := (dC, dI)) (ci := 12) (v := .ref a_42) (C := RX12) (T := TX12) (N := 56) hx hb hU inlX12 hown hK hP mo0 hfo_393 rfl 40 (by decide) (hU _ wd_190) (fun _ h9 => h9) rfl dX12_orders_288 ?_
                                  refine lv_iload hx hb dX12_orders_291 (lv_at hl 0 rfl) ?_
                                  refine lv_aload_n hx hb dX12_orders_293 rfl (lv_at hl 3 rfl) ?_
                                  refine tk_getP (D := (dC, dI)) (ci := 12) (v := .ref a_57) (C := RX12) (T := TX12) (N := 56) hx hb hU inlX12 hown hK hP mo0 hfo_393 rfl 55 (by decide) (hU _ wd_204) (fun _ h9 => h9) rfl dX12_orders_294 ?_
                                  refine lv_iload hx hb dX12_orders_297 (lv_at hl 0 rfl) ?_
                                  obtain ⟨g_397, hfo_396, hbg_397⟩ := un_610 (hG _ ma_57) ka_57
                                  refine tk_ildP hx hb hK hP 0 ma_57 hfo_396 rfl (vp_in_iff.mpr (by constructor <;> omega)) dX12_orders_299 ?_
                                  refine lv_topi (fun x_398 ex_398 => ?_)
                                  have bx_398 : (0 ≤ x_398.toInt ∧ x_398.toInt ≤ 8) := by rw [ex_398]; exact hbg_397 _
                                  obtain ⟨g_400, hfo_399, hbg_400⟩ := un_597 (hG _ ma_42) ka_42
                                  refine tk_istP hx hb hK hP hD hS 0 ma_42 hfo_399 rfl (vp_in_iff.mpr (by constructor <;> omega)) dX12_orders_300 (fun H locs hP hD hS => ?_)
                                  obtain ⟨f_402, ef_402⟩ : ∃ y : Nat → va_E, y = va_up f_391 a_42 (.inl (cI, 16, .inl (upd g_400 (Int32.toNatClampNeg y_389) x_398))) := ⟨_, rfl⟩
                                  have hP : va_P (dC, dI) vwCl (va_pl L f_402) H := by rw [ef_402]; exact hP
                                  have hD : va_D (fun q => q ∈ L) (va_pl L f_402) := by rw [ef_402]; exact hD
                                  have hG : GI (okc cI cL cZ cR cG cH L kd) kd L f_402 := by rw [ef_402]; exact hG.set a_42 (mk_597 ka_42 ⟨_, rfl, okI_up hbg_400 (by constructor <;> omega) _⟩)
                                  have hfo_403 : f_402 a_2 = .inl (cI, 1560, .inl g_59) := by rw [ef_402, up_ne (kd_ne ka_42 ka_2 (by decide))]; exact hfo_392
                                  have hfo_404 : f_402 o0 = .inr (12, [.ref a_2, .ref a_3, .ref a_4, .int v_5, .ref a_6, .int v_7, .int v_8, .int v_317, .int v_318, .int v_319, .int v_320, .int v_13, .int v_14, .int v_15, .int v_16, .ref a_17, .ref a_18, .ref a_19, .ref a_20, .ref a_21, .ref a_22, .ref a_23, .ref a_24, .int v_333, .int v_334, .int v_241, .int v_336, .int v_243, .ref a_30, .int v_245, .ref a_32, .ref a_33, .int v_248, .int v_249, .ref a_36, .int v_37, .ref a_38, .ref a_39, .int v_40, .int v_349, .ref a_42, .ref a_43, .ref a_44, .int v_259, .ref a_46, .ref a_47, .ref a_48, .ref a_49, .ref a_50, .ref a_51, .ref a_52, .ref a_53, .ref a_54, .int v_269, .int v_364, .ref a_57]) := by rw [ef_402, up_ne (kd_ne ka_42 ko0 (by decide))]; exact hfo_393
                                  have hfo_405 : f_402 a_57 = .inl (cI, 16, .inl g_397) := by rw [ef_402, up_ne (kd_ne ka_42 ka_57 (by decide))]; exact hfo_396
                                  have hfr0 : ∀ b, kd b ≠ 12 → kd b ≠ 579 → kd b ≠ 581 → kd b ≠ 583 → kd b ≠ 585 → kd b ≠ 587 → kd b ≠ 588 → kd b ≠ 589 → kd b ≠ 590 → kd b ≠ 591 → kd b ≠ 592 → kd b ≠ 593 → kd b ≠ 597 → kd b ≠ 598 → kd b ≠ 599 → kd b ≠ 603 → kd b ≠ 604 → kd b ≠ 606 → kd b ≠ 607 → kd b ≠ 608 → kd b ≠ 609 → kd b ≠ 610 → f_402 b = f b := fun b q12 q579 q581 q583 q585 q587 q588 q589 q590 q591 q592 q593 q597 q598 q599 q603 q604 q606 q607 q608 q609 q610 => (congrFun ef_402 b).trans ((up_ne (fun e9 => q597 (by rw [e9]; exact ka_42))).trans (hfr0 b q12 q579 q581 q583 q585 q587 q588 q589 q590 q591 q592 q593 q597 q598 q599 q603 q604 q606 q607 q608 q609 q610))
                                  have hrA12 : ∀ b, kd b = 12 → ∀ j, fldR (f_402 b) j = fldR (f b) j := fun b kb j => (congrArg (fun x => fldR x j) ((congrFun ef_402 b).trans (up_ne (kd_ne ka_42 kb (by decide))))).trans (hrA12 b kb j)
                                  have hfA12 : ∀ b, kd b = 12 → ∀ j, j ≠ 23 → j ≠ 25 → j ≠ 27 → j ≠ 29 → j ≠ 32 → j ≠ 33 → j ≠ 43 → j ≠ 53 → j ≠ 54 → fldI (f_402 b) j = fldI (f b) j := fun b kb j n23 n25 n27 n29 n32 n33 n43 n53 n54 => (congrArg (fun x => fldI x j) ((congrFun ef_402 b).trans (up_ne (kd_ne ka_42 kb (by decide))))).trans (hfA12 b kb j n23 n25 n27 n29 n32 n33 n43 n53 n54)
                                  have hT0 : srel kd 592 f_402 o0 := by rw [ef_402]; exact hT0.keep (fun b q => congrArg (fun x => fldR x 30) (up_ne (kd_ne ka_42 q (by decide)))) (fun b q => congrArg (fun x => fldI x 32) (up_ne (kd_ne ka_42 q (by decide)))) (fun b q => congrArg (fun x => fldI x 33) (up_ne (kd_ne ka_42 q (by decide)))) (fun b q => up_ne (kd_ne ka_42 q (by decide)))
                                  have hfo_406 : f_402 a_42 = .inl (cI, 16, .inl (upd g_400 (Int32.toNatClampNeg y_389) x_398)) := by rw [ef_402]; exact up_self
                                  obtain ⟨x_407, ex_407⟩ : ∃ y : Int32, y_389 + 1 = y := ⟨_, rfl⟩
                                  have hx_407 : x_407.toInt = y_389.toInt + 1 := by rw [← ex_407, ad_I (by rw [ti_1]; omega) (by rw [ti_1]; omega), ti_1]
                                  have bx_407 : (1 ≤ x_407.toInt ∧ x_407.toInt ≤ 16) := by constructor <;> omega
                                  refine lv_iinc (v := x_407) (lv' := [(5, .int x_407), (4, .int v_259), (3, .int x_143), (0, .ref o0), (1, .int p1), (2, .int p2)]) hx hb dX12_orders_301 hl (k := 0) rfl ex_407 (by decide) rfl (fun ls hl => ?_)
                                  refine lv_goto (tgt := 280) hx hb dX12_orders_304 (by decide) ?_
                                  exact ih_hloop_388 x_407 (by constructor <;> omega) f_402 hG _ _ hP hS hD hfr0 hrA12 hfA12 hfo_403 hfo_404 hT0 (by omega) ls (lv_sub hl [0, 1, 2, 3, 4, 5] rfl)
                            exact hloop_388 17 0 (by decide) f_367 hG _ _ hP hS hD hfr0 hrA12 hfA12 hfo_368 hfo_369 hT0 (by (try rw [ti_0]) <;> omega) ls hl
                          · skip
                            rw [Int32.le_iff_toInt_le, ti_16] at c_297
                            refine lv_aload_n hx hb dX12_orders_240 rfl (lv_at hl 3 rfl) ?_
                            refine tk_getP (D := (dC, dI)) (ci := 12) (v := .ref a_57) (C := RX12) (T := TX12) (N := 56) hx hb hU inlX12 hown hK hP mo0 hfo_296 rfl 55 (by decide) (hU _ wd_204) (fun _ h9 => h9) rfl dX12_orders_241 ?_
                            refine lv_iload hx hb dX12_orders_244 (lv_at hl 0 rfl) ?_
                            refine lv_aload_n hx hb dX12_orders_246 rfl (lv_at hl 3 rfl) ?_
                            refine tk_getP (D := (dC, dI)) (ci := 12) (v := .ref a_42) (C := RX12) (T := TX12) (N := 56) hx hb hU inlX12 hown hK hP mo0 hfo_296 rfl 40 (by decide) (hU _ wd_190) (fun _ h9 => h9) rfl dX12_orders_247 ?_
                            refine lv_iload hx hb dX12_orders_250 (lv_at hl 0 rfl) ?_
                            obtain ⟨g_409, hfo_408, hbg_409⟩ := un_597 (hG _ ma_42) ka_42
                            refine tk_ildP hx hb hK hP 0 ma_42 hfo_408 rfl (vp_in_iff.mpr (by constructor <;> omega)) dX12_orders_252 ?_
                            refine lv_topi (fun x_410 ex_410 => ?_)
                            have bx_410 : (0 ≤ x_410.toInt ∧ x_410.toInt ≤ 8) := by rw [ex_410]; exact hbg_409 _
                            obtain ⟨g_412, hfo_411, hbg_412⟩ := un_610 (hG _ ma_57) ka_57
                            refine tk_istP hx hb hK hP hD hS 0 ma_57 hfo_411 rfl (vp_in_iff.mpr (by constructor <;> omega)) dX12_orders_253 (fun H locs hP hD hS => ?_)
                            obtain ⟨f_414, ef_414⟩ : ∃ y : Nat → va_E, y = va_up f_294 a_57 (.inl (cI, 16, .inl (upd g_412 (Int32.toNatClampNeg y_292) x_410))) := ⟨_, rfl⟩
                            have hP : va_P (dC, dI) vwCl (va_pl L f_414) H := by rw [ef_414]; exact hP
                            have hD : va_D (fun q => q ∈ L) (va_pl L f_414) := by rw [ef_414]; exact hD
                            have hG : GI (okc cI cL cZ cR cG cH L kd) kd L f_414 := by rw [ef_414]; exact hG.set a_57 (mk_610 ka_57 ⟨_, rfl, okI_up hbg_412 (by constructor <;> omega) _⟩)
                            have hfo_415 : f_414 a_2 = .inl (cI, 1560, .inl g_59) := by rw [ef_414, up_ne (kd_ne ka_57 ka_2 (by decide))]; exact hfo_295
                            have hfo_416 : f_414 o0 = .inr (12, [.ref a_2, .ref a_3, .ref a_4, .int v_5, .ref a_6, .int v_7, .int v_8, .int v_223, .int v_224, .int v_225, .int v_226, .int v_13, .int v_14, .int v_15, .int v_16, .ref a_17, .ref a_18, .ref a_19, .ref a_20, .ref a_21, .ref a_22, .ref a_23, .ref a_24, .int v_239, .int v_240, .int v_241, .int v_242, .int v_243, .ref a_30, .int v_245, .ref a_32, .ref a_33, .int v_248, .int v_249, .ref a_36, .int v_37, .ref a_38, .ref a_39, .int v_40, .int v_255, .ref a_42, .ref a_43, .ref a_44, .int v_259, .ref a_46, .ref a_47, .ref a_48, .ref a_49, .ref a_50, .ref a_51, .ref a_52, .ref a_53, .ref a_54, .int v_269, .int v_270, .ref a_57]) := by rw [ef_414, up_ne (kd_ne ka_57 ko0 (by decide))]; exact hfo_296
                            have hfo_417 : f_414 a_42 = .inl (cI, 16, .inl g_409) := by rw [ef_414, up_ne (kd_ne ka_57 ka_42 (by decide))]; exact hfo_408
                            have hfr0 : ∀ b, kd b ≠ 12 → kd b ≠ 579 → kd b ≠ 581 → kd b ≠ 583 → kd b ≠ 585 → kd b ≠ 587 → kd b ≠ 588 → kd b ≠ 589 → kd b ≠ 590 → kd b ≠ 591 → kd b ≠ 592 → kd b ≠ 593 → kd b ≠ 597 → kd b ≠ 598 → kd b ≠ 599 → kd b ≠ 603 → kd b ≠ 604 → kd b ≠ 606 → kd b ≠ 607 → kd b ≠ 608 → kd b ≠ 609 → kd b ≠ 610 → f_414 b = f b := fun b q12 q579 q581 q583 q585 q587 q588 q589 q590 q591 q592 q593 q597 q598 q599 q603 q604 q606 q607 q608 q609 q610 => (congrFun ef_414 b).trans ((up_ne (fun e9 => q610 (by rw [e9]; exact ka_57))).trans (hfr0 b q12 q579 q581 q583 q585 q587 q588 q589 q590 q591 q592 q593 q597 q598 q599 q603 q604 q606 q607 q608 q609 q610))
                            have hrA12 : ∀ b, kd b = 12 → ∀ j, fldR (f_414 b) j = fldR (f b) j := fun b kb j => (congrArg (fun x => fldR x j) ((congrFun ef_414 b).trans (up_ne (kd_ne ka_57 kb (by decide))))).trans (hrA12 b kb j)
                            have hfA12 : ∀ b, kd b = 12 → ∀ j, j ≠ 23 → j ≠ 25 → j ≠ 27 → j ≠ 29 → j ≠ 32 → j ≠ 33 → j ≠ 43 → j ≠ 53 → j ≠ 54 → fldI (f_414 b) j = fldI (f b) j := fun b kb j n23 n25 n27 n29 n32 n33 n43 n53 n54 => (congrArg (fun x => fldI x j) ((congrFun ef_414 b).trans (up_ne (kd_ne ka_57 kb (by decide))))).trans (hfA12 b kb j n23 n25 n27 n29 n32 n33 n43 n53 n54)
                            have hT0 : srel kd 592 f_414 o0 := by rw [ef_414]; exact hT0.keep (fun b q => congrArg (fun x => fldR x 30) (up_ne (kd_ne ka_57 q (by decide)))) (fun b q => congrArg (fun x => fldI x 32) (up_ne (kd_ne ka_57 q (by decide)))) (fun b q => congrArg (fun x => fldI x 33) (up_ne (kd_ne ka_57 q (by decide)))) (fun b q => up_ne (kd_ne ka_57 q (by decide)))
                            have hfo_418 : f_414 a_57 = .inl (cI, 16, .inl (upd g_412 (Int32.toNatClampNeg y_292) x_410)) := by rw [ef_414]; exact up_self
                            obtain ⟨x_419, ex_419⟩ : ∃ y : Int32, y_292 + 1 = y := ⟨_, rfl⟩
                            have hx_419 : x_419.toInt = y_292.toInt + 1 := by rw [← ex_419, ad_I (by rw [ti_1]; omega) (by rw [ti_1]; omega), ti_1]
                            have bx_419 : (1 ≤ x_419.toInt ∧ x_419.toInt ≤ 16) := by constructor <;> omega
                            refine lv_iinc (v := x_419) (lv' := [(5, .int x_419), (4, .int v_259), (3, .int x_143), (0, .ref o0), (1, .int p1), (2, .int p2)]) hx hb dX12_orders_254 hl (k := 0) rfl ex_419 (by decide) rfl (fun ls hl => ?_)
                            refine lv_goto (tgt := 233) hx hb dX12_orders_257 (by decide) ?_
                            exact ih_hloop_291 x_419 (by constructor <;> omega) f_414 hG _ _ hP hS hD hfr0 hrA12 hfA12 hfo_415 hfo_416 hT0 (by omega) ls (lv_sub hl [0, 1, 2, 3, 4, 5] rfl)
                      exact hloop_291 17 0 (by decide) f_213 hG _ _ hP hS hD hfr0 hrA12 hfA12 hfo_214 hfo_215 hT0 (by (try rw [ti_0]) <;> omega) ls hl
                    · skip
                      rw [Int32.le_iff_toInt_le] at c_272
                      refine lv_iconst (v := 0) hx hb dX12_orders_128 (by decide) ?_
                      refine lv_istore (lv' := [(5, .int 0), (4, .int y_211), (3, .int x_143), (0, .ref o0), (1, .int p1), (2, .int p2)]) hx hb dX12_orders_129 hl (by decide) rfl (fun ls hl => ?_)
                      have hloop_438 : ∀ (n : Nat), ∀ (y_439 : Int32), (0 ≤ y_439.toInt ∧ y_439.toInt ≤ 90) → ∀ (f_441 : Nat → va_E), GI (okc cI cL cZ cR cG cH L kd) kd L f_441 → ∀ (H : Heap) (locs : List Loc), va_P (dC, dI) vwCl (va_pl L f_441) H → va_S (fun q => q ∈ L) s.heap H locs → va_D (fun q => q ∈ L) (va_pl L f_441) → (∀ b, kd b ≠ 12 → kd b ≠ 579 → kd b ≠ 581 → kd b ≠ 583 → kd b ≠ 585 → kd b ≠ 587 → kd b ≠ 588 → kd b ≠ 589 → kd b ≠ 590 → kd b ≠ 591 → kd b ≠ 592 → kd b ≠ 593 → kd b ≠ 597 → kd b ≠ 598 → kd b ≠ 599 → kd b ≠ 603 → kd b ≠ 604 → kd b ≠ 606 → kd b ≠ 607 → kd b ≠ 608 → kd b ≠ 609 → kd b ≠ 610 → f_441 b = f b) → (∀ b, kd b = 12 → ∀ j, fldR (f_441 b) j = fldR (f b) j) → (∀ b, kd b = 12 → ∀ j, j ≠ 23 → j ≠ 25 → j ≠ 27 → j ≠ 29 → j ≠ 32 → j ≠ 33 → j ≠ 43 → j ≠ 53 → j ≠ 54 → fldI (f_441 b) j = fldI (f b) j) → (f_441 a_2 = .inl (cI, 1560, .inl g_59)) → (f_441 o0 = .inr (12, [.ref a_2, .ref a_3, .ref a_4, .int v_5, .ref a_6, .int v_7, .int v_8, .int v_223, .int v_224, .int v_225, .int v_226, .int v_13, .int v_14, .int v_15, .int v_16, .ref a_17, .ref a_18, .ref a_19, .ref a_20, .ref a_21, .ref a_22, .ref a_23, .ref a_24, .int v_239, .int v_240, .int v_241, .int v_242, .int v_243, .ref a_30, .int v_245, .ref a_32, .ref a_33, .int v_248, .int v_249, .ref a_36, .int v_37, .ref a_38, .ref a_39, .int v_40, .int v_255, .ref a_42, .ref a_43, .ref a_44, .int v_259, .ref a_46, .ref a_47, .ref a_48, .ref a_49, .ref a_50, .ref a_51, .ref a_52, .ref a_53, .ref a_54, .int v_269, .int v_270, .ref a_57])) → srel kd 592 f_441 o0 → 90 - y_439.toInt < (n : Int) → ∀ (ls : Array Slot), lv_has ls 6 [(5, .int y_439), (4, .int y_211), (3, .int x_143), (0, .ref o0), (1, .int p1), (2, .int p2)] → W p l e (headSpec (wU yX12_orders cX12_orders 6 (some .int)) { frames := 24, cells := 0, slots := 0, locals := 676 }).room s m [.ref o0, .int p1, .int p2].toArray below meth c H locs 0 0 (MQ below (va_Qi (fun (r : Int32) (f9 : Nat → va_E) => GI (okc cI cL cZ cR cG cH L kd) kd L f9 ∧ ((-2147483648) ≤ r.toInt ∧ r.toInt ≤ 2147483647) ∧ (∀ b, kd b ≠ 12 → kd b ≠ 579 → kd b ≠ 581 → kd b ≠ 583 → kd b ≠ 585 → kd b ≠ 587 → kd b ≠ 588 → kd b ≠ 589 → kd b ≠ 590 → kd b ≠ 591 → kd b ≠ 592 → kd b ≠ 593 → kd b ≠ 597 → kd b ≠ 598 → kd b ≠ 599 → kd b ≠ 603 → kd b ≠ 604 → kd b ≠ 606 → kd b ≠ 607 → kd b ≠ 608 → kd b ≠ 609 → kd b ≠ 610 → f9 b = f b) ∧ (∀ b, kd b = 12 → ∀ j, fldR (f9 b) j = fldR (f b) j) ∧ (∀ b, kd b = 12 → ∀ j, j ≠ 23 → j ≠ 25 → j ≠ 27 → j ≠ 29 → j ≠ 32 → j ≠ 33 → j ≠ 43 → j ≠ 53 → j ≠ 54 → fldI (f9 b) j = fldI (f b) j) ∧ (∀ (w29 z29 : Int32), fldI (f o0) 29 = some w29 → fldI (f9 o0) 29 = some z29 → z29.toInt = w29.toInt) ∧ (srel kd 592 f9 o0)) (qP (dC, dI) cI cL cZ cR cG cH L) (fun q => q ∈ L)) [.ref o0, .int p1, .int p2].toArray s 0 0 (fun q => q ∈ L)) (F0 m 131 ls []) := by
                        intro n
                        induction n with
                        | zero => intro y_439 by_439 f_441 hG H locs hP hS hD hfr0 hrA12 hfA12 hfo_442 hfo_443 hT0 hmuhloop_438 ls hl; exfalso; omega
                        | succ n ih_hloop_438 =>
                          intro y_439 by_439 f_441 hG H locs hP hS hD hfr0 hrA12 hfA12 hfo_442 hfo_443 hT0 hmuhloop_438 ls hl
                          refine lv_iload hx hb dX12_orders_131 (lv_at hl 0 rfl) ?_
                          refine lv_bipush (v := 90) hx hb dX12_orders_133 (by decide) ?_
                          refine lv_icmp_ge (tgt := 155) hx hb dX12_orders_135 (by decide) (fun c_444 => ?_) (fun c_444 => ?_)
                          · skip
                            rw [Int32.le_iff_toInt_le, ti_90] at c_444
                            refine lv_aload_n hx hb dX12_orders_155 rfl (lv_at hl 3 rfl) ?_
                            refine lv_iload hx hb dX12_orders_156 (lv_at hl 1 rfl) ?_
                            refine tk_VvP (As := [.int y_211]) (rest := []) (n := 1) hx hb hml hown hU hN hZ (s_X12_laysWord_k12 l (dC, dI) cI cL cZ cR cG cH Z kd L f_441 hG o0 mo0 ko0 y_211 (by constructor <;> omega) (fun b9 g9 h1 h2 => by rw [hfo_443] at h1; obtain rfl := Option.some.inj h1; rw [hfo_442] at h2; cases h2; omega)) wd_1173 wd_1174 wd_1175 wd_5 wd_1176 (by decide +kernel) ⟨Nat.le_of_ble_eq_true rfl, Nat.le_of_ble_eq_true rfl⟩ hK hP hD hS mo0 hfo_443 12 rfl rfl rfl hl.1 rfl (Nat.le_of_ble_eq_true rfl) dX12_orders_158 ⟨Nat.le_of_ble_eq_true rfl, Nat.le_of_ble_eq_true rfl⟩ (fun f_446 H locs hw hP hD hS => ?_)
                            obtain ⟨hG, hkc_447, hra_448, hfa_449, hpost_450, hxp_451⟩ := hw
                            have hfo_453 : f_446 a_2 = .inl (cI, 1560, .inl g_59) := by rw [hkc_447 a_2 (by rw [ka_2]; decide) (by rw [ka_2]; decide)]; exact hfo_442
                            have hfr0 : ∀ b, kd b ≠ 12 → kd b ≠ 579 → kd b ≠ 581 → kd b ≠ 583 → kd b ≠ 585 → kd b ≠ 587 → kd b ≠ 588 → kd b ≠ 589 → kd b ≠ 590 → kd b ≠ 591 → kd b ≠ 592 → kd b ≠ 593 → kd b ≠ 597 → kd b ≠ 598 → kd b ≠ 599 → kd b ≠ 603 → kd b ≠ 604 → kd b ≠ 606 → kd b ≠ 607 → kd b ≠ 608 → kd b ≠ 609 → kd b ≠ 610 → f_446 b = f b := fun b q12 q579 q581 q583 q585 q587 q588 q589 q590 q591 q592 q593 q597 q598 q599 q603 q604 q606 q607 q608 q609 q610 => (hkc_447 b q12 q589).trans (hfr0 b q12 q579 q581 q583 q585 q587 q588 q589 q590 q591 q592 q593 q597 q598 q599 q603 q604 q606 q607 q608 q609 q610)
                            have hrA12 : ∀ b, kd b = 12 → ∀ j, fldR (f_446 b) j = fldR (f b) j := fun b kb j => (hra_448 b kb j).trans (hrA12 b kb j)
                            have hfA12 : ∀ b, kd b = 12 → ∀ j, j ≠ 23 → j ≠ 25 → j ≠ 27 → j ≠ 29 → j ≠ 32 → j ≠ 33 → j ≠ 43 → j ≠ 53 → j ≠ 54 → fldI (f_446 b) j = fldI (f b) j := fun b kb j n23 n25 n27 n29 n32 n33 n43 n53 n54 => (hfa_449 b kb j n23).trans (hfA12 b kb j n23 n25 n27 n29 n32 n33 n43 n53 n54)
                            have hT0 : srel kd 592 f_446 o0 := hT0.keep (fun b q => hra_448 b q 30) (fun b q => hfa_449 b q 32 (by decide)) (fun b q => hfa_449 b q 33 (by decide)) (fun b q => hkc_447 b (by rw [q]; decide) (by rw [q]; decide))
                            obtain ⟨a_455, a_456, a_457, v_458, a_459, v_460, v_461, v_462, v_463, v_464, v_465, v_466, v_467, v_468, v_469, a_470, a_471, a_472, a_473, a_474, a_475, a_476, a_477, v_478, v_479, v_480, v_481, v_482, a_483, v_484, a_485, a_486, v_487, v_488, a_489, v_490, a_491, a_492, v_493, v_494, a_495, a_496, a_497, v_498, a_499, a_500, a_501, a_502, a_503, a_504, a_505, a_506, a_507, v_508, v_509, a_510, hfo_454, ⟨ma_455, ka_455⟩, ⟨ma_456, ka_456⟩, ⟨ma_457, ka_457⟩, bv_458, ⟨ma_459, ka_459⟩, bv_460, bv_461, bv_466, bv_467, bv_468, ⟨ma_470, ka_470⟩, ⟨ma_471, ka_471⟩, ⟨ma_472, ka_472⟩, ⟨ma_473, ka_473⟩, ⟨ma_474, ka_474⟩, ⟨ma_475, ka_475⟩, ⟨ma_476, ka_476⟩, ⟨ma_477, ka_477⟩, bv_478, bv_480, bv_482, ⟨ma_483, ka_483⟩, bv_484, ⟨ma_485, ka_485⟩, ⟨ma_486, ka_486⟩, bv_487, ⟨ma_489, ka_489⟩, bv_490, ⟨ma_491, ka_491⟩, ⟨ma_492, ka_492⟩, bv_493, ⟨ma_495, ka_495⟩, ⟨ma_496, ka_496⟩, ⟨ma_497, ka_497⟩, bv_498, ⟨ma_499, ka_499⟩, ⟨ma_500, ka_500⟩, ⟨ma_501, ka_501⟩, ⟨ma_502, ka_502⟩, ⟨ma_503, ka_503⟩, ⟨ma_504, ka_504⟩, ⟨ma_505, ka_505⟩, ⟨ma_506, ka_506⟩, ⟨ma_507, ka_507⟩, bv_508, ⟨ma_510, ka_510⟩⟩ := un_12 (hG _ mo0) ko0
                            have bv_462 : ((-2147483648) ≤ v_462.toInt ∧ v_462.toInt ≤ 2147483647) := ⟨i32_lo _, i32_hi _⟩
                            have bv_463 : ((-2147483648) ≤ v_463.toInt ∧ v_463.toInt ≤ 2147483647) := ⟨i32_lo _, i32_hi _⟩
                            have bv_464 : ((-2147483648) ≤ v_464.toInt ∧ v_464.toInt ≤ 2147483647) := ⟨i32_lo _, i32_hi _⟩
                            have bv_465 : ((-2147483648) ≤ v_465.toInt ∧ v_465.toInt ≤ 2147483647) := ⟨i32_lo _, i32_hi _⟩
                            have bv_469 : ((-2147483648) ≤ v_469.toInt ∧ v_469.toInt ≤ 2147483647) := ⟨i32_lo _, i32_hi _⟩
                            have bv_479 : ((-2147483648) ≤ v_479.toInt ∧ v_479.toInt ≤ 2147483647) := ⟨i32_lo _, i32_hi _⟩
                            have bv_481 : ((-2147483648) ≤ v_481.toInt ∧ v_481.toInt ≤ 2147483647) := ⟨i32_lo _, i32_hi _⟩
                            have bv_488 : ((-2147483648) ≤ v_488.toInt ∧ v_488.toInt ≤ 2147483647) := ⟨i32_lo _, i32_hi _⟩
                            have bv_494 : ((-2147483648) ≤ v_494.toInt ∧ v_494.toInt ≤ 2147483647) := ⟨i32_lo _, i32_hi _⟩
                            have bv_509 : ((-2147483648) ≤ v_509.toInt ∧ v_509.toInt ≤ 2147483647) := ⟨i32_lo _, i32_hi _⟩
                            obtain ⟨rfl, rfl, rfl, rfl, rfl, rfl, rfl, rfl, rfl, rfl, rfl, rfl, rfl, rfl, rfl, rfl, rfl, rfl, rfl, rfl, rfl, rfl, rfl, rfl, rfl, rfl, rfl, rfl, rfl, rfl, rfl⟩ := re_12 hfo_1 hfo_454 (hrA12 o0 ko0)
                            obtain rfl := ri_12_3 hfo_1 hfo_454 (hfA12 o0 ko0 3 (by decide) (by decide) (by decide) (by decide) (by decide) (by decide) (by decide) (by decide) (by decide))
                            obtain rfl := ri_12_5 hfo_1 hfo_454 (hfA12 o0 ko0 5 (by decide) (by decide) (by decide) (by decide) (by decide) (by decide) (by decide) (by decide) (by decide))
                            obtain rfl := ri_12_6 hfo_1 hfo_454 (hfA12 o0 ko0 6 (by decide) (by decide) (by decide) (by decide) (by decide) (by decide) (by decide) (by decide) (by decide))
                            obtain rfl := ri_12_11 hfo_1 hfo_454 (hfA12 o0 ko0 11 (by decide) (by decide) (by decide) (by decide) (by decide) (by decide) (by decide) (by decide) (by decide))
                            obtain rfl := ri_12_12 hfo_1 hfo_454 (hfA12 o0 ko0 12 (by decide) (by decide) (by decide) (by decide) (by decide) (by decide) (by decide) (by decide) (by decide))
                            obtain rfl := ri_12_13 hfo_1 hfo_454 (hfA12 o0 ko0 13 (by decide) (by decide) (by decide) (by decide) (by decide) (by decide) (by decide) (by decide) (by decide))
                            obtain rfl := ri_12_14 hfo_1 hfo_454 (hfA12 o0 ko0 14 (by decide) (by decide) (by decide) (by decide) (by decide) (by decide) (by decide) (by decide) (by decide))
                            obtain rfl := ri_12_35 hfo_1 hfo_454 (hfA12 o0 ko0 35 (by decide) (by decide) (by decide) (by decide) (by decide) (by decide) (by decide) (by decide) (by decide))
                            obtain rfl := ri_12_38 hfo_1 hfo_454 (hfA12 o0 ko0 38 (by decide) (by decide) (by decide) (by decide) (by decide) (by decide) (by decide) (by decide) (by decide))
                            obtain rfl := ri_12_25 hfo_443 hfo_454 (hfa_449 o0 ko0 25 (by decide))
                            obtain rfl := ri_12_27 hfo_443 hfo_454 (hfa_449 o0 ko0 27 (by decide))
                            obtain rfl := ri_12_29 hfo_443 hfo_454 (hfa_449 o0 ko0 29 (by decide))
                            obtain rfl := ri_12_32 hfo_443 hfo_454 (hfa_449 o0 ko0 32 (by decide))
                            obtain rfl := ri_12_33 hfo_443 hfo_454 (hfa_449 o0 ko0 33 (by decide))
                            obtain rfl := ri_12_43 hfo_443 hfo_454 (hfa_449 o0 ko0 43 (by decide))
                            obtain rfl := ri_12_53 hfo_443 hfo_454 (hfa_449 o0 ko0 53 (by decide))
                            have hqhpost_450 := hpost_450 v_239 v_478 (by rw [hfo_443]; rfl) (by rw [hfo_454]; rfl)
                            have hlw2 := hxp_451 a_2 g_59 v_478 (by rw [hfo_443]; rfl) hfo_442 (by rw [hfo_454]; rfl)
                            refine lv_aload_n hx hb dX12_orders_161 rfl (lv_at hl 3 rfl) ?_
                            refine lv_aload_n hx hb dX12_orders_162 rfl (lv_at hl 3 rfl) ?_
                            refine tk_getP (D := (dC, dI)) (ci := 12) (v := .ref a_2) (C := RX12) (T := TX12) (N := 56) hx hb hU inlX12 hown hK hP mo0 hfo_454 rfl 0 (by decide) (hU _ wd_169) (fun _ h9 => h9) rfl dX12_orders_163 ?_
                            refine lv_bipush (v := 40) hx hb dX12_orders_166 (by decide) ?_
                            refine tk_ildP hx hb hK hP 0 ma_2 hfo_453 rfl (vp_in_nI (n := 40) (by decide) (by decide)) dX12_orders_168 ?_
                            refine lv_topi (fun x_511 ex_511 => ?_)
                            have bx_511 : (0 ≤ x_511.toInt ∧ x_511.toInt ≤ 255) := by rw [ex_511]; exact hbg_59.2.2.2.2.2.2.1 _ (by decide) (by decide) (by decide)
                            refine tk_VvP (As := [.int x_511]) (rest := []) (n := 1) hx hb hml hown hU hN hZ (s_X12_marksAll_k12 l (dC, dI) cI cL cZ cR cG cH Z kd L f_446 hG o0 mo0 ko0 x_511 (by intro w23 w29 e23 e29; rw [hfo_454] at e23 e29; obtain rfl := Option.some.inj e23; obtain rfl := Option.some.inj e29; omega) hT0) wd_1243 wd_1244 wd_1245 wd_5 wd_1246 (by decide +kernel) ⟨Nat.le_of_ble_eq_true rfl, Nat.le_of_ble_eq_true rfl⟩ hK hP hD hS mo0 hfo_454 12 rfl rfl rfl hl.1 rfl (Nat.le_of_ble_eq_true rfl) dX12_orders_169 ⟨Nat.le_of_ble_eq_true rfl, Nat.le_of_ble_eq_true rfl⟩ (fun f_513 H locs hw hP hD hS => ?_)
                            obtain ⟨hG, hkc_514, hra_515, hfa_516, hpost_517, hTc_518⟩ := hw
                            have hfo_520 : f_513 a_2 = .inl (cI, 1560, .inl g_59) := by rw [hkc_514 a_2 (by rw [ka_2]; decide) (by rw [ka_2]; decide) (by rw [ka_2]; decide) (by rw [ka_2]; decide) (by rw [ka_2]; decide) (by rw [ka_2]; decide) (by rw [ka_2]; decide) (by rw [ka_2]; decide) (by rw [ka_2]; decide) (by rw [ka_2]; decide) (by rw [ka_2]; decide) (by rw [ka_2]; decide)]; exact hfo_453
                            have hfr0 : ∀ b, kd b ≠ 12 → kd b ≠ 579 → kd b ≠ 581 → kd b ≠ 583 → kd b ≠ 585 → kd b ≠ 587 → kd b ≠ 588 → kd b ≠ 589 → kd b ≠ 590 → kd b ≠ 591 → kd b ≠ 592 → kd b ≠ 593 → kd b ≠ 597 → kd b ≠ 598 → kd b ≠ 599 → kd b ≠ 603 → kd b ≠ 604 → kd b ≠ 606 → kd b ≠ 607 → kd b ≠ 608 → kd b ≠ 609 → kd b ≠ 610 → f_513 b = f b := fun b q12 q579 q581 q583 q585 q587 q588 q589 q590 q591 q592 q593 q597 q598 q599 q603 q604 q606 q607 q608 q609 q610 => (hkc_514 b q12 q579 q581 q583 q585 q587 q588 q590 q591 q592 q593 q603).trans (hfr0 b q12 q579 q581 q583 q585 q587 q588 q589 q590 q591 q592 q593 q597 q598 q599 q603 q604 q606 q607 q608 q609 q610)
                            have hrA12 : ∀ b, kd b = 12 → ∀ j, fldR (f_513 b) j = fldR (f b) j := fun b kb j => (hra_515 b kb j).trans (hrA12 b kb j)
                            have hfA12 : ∀ b, kd b = 12 → ∀ j, j ≠ 23 → j ≠ 25 → j ≠ 27 → j ≠ 29 → j ≠ 32 → j ≠ 33 → j ≠ 43 → j ≠ 53 → j ≠ 54 → fldI (f_513 b) j = fldI (f b) j := fun b kb j n23 n25 n27 n29 n32 n33 n43 n53 n54 => (hfa_516 b kb j n25 n27 n29 n32 n33).trans (hfA12 b kb j n23 n25 n27 n29 n32 n33 n43 n53 n54)
                            obtain ⟨a_522, a_523, a_524, v_525, a_526, v_527, v_528, v_529, v_530, v_531, v_532, v_533, v_534, v_535, v_536, a_537, a_538, a_539, a_540, a_541, a_542, a_543, a_544, v_545, v_546, v_547, v_548, v_549, a_550, v_551, a_552, a_553, v_554, v_555, a_556, v_557, a_558, a_559, v_560, v_561, a_562, a_563, a_564, v_565, a_566, a_567, a_568, a_569, a_570, a_571, a_572, a_573, a_574, v_575, v_576, a_577, hfo_521, ⟨ma_522, ka_522⟩, ⟨ma_523, ka_523⟩, ⟨ma_524, ka_524⟩, bv_525, ⟨ma_526, ka_526⟩, bv_527, bv_528, bv_533, bv_534, bv_535, ⟨ma_537, ka_537⟩, ⟨ma_538, ka_538⟩, ⟨ma_539, ka_539⟩, ⟨ma_540, ka_540⟩, ⟨ma_541, ka_541⟩, ⟨ma_542, ka_542⟩, ⟨ma_543, ka_543⟩, ⟨ma_544, ka_544⟩, bv_545, bv_547, bv_549, ⟨ma_550, ka_550⟩, bv_551, ⟨ma_552, ka_552⟩, ⟨ma_553, ka_553⟩, bv_554, ⟨ma_556, ka_556⟩, bv_557, ⟨ma_558, ka_558⟩, ⟨ma_559, ka_559⟩, bv_560, ⟨ma_562, ka_562⟩, ⟨ma_563, ka_563⟩, ⟨ma_564, ka_564⟩, bv_565, ⟨ma_566, ka_566⟩, ⟨ma_567, ka_567⟩, ⟨ma_568, ka_568⟩, ⟨ma_569, ka_569⟩, ⟨ma_570, ka_570⟩, ⟨ma_571, ka_571⟩, ⟨ma_572, ka_572⟩, ⟨ma_573, ka_573⟩, ⟨ma_574, ka_574⟩, bv_575, ⟨ma_577, ka_577⟩⟩ := un_12 (hG _ mo0) ko0
                            have bv_529 : ((-2147483648) ≤ v_529.toInt ∧ v_529.toInt ≤ 2147483647) := ⟨i32_lo _, i32_hi _⟩
                            have bv_530 : ((-2147483648) ≤ v_530.toInt ∧ v_530.toInt ≤ 2147483647) := ⟨i32_lo _, i32_hi _⟩
                            have bv_531 : ((-2147483648) ≤ v_531.toInt ∧ v_531.toInt ≤ 2147483647) := ⟨i32_lo _, i32_hi _⟩
                            have bv_532 : ((-2147483648) ≤ v_532.toInt ∧ v_532.toInt ≤ 2147483647) := ⟨i32_lo _, i32_hi _⟩
                            have bv_536 : ((-2147483648) ≤ v_536.toInt ∧ v_536.toInt ≤ 2147483647) := ⟨i32_lo _, i32_hi _⟩
                            have bv_546 : ((-2147483648) ≤ v_546.toInt ∧ v_546.toInt ≤ 2147483647) := ⟨i32_lo _, i32_hi _⟩
                            have bv_548 : ((-2147483648) ≤ v_548.toInt ∧ v_548.toInt ≤ 2147483647) := ⟨i32_lo _, i32_hi _⟩
                            have bv_555 : ((-2147483648) ≤ v_555.toInt ∧ v_555.toInt ≤ 2147483647) := ⟨i32_lo _, i32_hi _⟩
                            have bv_561 : ((-2147483648) ≤ v_561.toInt ∧ v_561.toInt ≤ 2147483647) := ⟨i32_lo _, i32_hi _⟩
                            have bv_576 : ((-2147483648) ≤ v_576.toInt ∧ v_576.toInt ≤ 2147483647) := ⟨i32_lo _, i32_hi _⟩
                            obtain ⟨rfl, rfl, rfl, rfl, rfl, rfl, rfl, rfl, rfl, rfl, rfl, rfl, rfl, rfl, rfl, rfl, rfl, rfl, rfl, rfl, rfl, rfl, rfl, rfl, rfl, rfl, rfl, rfl, rfl, rfl, rfl⟩ := re_12 hfo_1 hfo_521 (hrA12 o0 ko0)
                            obtain rfl := ri_12_3 hfo_1 hfo_521 (hfA12 o0 ko0 3 (by decide) (by decide) (by decide) (by decide) (by decide) (by decide) (by decide) (by decide) (by decide))
                            obtain rfl := ri_12_5 hfo_1 hfo_521 (hfA12 o0 ko0 5 (by decide) (by decide) (by decide) (by decide) (by decide) (by decide) (by decide) (by decide) (by decide))
                            obtain rfl := ri_12_6 hfo_1 hfo_521 (hfA12 o0 ko0 6 (by decide) (by decide) (by decide) (by decide) (by decide) (by decide) (by decide) (by decide) (by decide))
                            obtain rfl := ri_12_11 hfo_1 hfo_521 (hfA12 o0 ko0 11 (by decide) (by decide) (by decide) (by decide) (by decide) (by decide) (by decide) (by decide) (by decide))
                            obtain rfl := ri_12_12 hfo_1 hfo_521 (hfA12 o0 ko0 12 (by decide) (by decide) (by decide) (by decide) (by decide) (by decide) (by decide) (by decide) (by decide))
                            obtain rfl := ri_12_13 hfo_1 hfo_521 (hfA12 o0 ko0 13 (by decide) (by decide) (by decide) (by decide) (by decide) (by decide) (by decide) (by decide) (by decide))
                            obtain rfl := ri_12_14 hfo_1 hfo_521 (hfA12 o0 ko0 14 (by decide) (by decide) (by decide) (by decide) (by decide) (by decide) (by decide) (by decide) (by decide))
                            obtain rfl := ri_12_35 hfo_1 hfo_521 (hfA12 o0 ko0 35 (by decide) (by decide) (by decide) (by decide) (by decide) (by decide) (by decide) (by decide) (by decide))
                            obtain rfl := ri_12_38 hfo_1 hfo_521 (hfA12 o0 ko0 38 (by decide) (by decide) (by decide) (by decide) (by decide) (by decide) (by decide) (by decide) (by decide))
                            obtain rfl := ri_12_23 hfo_454 hfo_521 (hfa_516 o0 ko0 23 (by decide) (by decide) (by decide) (by decide) (by decide))
                            obtain rfl := ri_12_43 hfo_454 hfo_521 (hfa_516 o0 ko0 43 (by decide) (by decide) (by decide) (by decide) (by decide))
                            obtain rfl := ri_12_53 hfo_454 hfo_521 (hfa_516 o0 ko0 53 (by decide) (by decide) (by decide) (by decide) (by decide))
                            have hqhpost_517 := hpost_517 v_245 v_551 (by rw [hfo_454]; rfl) (by rw [hfo_521]; rfl)
                            refine lv_iconst (v := 0) hx hb dX12_orders_172 (by decide) ?_
                            refine lv_istore (lv' := [(5, .int 0), (4, .int y_211), (3, .int x_143), (0, .ref o0), (1, .int p1), (2, .int p2)]) hx hb dX12_orders_173 hl (by decide) rfl (fun ls hl => ?_)
                            have hloop_584 : ∀ (n : Nat), ∀ (y_585 : Int32), (0 ≤ y_585.toInt ∧ y_585.toInt ≤ 6561) → ∀ (f_587 : Nat → va_E), GI (okc cI cL cZ cR cG cH L kd) kd L f_587 → ∀ (H : Heap) (locs : List Loc), va_P (dC, dI) vwCl (va_pl L f_587) H → va_S (fun q => q ∈ L) s.heap H locs → va_D (fun q => q ∈ L) (va_pl L f_587) → (∀ b, kd b ≠ 12 → kd b ≠ 579 → kd b ≠ 581 → kd b ≠ 583 → kd b ≠ 585 → kd b ≠ 587 → kd b ≠ 588 → kd b ≠ 589 → kd b ≠ 590 → kd b ≠ 591 → kd b ≠ 592 → kd b ≠ 593 → kd b ≠ 597 → kd b ≠ 598 → kd b ≠ 599 → kd b ≠ 603 → kd b ≠ 604 → kd b ≠ 606 → kd b ≠ 607 → kd b ≠ 608 → kd b ≠ 609 → kd b ≠ 610 → f_587 b = f b) → (∀ b, kd b = 12 → ∀ j, fldR (f_587 b) j = fldR (f b) j) → (∀ b, kd b = 12 → ∀ j, j ≠ 23 → j ≠ 25 → j ≠ 27 → j ≠ 29 → j ≠ 32 → j ≠ 33 → j ≠ 43 → j ≠ 53 → j ≠ 54 → fldI (f_587 b) j = fldI (f b) j) → (f_587 a_2 = .inl (cI, 1560, .inl g_59)) → (f_587 o0 = .inr (12, [.ref a_2, .ref a_3, .ref a_4, .int v_5, .ref a_6, .int v_7, .int v_8, .int v_529, .int v_530, .int v_531, .int v_532, .int v_13, .int v_14, .int v_15, .int v_16, .ref a_17, .ref a_18, .ref a_19, .ref a_20, .ref a_21, .ref a_22, .ref a_23, .ref a_24, .int v_478, .int v_546, .int v_547, .int v_548, .int v_549, .ref a_30, .int v_551, .ref a_32, .ref a_33, .int v_554, .int v_555, .ref a_36, .int v_37, .ref a_38, .ref a_39, .int v_40, .int v_561, .ref a_42, .ref a_43, .ref a_44, .int v_259, .ref a_46, .ref a_47, .ref a_48, .ref a_49, .ref a_50, .ref a_51, .ref a_52, .ref a_53, .ref a_54, .int v_269, .int v_576, .ref a_57])) → srel kd 592 f_587 o0 → 6561 - y_585.toInt < (n : Int) → ∀ (ls : Array Slot), lv_has ls 6 [(5, .int y_585), (4, .int y_211), (3, .int x_143), (0, .ref o0), (1, .int p1), (2, .int p2)] → W p l e (headSpec (wU yX12_orders cX12_orders 6 (some .int)) { frames := 24, cells := 0, slots := 0, locals := 676 }).room s m [.ref o0, .int p1, .int p2].toArray below meth c H locs 0 0 (MQ below (va_Qi (fun (r : Int32) (f9 : Nat → va_E) => GI (okc cI cL cZ cR cG cH L kd) kd L f9 ∧ ((-2147483648) ≤ r.toInt ∧ r.toInt ≤ 2147483647) ∧ (∀ b, kd b ≠ 12 → kd b ≠ 579 → kd b ≠ 581 → kd b ≠ 583 → kd b ≠ 585 → kd b ≠ 587 → kd b ≠ 588 → kd b ≠ 589 → kd b ≠ 590 → kd b ≠ 591 → kd b ≠ 592 → kd b ≠ 593 → kd b ≠ 597 → kd b ≠ 598 → kd b ≠ 599 → kd b ≠ 603 → kd b ≠ 604 → kd b ≠ 606 → kd b ≠ 607 → kd b ≠ 608 → kd b ≠ 609 → kd b ≠ 610 → f9 b = f b) ∧ (∀ b, kd b = 12 → ∀ j, fldR (f9 b) j = fldR (f b) j) ∧ (∀ b, kd b = 12 → ∀ j, j ≠ 23 → j ≠ 25 → j ≠ 27 → j ≠ 29 → j ≠ 32 → j ≠ 33 → j ≠ 43 → j ≠ 53 → j ≠ 54 → fldI (f9 b) j = fldI (f b) j) ∧ (∀ (w29 z29 : Int32), fldI (f o0) 29 = some w29 → fldI (f9 o0) 29 = some z29 → z29.toInt = w29.toInt) ∧ (srel kd 592 f9 o0)) (qP (dC, dI) cI cL cZ cR cG cH L) (fun q => q ∈ L)) [.ref o0, .int p1, .int p2].toArray s 0 0 (fun q => q ∈ L)) (F0 m 175 ls []) := by
                              intro n
                              induction n with
                              | zero => intro y_585 by_585 f_587 hG H locs hP hS hD hfr0 hrA12 hfA12 hfo_588 hfo_589 hTc_518 hmuhloop_584 ls hl; exfalso; omega
                              | succ n ih_hloop_584 =>
                                intro y_585 by_585 f_587 hG H locs hP hS hD hfr0 hrA12 hfA12 hfo_588 hfo_589 hTc_518 hmuhloop_584 ls hl
                                refine lv_iload hx hb dX12_orders_175 (lv_at hl 0 rfl) ?_
                                refine lv_aload_n hx hb dX12_orders_177 rfl (lv_at hl 3 rfl) ?_
                                refine tk_getP (D := (dC, dI)) (ci := 12) (v := .int v_554) (C := RX12) (T := TX12) (N := 56) hx hb hU inlX12 hown hK hP mo0 hfo_589 rfl 32 (by decide) (hU _ wd_921) (fun _ h9 => h9) rfl dX12_orders_178 ?_
                                refine lv_icmp_ge (tgt := 218) hx hb dX12_orders_181 (by decide) (fun c_590 => ?_) (fun c_590 => ?_)
                                · skip
                                  rw [Int32.le_iff_toInt_le] at c_590
                                  obtain ⟨x_591, ex_591⟩ : ∃ y : Int32, y_211 + 1 = y := ⟨_, rfl⟩
                                  have hx_591 : x_591.toInt = y_211.toInt + 1 := by rw [← ex_591, ad_I (by rw [ti_1]; omega) (by rw [ti_1]; omega), ti_1]
                                  have bx_591 : (1 ≤ x_591.toInt ∧ x_591.toInt ≤ 72) := by constructor <;> omega
                                  refine lv_iinc (v := x_591) (lv' := [(4, .int x_591), (5, .int y_585), (3, .int x_143), (0, .ref o0), (1, .int p1), (2, .int p2)]) hx hb dX12_orders_218 hl (k := 1) rfl ex_591 (by decide) rfl (fun ls hl => ?_)
                                  refine lv_goto (tgt := 122) hx hb dX12_orders_221 (by decide) ?_
                                  exact ih_hloop_210 x_591 (by constructor <;> omega) f_587 hG _ _ hP hS hD hfr0 hrA12 hfA12 hfo_588 hTc_518 v_551 (by rw [hfo_589]; rfl) (by omega) (by omega) (by omega) ls (lv_sub hl [0, 2, 3, 4, 5] rfl)
                                · skip
                                  rw [Int32.le_iff_toInt_le] at c_590
                                  refine lv_aload_n hx hb dX12_orders_184 rfl (lv_at hl 3 rfl) ?_
                                  refine tk_getP (D := (dC, dI)) (ci := 12) (v := .ref a_33) (C := RX12) (T := TX12) (N := 56) hx hb hU inlX12 hown hK hP mo0 hfo_589 rfl 31 (by decide) (hU _ wd_185) (fun _ h9 => h9) rfl dX12_orders_185 ?_
                                  refine lv_iload hx hb dX12_orders_188 (lv_at hl 0 rfl) ?_
                                  obtain ⟨g_593, hfo_592, hbg_593⟩ := un_593 (hG _ ma_33) ka_33
                                  refine tk_ildP hx hb hK hP 0 ma_33 hfo_592 rfl (vp_in_iff.mpr (by constructor <;> omega)) dX12_orders_190 ?_
                                  refine lv_topi (fun x_594 ex_594 => ?_)
                                  have bx_594 : (0 ≤ x_594.toInt ∧ x_594.toInt ≤ 6560) := by rw [ex_594]; exact hbg_593 _
                                  refine lv_bipush (v := 90) hx hb dX12_orders_191 (by decide) ?_
                                  have hcut_600 : ∀ (f_596 : Nat → va_E), GI (okc cI cL cZ cR cG cH L kd) kd L f_596 → ∀ (H : Heap) (locs : List Loc), va_P (dC, dI) vwCl (va_pl L f_596) H → va_S (fun q => q ∈ L) s.heap H locs → va_D (fun q => q ∈ L) (va_pl L f_596) → (∀ b, kd b ≠ 12 → kd b ≠ 579 → kd b ≠ 581 → kd b ≠ 583 → kd b ≠ 585 → kd b ≠ 587 → kd b ≠ 588 → kd b ≠ 589 → kd b ≠ 590 → kd b ≠ 591 → kd b ≠ 592 → kd b ≠ 593 → kd b ≠ 597 → kd b ≠ 598 → kd b ≠ 599 → kd b ≠ 603 → kd b ≠ 604 → kd b ≠ 606 → kd b ≠ 607 → kd b ≠ 608 → kd b ≠ 609 → kd b ≠ 610 → f_596 b = f b) → (∀ b, kd b = 12 → ∀ j, fldR (f_596 b) j = fldR (f b) j) → (∀ b, kd b = 12 → ∀ j, j ≠ 23 → j ≠ 25 → j ≠ 27 → j ≠ 29 → j ≠ 32 → j ≠ 33 → j ≠ 43 → j ≠ 53 → j ≠ 54 → fldI (f_596 b) j = fldI (f b) j) → (f_596 a_2 = .inl (cI, 1560, .inl g_59)) → (f_596 o0 = .inr (12, [.ref a_2, .ref a_3, .ref a_4, .int v_5, .ref a_6, .int v_7, .int v_8, .int v_529, .int v_530, .int v_531, .int v_532, .int v_13, .int v_14, .int v_15, .int v_16, .ref a_17, .ref a_18, .ref a_19, .ref a_20, .ref a_21, .ref a_22, .ref a_23, .ref a_24, .int v_478, .int v_546, .int v_547, .int v_548, .int v_549, .ref a_30, .int v_551, .ref a_32, .ref a_33, .int v_554, .int v_555, .ref a_36, .int v_37, .ref a_38, .ref a_39, .int v_40, .int v_561, .ref a_42, .ref a_43, .ref a_44, .int v_259, .ref a_46, .ref a_47, .ref a_48, .ref a_49, .ref a_50, .ref a_51, .ref a_52, .ref a_53, .ref a_54, .int v_269, .int v_576, .ref a_57])) → (f_596 a_33 = .inl (cI, 6561, .inl g_593)) → srel kd 592 f_596 o0 → ∀ (ls : Array Slot), lv_has ls 6 [(5, .int y_585), (4, .int y_211), (3, .int x_143), (0, .ref o0), (1, .int p1), (2, .int p2)] → W p l e (headSpec (wU yX12_orders cX12_orders 6 (some .int)) { frames := 24, cells := 0, slots := 0, locals := 676 }).room s m [.ref o0, .int p1, .int p2].toArray below meth c H locs 0 0 (MQ below (va_Qi (fun (r : Int32) (f9 : Nat → va_E) => GI (okc cI cL cZ cR cG cH L kd) kd L f9 ∧ ((-2147483648) ≤ r.toInt ∧ r.toInt ≤ 2147483647) ∧ (∀ b, kd b ≠ 12 → kd b ≠ 579 → kd b ≠ 581 → kd b ≠ 583 → kd b ≠ 585 → kd b ≠ 587 → kd b ≠ 588 → kd b ≠ 589 → kd b ≠ 590 → kd b ≠ 591 → kd b ≠ 592 → kd b ≠ 593 → kd b ≠ 597 → kd b ≠ 598 → kd b ≠ 599 → kd b ≠ 603 → kd b ≠ 604 → kd b ≠ 606 → kd b ≠ 607 → kd b ≠ 608 → kd b ≠ 609 → kd b ≠ 610 → f9 b = f b) ∧ (∀ b, kd b = 12 → ∀ j, fldR (f9 b) j = fldR (f b) j) ∧ (∀ b, kd b = 12 → ∀ j, j ≠ 23 → j ≠ 25 → j ≠ 27 → j ≠ 29 → j ≠ 32 → j ≠ 33 → j ≠ 43 → j ≠ 53 → j ≠ 54 → fldI (f9 b) j = fldI (f b) j) ∧ (∀ (w29 z29 : Int32), fldI (f o0) 29 = some w29 → fldI (f9 o0) 29 = some z29 → z29.toInt = w29.toInt) ∧ (srel kd 592 f9 o0)) (qP (dC, dI) cI cL cZ cR cG cH L) (fun q => q ∈ L)) [.ref o0, .int p1, .int p2].toArray s 0 0 (fun q => q ∈ L)) (F0 m 212 ls []) := by
                                    intro f_596 hG H locs hP hS hD hfr0 hrA12 hfA12 hfo_597 hfo_598 hfo_599 hTc_518 ls hl
                                    obtain ⟨x_601, ex_601⟩ : ∃ y : Int32, y_585 + 1 = y := ⟨_, rfl⟩
                                    have hx_601 : x_601.toInt = y_585.toInt + 1 := by rw [← ex_601, ad_I (by rw [ti_1]; omega) (by rw [ti_1]; omega), ti_1]
                                    have bx_601 : (1 ≤ x_601.toInt ∧ x_601.toInt ≤ 6561) := by constructor <;> omega
                                    refine lv_iinc (v := x_601) (lv' := [(5, .int x_601), (4, .int y_211), (3, .int x_143), (0, .ref o0), (1, .int p1), (2, .int p2)]) hx hb dX12_orders_212 hl (k := 0) rfl ex_601 (by decide) rfl (fun ls hl => ?_)
                                    refine lv_goto (tgt := 175) hx hb dX12_orders_215 (by decide) ?_
                                    exact ih_hloop_584 x_601 (by constructor <;> omega) f_596 hG _ _ hP hS hD hfr0 hrA12 hfA12 hfo_597 hfo_598 hTc_518 (by omega) ls (lv_sub hl [0, 1, 2, 3, 4, 5] rfl)
                                  refine lv_icmp_ge (tgt := 212) hx hb dX12_orders_193 (by decide) (fun c_602 => ?_) (fun c_602 => ?_)
                                  · skip
                                    rw [Int32.le_iff_toInt_le, ti_90] at c_602
                                    exact hcut_600 f_587 hG _ _ hP hS hD hfr0 hrA12 hfA12 hfo_588 hfo_589 hfo_592 hTc_518 ls (lv_sub hl [0, 1, 2, 3, 4, 5] rfl)
                                  · skip
                                    rw [Int32.le_iff_toInt_le, ti_90] at c_602
                                    refine lv_aload_n hx hb dX12_orders_196 rfl (lv_at hl 3 rfl) ?_
                                    refine tk_getP (D := (dC, dI)) (ci := 12) (v := .ref a_50) (C := RX12) (T := TX12) (N := 56) hx hb hU inlX12 hown hK hP mo0 hfo_589 rfl 48 (by decide) (hU _ wd_199) (fun _ h9 => h9) rfl dX12_orders_197 ?_
                                    refine lv_iload hx hb dX12_orders_200 (lv_at hl 1 rfl) ?_
                                    obtain ⟨g_604, hfo_603, hbg_604⟩ := un_605 (hG _ ma_50) ka_50
                                    obtain ⟨a_605, hga_605, ma_605, ka_605⟩ := hbg_604 (Int32.toNatClampNeg y_211) (in_lt (vp_in_iff.mpr (by constructor <;> omega)))
                                    refine tk_aldA hx hb hK hP 5 ma_50 hfo_603 rfl (vp_in_iff.mpr (by constructor <;> omega)) hga_605 dX12_orders_202 ?_
                                    refine lv_aload_n hx hb dX12_orders_203 rfl (lv_at hl 3 rfl) ?_
                                    refine tk_getP (D := (dC, dI)) (ci := 12) (v := .ref a_33) (C := RX12) (T := TX12) (N := 56) hx hb hU inlX12 hown hK hP mo0 hfo_589 rfl 31 (by decide) (hU _ wd_185) (fun _ h9 => h9) rfl dX12_orders_204 ?_
                                    refine lv_iload hx hb dX12_orders_207 (lv_at hl 0 rfl) ?_
                                    refine tk_ildP hx hb hK hP 0 ma_33 hfo_592 rfl (vp_in_iff.mpr (by constructor <;> omega)) dX12_orders_209 ?_
                                    refine tk_topi (y := x_594) ex_594.symm ?_
                                    refine lv_iconst (v := 1) hx hb dX12_orders_210 (by decide) ?_
                                    obtain ⟨g_607, hfo_606, hbg_607⟩ := un_604 (hG _ ma_605) ka_605
                                    refine tk_zstP hx hb hK hP hD hS 2 ma_605 hfo_606 rfl (vp_in_iff.mpr (by constructor <;> omega)) (bt_n (by decide)) dX12_orders_211 (fun H locs hP hD hS => ?_)
                                    obtain ⟨f_609, ef_609⟩ : ∃ y : Nat → va_E, y = va_up f_587 a_605 (.inl (cZ, 90, .inl (upd g_607 (Int32.toNatClampNeg x_594) 1))) := ⟨_, rfl⟩
                                    have hP : va_P (dC, dI) vwCl (va_pl L f_609) H := by rw [ef_609]; exact hP
                                    have hD : va_D (fun q => q ∈ L) (va_pl L f_609) := by rw [ef_609]; exact hD
                                    have hG : GI (okc cI cL cZ cR cG cH L kd) kd L f_609 := by rw [ef_609]; exact hG.set a_605 (mk_604 ka_605 ⟨_, rfl, okI_up hbg_607 (by decide) _⟩)
                                    have hfo_610 : f_609 a_2 = .inl (cI, 1560, .inl g_59) := by rw [ef_609, up_ne (kd_ne ka_605 ka_2 (by decide))]; exact hfo_588
                                    have hfo_611 : f_609 o0 = .inr (12, [.ref a_2, .ref a_3, .ref a_4, .int v_5, .ref a_6, .int v_7, .int v_8, .int v_529, .int v_530, .int v_531, .int v_532, .int v_13, .int v_14, .int v_15, .int v_16, .ref a_17, .ref a_18, .ref a_19, .ref a_20, .ref a_21, .ref a_22, .ref a_23, .ref a_24, .int v_478, .int v_546, .int v_547, .int v_548, .int v_549, .ref a_30, .int v_551, .ref a_32, .ref a_33, .int v_554, .int v_555, .ref a_36, .int v_37, .ref a_38, .ref a_39, .int v_40, .int v_561, .ref a_42, .ref a_43, .ref a_44, .int v_259, .ref a_46, .ref a_47, .ref a_48, .ref a_49, .ref a_50, .ref a_51, .ref a_52, .ref a_53, .ref a_54, .int v_269, .int v_576, .ref a_57]) := by rw [ef_609, up_ne (kd_ne ka_605 ko0 (by decide))]; exact hfo_589
                                    have hfo_612 : f_609 a_33 = .inl (cI, 6561, .inl g_593) := by rw [ef_609, up_ne (kd_ne ka_605 ka_33 (by decide))]; exact hfo_592
                                    have hfo_613 : f_609 a_50 = .inl (cH, 72, .inr (.inr (.inr (.inr g_604)))) := by rw [ef_609, up_ne (kd_ne ka_605 ka_50 (by decide))]; exact hfo_603
                                    have hfr0 : ∀ b, kd b ≠ 12 → kd b ≠ 579 → kd b ≠ 581 → kd b ≠ 583 → kd b ≠ 585 → kd b ≠ 587 → kd b ≠ 588 → kd b ≠ 589 → kd b ≠ 590 → kd b ≠ 591 → kd b ≠ 592 → kd b ≠ 593 → kd b ≠ 597 → kd b ≠ 598 → kd b ≠ 599 → kd b ≠ 603 → kd b ≠ 604 → kd b ≠ 606 → kd b ≠ 607 → kd b ≠ 608 → kd b ≠ 609 → kd b ≠ 610 → f_609 b = f b := fun b q12 q579 q581 q583 q585 q587 q588 q589 q590 q591 q592 q593 q597 q598 q599 q603 q604 q606 q607 q608 q609 q610 => (congrFun ef_609 b).trans ((up_ne (fun e9 => q604 (by rw [e9]; exact ka_605))).trans (hfr0 b q12 q579 q581 q583 q585 q587 q588 q589 q590 q591 q592 q593 q597 q598 q599 q603 q604 q606 q607 q608 q609 q610))
                                    have hrA12 : ∀ b, kd b = 12 → ∀ j, fldR (f_609 b) j = fldR (f b) j := fun b kb j => (congrArg (fun x => fldR x j) ((congrFun ef_609 b).trans (up_ne (kd_ne ka_605 kb (by decide))))).trans (hrA12 b kb j)
                                    have hfA12 : ∀ b, kd b = 12 → ∀ j, j ≠ 23 → j ≠ 25 → j ≠ 27 → j ≠ 29 → j ≠ 32 → j ≠ 33 → j ≠ 43 → j ≠ 53 → j ≠ 54 → fldI (f_609 b) j = fldI (f b) j := fun b kb j n23 n25 n27 n29 n32 n33 n43 n53 n54 => (congrArg (fun x => fldI x j) ((congrFun ef_609 b).trans (up_ne (kd_ne ka_605 kb (by decide))))).trans (hfA12 b kb j n23 n25 n27 n29 n32 n33 n43 n53 n54)
                                    have hTc_518 : srel kd 592 f_609 o0 := by rw [ef_609]; exact hTc_518.keep (fun b q => congrArg (fun x => fldR x 30) (up_ne (kd_ne ka_605 q (by decide)))) (fun b q => congrArg (fun x => fldI x 32) (up_ne (kd_ne ka_605 q (by decide)))) (fun b q => congrArg (fun x => fldI x 33) (up_ne (kd_ne ka_605 q (by decide)))) (fun b q => up_ne (kd_ne ka_605 q (by decide)))
                                    have hfo_614 : f_609 a_605 = .inl (cZ, 90, .inl (upd g_607 (Int32.toNatClampNeg x_594) 1)) := by rw [ef_609]; exact up_self
                                    exact hcut_600 f_609 hG _ _ hP hS hD hfr0 hrA12 hfA12 hfo_610 hfo_611 hfo_612 hTc_518 ls (lv_sub hl [0, 1, 2, 3, 4, 5] rfl)
                            exact hloop_584 6562 0 (by decide) f_513 hG _ _ hP hS hD hfr0 hrA12 hfA12 hfo_520 hfo_521 hTc_518 (by (try rw [ti_0]) <;> omega) ls hl
                          · skip
                            rw [Int32.le_iff_toInt_le, ti_90] at c_444
                            refine lv_aload_n hx hb dX12_orders_138 rfl (lv_at hl 3 rfl) ?_
                            refine tk_getP (D := (dC, dI)) (ci := 12) (v := .ref a_50) (C := RX12) (T := TX12) (N := 56) hx hb hU inlX12 hown hK hP mo0 hfo_443 rfl 48 (by decide) (hU _ wd_199) (fun _ h9 => h9) rfl dX12_orders_139 ?_
                            refine lv_iload hx hb dX12_orders_142 (lv_at hl 1 rfl) ?_
                            obtain ⟨g_616, hfo_615, hbg_616⟩ := un_605 (hG _ ma_50) ka_50
                            obtain ⟨a_617, hga_617, ma_617, ka_617⟩ := hbg_616 (Int32.toNatClampNeg y_211) (in_lt (vp_in_iff.mpr (by constructor <;> omega)))
                            refine tk_aldA hx hb hK hP 5 ma_50 hfo_615 rfl (vp_in_iff.mpr (by constructor <;> omega)) hga_617 dX12_orders_144 ?_
                            refine lv_iload hx hb dX12_orders_145 (lv_at hl 0 rfl) ?_
                            refine lv_iconst (v := 0) hx hb dX12_orders_147 (by decide) ?_
                            obtain ⟨g_619, hfo_618, hbg_619⟩ := un_604 (hG _ ma_617) ka_617
                            refine tk_zstP hx hb hK hP hD hS 2 ma_617 hfo_618 rfl (vp_in_iff.mpr (by constructor <;> omega)) (bt_n (by decide)) dX12_orders_148 (fun H locs hP hD hS => ?_)
                            obtain ⟨f_621, ef_621⟩ : ∃ y : Nat → va_E, y = va_up f_441 a_617 (.inl (cZ, 90, .inl (upd g_619 (Int32.toNatClampNeg y_439) 0))) := ⟨_, rfl⟩
                            have hP : va_P (dC, dI) vwCl (va_pl L f_621) H := by rw [ef_621]; exact hP
                            have hD : va_D (fun q => q ∈ L) (va_pl L f_621) := by rw [ef_621]; exact hD
                            have hG : GI (okc cI cL cZ cR cG cH L kd) kd L f_621 := by rw [ef_621]; exact hG.set a_617 (mk_604 ka_617 ⟨_, rfl, okI_up hbg_619 (by decide) _⟩)
                            have hfo_622 : f_621 a_2 = .inl (cI, 1560, .inl g_59) := by rw [ef_621, up_ne (kd_ne ka_617 ka_2 (by decide))]; exact hfo_442
                            have hfo_623 : f_621 o0 = .inr (12, [.ref a_2, .ref a_3, .ref a_4, .int v_5, .ref a_6, .int v_7, .int v_8, .int v_223, .int v_224, .int v_225, .int v_226, .int v_13, .int v_14, .int v_15, .int v_16, .ref a_17, .ref a_18, .ref a_19, .ref a_20, .ref a_21, .ref a_22, .ref a_23, .ref a_24, .int v_239, .int v_240, .int v_241, .int v_242, .int v_243, .ref a_30, .int v_245, .ref a_32, .ref a_33, .int v_248, .int v_249, .ref a_36, .int v_37, .ref a_38, .ref a_39, .int v_40, .int v_255, .ref a_42, .ref a_43, .ref a_44, .int v_259, .ref a_46, .ref a_47, .ref a_48, .ref a_49, .ref a_50, .ref a_51, .ref a_52, .ref a_53, .ref a_54, .int v_269, .int v_270, .ref a_57]) := by rw [ef_621, up_ne (kd_ne ka_617 ko0 (by decide))]; exact hfo_443
                            have hfo_624 : f_621 a_50 = .inl (cH, 72, .inr (.inr (.inr (.inr g_616)))) := by rw [ef_621, up_ne (kd_ne ka_617 ka_50 (by decide))]; exact hfo_615
                            have hfr0 : ∀ b, kd b ≠ 12 → kd b ≠ 579 → kd b ≠ 581 → kd b ≠ 583 → kd b ≠ 585 → kd b ≠ 587 → kd b ≠ 588 → kd b ≠ 589 → kd b ≠ 590 → kd b ≠ 591 → kd b ≠ 592 → kd b ≠ 593 → kd b ≠ 597 → kd b ≠ 598 → kd b ≠ 599 → kd b ≠ 603 → kd b ≠ 604 → kd b ≠ 606 → kd b ≠ 607 → kd b ≠ 608 → kd b ≠ 609 → kd b ≠ 610 → f_621 b = f b := fun b q12 q579 q581 q583 q585 q587 q588 q589 q590 q591 q592 q593 q597 q598 q599 q603 q604 q606 q607 q608 q609 q610 => (congrFun ef_621 b).trans ((up_ne (fun e9 => q604 (by rw [e9]; exact ka_617))).trans (hfr0 b q12 q579 q581 q583 q585 q587 q588 q589 q590 q591 q592 q593 q597 q598 q599 q603 q604 q606 q607 q608 q609 q610))
                            have hrA12 : ∀ b, kd b = 12 → ∀ j, fldR (f_621 b) j = fldR (f b) j := fun b kb j => (congrArg (fun x => fldR x j) ((congrFun ef_621 b).trans (up_ne (kd_ne ka_617 kb (by decide))))).trans (hrA12 b kb j)
                            have hfA12 : ∀ b, kd b = 12 → ∀ j, j ≠ 23 → j ≠ 25 → j ≠ 27 → j ≠ 29 → j ≠ 32 → j ≠ 33 → j ≠ 43 → j ≠ 53 → j ≠ 54 → fldI (f_621 b) j = fldI (f b) j := fun b kb j n23 n25 n27 n29 n32 n33 n43 n53 n54 => (congrArg (fun x => fldI x j) ((congrFun ef_621 b).trans (up_ne (kd_ne ka_617 kb (by decide))))).trans (hfA12 b kb j n23 n25 n27 n29 n32 n33 n43 n53 n54)
                            have hT0 : srel kd 592 f_621 o0 := by rw [ef_621]; exact hT0.keep (fun b q => congrArg (fun x => fldR x 30) (up_ne (kd_ne ka_617 q (by decide)))) (fun b q => congrArg (fun x => fldI x 32) (up_ne (kd_ne ka_617 q (by decide)))) (fun b q => congrArg (fun x => fldI x 33) (up_ne (kd_ne ka_617 q (by decide)))) (fun b q => up_ne (kd_ne ka_617 q (by decide)))
                            have hfo_625 : f_621 a_617 = .inl (cZ, 90, .inl (upd g_619 (Int32.toNatClampNeg y_439) 0)) := by rw [ef_621]; exact up_self
                            obtain ⟨x_626, ex_626⟩ : ∃ y : Int32, y_439 + 1 = y := ⟨_, rfl⟩
                            have hx_626 : x_626.toInt = y_439.toInt + 1 := by rw [← ex_626, ad_I (by rw [ti_1]; omega) (by rw [ti_1]; omega), ti_1]
                            have bx_626 : (1 ≤ x_626.toInt ∧ x_626.toInt ≤ 90) := by constructor <;> omega
                            refine lv_iinc (v := x_626) (lv' := [(5, .int x_626), (4, .int y_211), (3, .int x_143), (0, .ref o0), (1, .int p1), (2, .int p2)]) hx hb dX12_orders_149 hl (k := 0) rfl ex_626 (by decide) rfl (fun ls hl => ?_)
                            refine lv_goto (tgt := 131) hx hb dX12_orders_152 (by decide) ?_
                            exact ih_hloop_438 x_626 (by constructor <;> omega) f_621 hG _ _ hP hS hD hfr0 hrA12 hfA12 hfo_622 hfo_623 hT0 (by omega) ls (lv_sub hl [0, 1, 2, 3, 4, 5] rfl)
                      exact hloop_438 91 0 (by decide) f_213 hG _ _ hP hS hD hfr0 hrA12 hfA12 hfo_214 hfo_215 hT0 (by (try rw [ti_0]) <;> omega) ls hl
                exact hloop_210 73 0 (by decide) f_73 hG _ _ hP hS hD hfr0 hrA12 hfA12 hfo_74 hT0 v_105 (by rw [hfo_75]; rfl) (by (try rw [ti_0]) <;> omega) (by (try rw [ti_0]) <;> omega) (by (try rw [ti_0]) <;> omega) ls hl
              · skip
                rw [← Int32.toInt_inj, ti_1] at c_147
                refine lv_iload_n hx hb dX12_orders_117 rfl (lv_at hl 0 rfl) ?_
                exact W.iret (v := x_143) hx hb hr (fun t ht hW => ⟨⟨x_143, f_73, rfl, ⟨hG, (by constructor <;> omega), hfr0, hrA12, hfA12, (by intro w29 z29 e29 d29; rw [hfo_1] at e29; rw [hfo_75] at d29; obtain rfl := Option.some.inj e29; obtain rfl := Option.some.inj d29; omega), hT0⟩, by rw [ht]; exact hP, va_K.moved hW.alike hK, pl_in hD⟩, hS.F ht⟩) hS.2.2 dX12_orders_118
            · skip
              rw [← Int32.toInt_inj, ti_0] at c_142
              refine lv_iload_n hx hb dX12_orders_88 rfl (lv_at hl 3 rfl) ?_
              refine lv_bipush (v := 10) hx hb dX12_orders_89 (by decide) ?_
              refine lv_bipush (v := 9) hx hb dX12_orders_91 (by decide) ?_
              refine lv_aload_n hx hb dX12_orders_93 rfl (lv_at hl 1 rfl) ?_
              refine tk_getP (D := (dC, dI)) (ci := 12) (v := .int v_129) (C := RX12) (T := TX12) (N := 56) hx hb hU inlX12 hown hK hP mo0 hfo_75 rfl 53 (by decide) (hU _ wd_1241) (fun _ h9 => h9) rfl dX12_orders_94 ?_
              refine lv_iadd hx hb dX12_orders_97 ?_
              refine lv_topi (fun x_627 ex_627 => ?_)
              have hx_627 : x_627.toInt = 9 + v_129.toInt := by rw [ex_627, ad_I (by rw [ti_9]; omega) (by rw [ti_9]; omega), ti_9]
              have bx_627 : (9 ≤ x_627.toInt ∧ x_627.toInt ≤ 15) := by constructor <;> omega
              refine tk_SiP (As := [.int p2, .int 10, .int x_627]) (rest := []) (n := 3) hx hb hml hown hU hN hZ (s_X12_isIn l (dC, dI) cI cL cZ cR cG cH Z kd L f_73 hG p2 10 x_627) wd_227 wd_228 wd_5 wd_229 (by decide +kernel) ⟨Nat.le_of_ble_eq_true rfl, Nat.le_of_ble_eq_true rfl⟩ hK hP hD hS rfl hl.1 rfl (Nat.le_of_ble_eq_true rfl) dX12_orders_98 ⟨Nat.le_of_ble_eq_true rfl, Nat.le_of_ble_eq_true rfl⟩ (fun x_628 f_629 H locs hw hP hD hS => ?_)
              obtain ⟨rfl, bx_628, relx_628⟩ := hw
              try rw [ti_10] at relx_628
              refine lv_if_ne (tgt := 106) hx hb dX12_orders_101 (by decide) (fun c_631 => ?_) (fun c_631 => ?_)
              · skip
                rw [← Int32.toInt_inj, ti_0] at c_631
                refine lv_aload_n hx hb dX12_orders_106 rfl (lv_at hl 1 rfl) ?_
                refine lv_iload_n hx hb dX12_orders_107 rfl (lv_at hl 2 rfl) ?_
                refine tk_ViP (As := [.int p1]) (rest := []) (n := 1) hx hb hml hown hU hN hZ (s_X12_wordsUpTo_k12 l (dC, dI) cI cL cZ cR cG cH Z kd L f_73 hG o0 mo0 ko0 p1 (by constructor <;> omega)) wd_1169 wd_1170 wd_1171 wd_5 wd_1172 (by decide +kernel) ⟨Nat.le_of_ble_eq_true rfl, Nat.le_of_ble_eq_true rfl⟩ hK hP hD hS mo0 hfo_75 12 rfl rfl rfl hl.1 rfl (Nat.le_of_ble_eq_true rfl) dX12_orders_108 ⟨Nat.le_of_ble_eq_true rfl, Nat.le_of_ble_eq_true rfl⟩ (fun x_632 f_633 H locs hw hP hD hS => ?_)
                obtain ⟨rfl, bx_632, hxp_634⟩ := hw
                have hwu := hxp_634 a_2 g_59 (by rw [hfo_75]; rfl) hfo_74
                have hsq := lw_sq (L := (g_59 0).toInt) (hbg_59.1 0 (by decide) (by decide) (by decide))
                refine lv_istore_n (lv' := [(3, .int x_632), (0, .ref o0), (1, .int p1), (2, .int p2)]) hx hb dX12_orders_111 rfl hl (by decide) rfl (fun ls hl => ?_)
                have hclx_632 : (0 ≤ x_632.toInt ∧ x_632.toInt ≤ 72) := by constructor <;> omega
                refine lv_iload_n hx hb dX12_orders_112 rfl (lv_at hl 3 rfl) ?_
                refine lv_iconst (v := 1) hx hb dX12_orders_113 (by decide) ?_
                refine lv_icmp_ne (tgt := 119) hx hb dX12_orders_114 (by decide) (fun c_636 => ?_) (fun c_636 => ?_)
                · skip
                  rw [← Int32.toInt_inj, ti_1] at c_636
                  refine lv_iconst (v := 0) hx hb dX12_orders_119 (by decide) ?_
                  refine lv_istore (lv' := [(4, .int 0), (3, .int x_632), (0, .ref o0), (1, .int p1), (2, .int p2)]) hx hb dX12_orders_120 hl (by decide) rfl (fun ls hl => ?_)
                  have hloop_699 : ∀ (n : Nat), ∀ (y_700 : Int32), (0 ≤ y_700.toInt ∧ y_700.toInt ≤ 72) → ∀ (f_702 : Nat → va_E), GI (okc cI cL cZ cR cG cH L kd) kd L f_702 → ∀ (H : Heap) (locs : List Loc), va_P (dC, dI) vwCl (va_pl L f_702) H → va_S (fun q => q ∈ L) s.heap H locs → va_D (fun q => q ∈ L) (va_pl L f_702) → (∀ b, kd b ≠ 12 → kd b ≠ 579 → kd b ≠ 581 → kd b ≠ 583 → kd b ≠ 585 → kd b ≠ 587 → kd b ≠ 588 → kd b ≠ 589 → kd b ≠ 590 → kd b ≠ 591 → kd b ≠ 592 → kd b ≠ 593 → kd b ≠ 597 → kd b ≠ 598 → kd b ≠ 599 → kd b ≠ 603 → kd b ≠ 604 → kd b ≠ 606 → kd b ≠ 607 → kd b ≠ 608 → kd b ≠ 609 → kd b ≠ 610 → f_702 b = f b) → (∀ b, kd b = 12 → ∀ j, fldR (f_702 b) j = fldR (f b) j) → (∀ b, kd b = 12 → ∀ j, j ≠ 23 → j ≠ 25 → j ≠ 27 → j ≠ 29 → j ≠ 32 → j ≠ 33 → j ≠ 43 → j ≠ 53 → j ≠ 54 → fldI (f_702 b) j = fldI (f b) j) → (f_702 a_2 = .inl (cI, 1560, .inl g_59)) → srel kd 592 f_702 o0 → ∀ (whloop_699_0_29 : Int32), fldI (f_702 o0) 29 = some whloop_699_0_29 → (whloop_699_0_29.toInt = v_31.toInt) → (0 ≤ whloop_699_0_29.toInt ∧ whloop_699_0_29.toInt ≤ 201) → 72 - y_700.toInt < (n : Int) → ∀ (ls : Array Slot), lv_has ls 6 [(4, .int y_700), (3, .int x_632), (0, .ref o0), (1, .int p1), (2, .int p2)] → W p l e (headSpec (wU yX12_orders cX12_orders 6 (some .int)) { frames := 24, cells := 0, slots := 0, locals := 676 }).room s m [.ref o0, .int p1, .int p2].toArray below meth c H locs 0 0 (MQ below (va_Qi (fun (r : Int32) (f9 : Nat → va_E) => GI (okc cI cL cZ cR cG cH L kd) kd L f9 ∧ ((-2147483648) ≤ r.toInt ∧ r.toInt ≤ 2147483647) ∧ (∀ b, kd b ≠ 12 → kd b ≠ 579 → kd b ≠ 581 → kd b ≠ 583 → kd b ≠ 585 → kd b ≠ 587 → kd b ≠ 588 → kd b ≠ 589 → kd b ≠ 590 → kd b ≠ 591 → kd b ≠ 592 → kd b ≠ 593 → kd b ≠ 597 → kd b ≠ 598 → kd b ≠ 599 → kd b ≠ 603 → kd b ≠ 604 → kd b ≠ 606 → kd b ≠ 607 → kd b ≠ 608 → kd b ≠ 609 → kd b ≠ 610 → f9 b = f b) ∧ (∀ b, kd b = 12 → ∀ j, fldR (f9 b) j = fldR (f b) j) ∧ (∀ b, kd b = 12 → ∀ j, j ≠ 23 → j ≠ 25 → j ≠ 27 → j ≠ 29 → j ≠ 32 → j ≠ 33 → j ≠ 43 → j ≠ 53 → j ≠ 54 → fldI (f9 b) j = fldI (f b) j) ∧ (∀ (w29 z29 : Int32), fldI (f o0) 29 = some w29 → fldI (f9 o0) 29 = some z29 → z29.toInt = w29.toInt) ∧ (srel kd 592 f9 o0)) (qP (dC, dI) cI cL cZ cR cG cH L) (fun q => q ∈ L)) [.ref o0, .int p1, .int p2].toArray s 0 0 (fun q => q ∈ L)) (F0 m 122 ls []) := by
                    intro n
                    induction n with
                    | zero => intro y_700 by_700 f_702 hG H locs hP hS hD hfr0 hrA12 hfA12 hfo_703 hT0 whloop_699_0_29 hghloop_699_0_29 hrelhloop_699_0 hrelhloop_699_1 hmuhloop_699 ls hl; exfalso; omega
                    | succ n ih_hloop_699 =>
                      intro y_700 by_700 f_702 hG H locs hP hS hD hfr0 hrA12 hfA12 hfo_703 hT0 whloop_699_0_29 hghloop_699_0_29 hrelhloop_699_0 hrelhloop_699_1 hmuhloop_699 ls hl
                      obtain ⟨a_705, a_706, a_707, v_708, a_709, v_710, v_711, v_712, v_713, v_714, v_715, v_716, v_717, v_718, v_719, a_720, a_721, a_722, a_723, a_724, a_725, a_726, a_727, v_728, v_729, v_730, v_731, v_732, a_733, v_734, a_735, a_736, v_737, v_738, a_739, v_740, a_741, a_742, v_743, v_744, a_745, a_746, a_747, v_748, a_749, a_750, a_751, a_752, a_753, a_754, a_755, a_756, a_757, v_758, v_759, a_760, hfo_704, ⟨ma_705, ka_705⟩, ⟨ma_706, ka_706⟩, ⟨ma_707, ka_707⟩, bv_708, ⟨ma_709, ka_709⟩, bv_710, bv_711, bv_716, bv_717, bv_718, ⟨ma_720, ka_720⟩, ⟨ma_721, ka_721⟩, ⟨ma_722, ka_722⟩, ⟨ma_723, ka_723⟩, ⟨ma_724, ka_724⟩, ⟨ma_725, ka_725⟩, ⟨ma_726, ka_726⟩, ⟨ma_727, ka_727⟩, bv_728, bv_730, bv_732, ⟨ma_733, ka_733⟩, bv_734, ⟨ma_735, ka_735⟩, ⟨ma_736, ka_736⟩, bv_737, ⟨ma_739, ka_739⟩, bv_740, ⟨ma_741, ka_741⟩, ⟨ma_742, ka_742⟩, bv_743, ⟨ma_745, ka_745⟩, ⟨ma_746, ka_746⟩, ⟨ma_747, ka_747⟩, bv_748, ⟨ma_749, ka_749⟩, ⟨ma_750, ka_750⟩, ⟨ma_751, ka_751⟩, ⟨ma_752, ka_752⟩, ⟨ma_753, ka_753⟩, ⟨ma_754, ka_754⟩, ⟨ma_755, ka_755⟩, ⟨ma_756, ka_756⟩, ⟨ma_757, ka_757⟩, bv_758, ⟨ma_760, ka_760⟩⟩ := un_12 (hG _ mo0) ko0
                      have bv_712 : ((-2147483648) ≤ v_712.toInt ∧ v_712.toInt ≤ 2147483647) := ⟨i32_lo _, i32_hi _⟩
                      have bv_713 : ((-2147483648) ≤ v_713.toInt ∧ v_713.toInt ≤ 2147483647) := ⟨i32_lo _, i32_hi _⟩
                      have bv_714 : ((-2147483648) ≤ v_714.toInt ∧ v_714.toInt ≤ 2147483647) := ⟨i32_lo _, i32_hi _⟩
                      have bv_715 : ((-2147483648) ≤ v_715.toInt ∧ v_715.toInt ≤ 2147483647) := ⟨i32_lo _, i32_hi _⟩
                      have bv_719 : ((-2147483648) ≤ v_719.toInt ∧ v_719.toInt ≤ 2147483647) := ⟨i32_lo _, i32_hi _⟩
                      have bv_729 : ((-2147483648) ≤ v_729.toInt ∧ v_729.toInt ≤ 2147483647) := ⟨i32_lo _, i32_hi _⟩
                      have bv_731 : ((-2147483648) ≤ v_731.toInt ∧ v_731.toInt ≤ 2147483647) := ⟨i32_lo _, i32_hi _⟩
                      have bv_738 : ((-2147483648) ≤ v_738.toInt ∧ v_738.toInt ≤ 2147483647) := ⟨i32_lo _, i32_hi _⟩
                      have bv_744 : ((-2147483648) ≤ v_744.toInt ∧ v_744.toInt ≤ 2147483647) := ⟨i32_lo _, i32_hi _⟩
                      have bv_759 : ((-2147483648) ≤ v_759.toInt ∧ v_759.toInt ≤ 2147483647) := ⟨i32_lo _, i32_hi _⟩
                      obtain ⟨rfl, rfl, rfl, rfl, rfl, rfl, rfl, rfl, rfl, rfl, rfl, rfl, rfl, rfl, rfl, rfl, rfl, rfl, rfl, rfl, rfl, rfl, rfl, rfl, rfl, rfl, rfl, rfl, rfl, rfl, rfl⟩ := re_12 hfo_1 hfo_704 (hrA12 o0 ko0)
                      obtain rfl := ri_12_3 hfo_1 hfo_704 (hfA12 o0 ko0 3 (by decide) (by decide) (by decide) (by decide) (by decide) (by decide) (by decide) (by decide) (by decide))
                      obtain rfl := ri_12_5 hfo_1 hfo_704 (hfA12 o0 ko0 5 (by decide) (by decide) (by decide) (by decide) (by decide) (by decide) (by decide) (by decide) (by decide))
                      obtain rfl := ri_12_6 hfo_1 hfo_704 (hfA12 o0 ko0 6 (by decide) (by decide) (by decide) (by decide) (by decide) (by decide) (by decide) (by decide) (by decide))
                      obtain rfl := ri_12_11 hfo_1 hfo_704 (hfA12 o0 ko0 11 (by decide) (by decide) (by decide) (by decide) (by decide) (by decide) (by decide) (by decide) (by decide))
                      obtain rfl := ri_12_12 hfo_1 hfo_704 (hfA12 o0 ko0 12 (by decide) (by decide) (by decide) (by decide) (by decide) (by decide) (by decide) (by decide) (by decide))
                      obtain rfl := ri_12_13 hfo_1 hfo_704 (hfA12 o0 ko0 13 (by decide) (by decide) (by decide) (by decide) (by decide) (by decide) (by decide) (by decide) (by decide))
                      obtain rfl := ri_12_14 hfo_1 hfo_704 (hfA12 o0 ko0 14 (by decide) (by decide) (by decide) (by decide) (by decide) (by decide) (by decide) (by decide) (by decide))
                      obtain rfl := ri_12_35 hfo_1 hfo_704 (hfA12 o0 ko0 35 (by decide) (by decide) (by decide) (by decide) (by decide) (by decide) (by decide) (by decide) (by decide))
                      obtain rfl := ri_12_38 hfo_1 hfo_704 (hfA12 o0 ko0 38 (by decide) (by decide) (by decide) (by decide) (by decide) (by decide) (by decide) (by decide) (by decide))
                      obtain rfl : v_734 = whloop_699_0_29 := by rw [hfo_704] at hghloop_699_0_29; exact Option.some.inj hghloop_699_0_29
                      refine lv_iload hx hb dX12_orders_122 (lv_at hl 0 rfl) ?_
                      refine lv_iload_n hx hb dX12_orders_124 rfl (lv_at hl 1 rfl) ?_
                      refine lv_icmp_ge (tgt := 224) hx hb dX12_orders_125 (by decide) (fun c_761 => ?_) (fun c_761 => ?_)
                      · skip
                        rw [Int32.le_iff_toInt_le] at c_761
                        refine lv_aload_n hx hb dX12_orders_224 rfl (lv_at hl 2 rfl) ?_
                        refine tk_getP (D := (dC, dI)) (ci := 12) (v := .int v_748) (C := RX12) (T := TX12) (N := 56) hx hb hU inlX12 hown hK hP mo0 hfo_704 rfl 43 (by decide) (hU _ wd_572) (fun _ h9 => h9) rfl dX12_orders_225 ?_
                        refine lv_istore (lv' := [(4, .int v_748), (3, .int x_632), (0, .ref o0), (1, .int p1), (2, .int p2)]) hx hb dX12_orders_228 hl (by decide) rfl (fun ls hl => ?_)
                        refine lv_iconst (v := 0) hx hb dX12_orders_230 (by decide) ?_
                        refine lv_istore (lv' := [(5, .int 0), (4, .int v_748), (3, .int x_632), (0, .ref o0), (1, .int p1), (2, .int p2)]) hx hb dX12_orders_231 hl (by decide) rfl (fun ls hl => ?_)
                        have hloop_780 : ∀ (n : Nat), ∀ (y_781 : Int32), (0 ≤ y_781.toInt ∧ y_781.toInt ≤ 16) → ∀ (f_783 : Nat → va_E), GI (okc cI cL cZ cR cG cH L kd) kd L f_783 → ∀ (H : Heap) (locs : List Loc), va_P (dC, dI) vwCl (va_pl L f_783) H → va_S (fun q => q ∈ L) s.heap H locs → va_D (fun q => q ∈ L) (va_pl L f_783) → (∀ b, kd b ≠ 12 → kd b ≠ 579 → kd b ≠ 581 → kd b ≠ 583 → kd b ≠ 585 → kd b ≠ 587 → kd b ≠ 588 → kd b ≠ 589 → kd b ≠ 590 → kd b ≠ 591 → kd b ≠ 592 → kd b ≠ 593 → kd b ≠ 597 → kd b ≠ 598 → kd b ≠ 599 → kd b ≠ 603 → kd b ≠ 604 → kd b ≠ 606 → kd b ≠ 607 → kd b ≠ 608 → kd b ≠ 609 → kd b ≠ 610 → f_783 b = f b) → (∀ b, kd b = 12 → ∀ j, fldR (f_783 b) j = fldR (f b) j) → (∀ b, kd b = 12 → ∀ j, j ≠ 23 → j ≠ 25 → j ≠ 27 → j ≠ 29 → j ≠ 32 → j ≠ 33 → j ≠ 43 → j ≠ 53 → j ≠ 54 → fldI (f_783 b) j = fldI (f b) j) → (f_783 a_2 = .inl (cI, 1560, .inl g_59)) → (f_783 o0 = .inr (12, [.ref a_2, .ref a_3, .ref a_4, .int v_5, .ref a_6, .int v_7, .int v_8, .int v_712, .int v_713, .int v_714, .int v_715, .int v_13, .int v_14, .int v_15, .int v_16, .ref a_17, .ref a_18, .ref a_19, .ref a_20, .ref a_21, .ref a_22, .ref a_23, .ref a_24, .int v_728, .int v_729, .int v_730, .int v_731, .int v_732, .ref a_30, .int v_734, .ref a_32, .ref a_33, .int v_737, .int v_738, .ref a_36, .int v_37, .ref a_38, .ref a_39, .int v_40, .int v_744, .ref a_42, .ref a_43, .ref a_44, .int v_748, .ref a_46, .ref a_47, .ref a_48, .ref a_49, .ref a_50, .ref a_51, .ref a_52, .ref a_53, .ref a_54, .int v_758, .int v_759, .ref a_57])) → srel kd 592 f_783 o0 → 16 - y_781.toInt < (n : Int) → ∀ (ls : Array Slot), lv_has ls 6 [(5, .int y_781), (4, .int v_748), (3, .int x_632), (0, .ref o0), (1, .int p1), (2, .int p2)] → W p l e (headSpec (wU yX12_orders cX12_orders 6 (some .int)) { frames := 24, cells := 0, slots := 0, locals := 676 }).room s m [.ref o0, .int p1, .int p2].toArray below meth c H locs 0 0 (MQ below (va_Qi (fun (r : Int32) (f9 : Nat → va_E) => GI (okc cI cL cZ cR cG cH L kd) kd L f9 ∧ ((-2147483648) ≤ r.toInt ∧ r.toInt ≤ 2147483647) ∧ (∀ b, kd b ≠ 12 → kd b ≠ 579 → kd b ≠ 581 → kd b ≠ 583 → kd b ≠ 585 → kd b ≠ 587 → kd b ≠ 588 → kd b ≠ 589 → kd b ≠ 590 → kd b ≠ 591 → kd b ≠ 592 → kd b ≠ 593 → kd b ≠ 597 → kd b ≠ 598 → kd b ≠ 599 → kd b ≠ 603 → kd b ≠ 604 → kd b ≠ 606 → kd b ≠ 607 → kd b ≠ 608 → kd b ≠ 609 → kd b ≠ 610 → f9 b = f b) ∧ (∀ b, kd b = 12 → ∀ j, fldR (f9 b) j = fldR (f b) j) ∧ (∀ b, kd b = 12 → ∀ j, j ≠ 23 → j ≠ 25 → j ≠ 27 → j ≠ 29 → j ≠ 32 → j ≠ 33 → j ≠ 43 → j ≠ 53 → j ≠ 54 → fldI (f9 b) j = fldI (f b) j) ∧ (∀ (w29 z29 : Int32), fldI (f o0) 29 = some w29 → fldI (f9 o0) 29 = some z29 → z29.toInt = w29.toInt) ∧ (srel kd 592 f9 o0)) (qP (dC, dI) cI cL cZ cR cG cH L) (fun q => q ∈ L)) [.ref o0, .int p1, .int p2].toArray s 0 0 (fun q => q ∈ L)) (F0 m 233 ls []) := by
                          intro n
                          induction n with
                          | zero => intro y_781 by_781 f_783 hG H locs hP hS hD hfr0 hrA12 hfA12 hfo_784 hfo_785 hT0 hmuhloop_780 ls hl; exfalso; omega
                          | succ n ih_hloop_780 =>
                            intro y_781 by_781 f_783 hG H locs hP hS hD hfr0 hrA12 hfA12 hfo_784 hfo_785 hT0 hmuhloop_780 ls hl
                            refine lv_iload hx hb dX12_orders_233 (lv_at hl 0 rfl) ?_
                            refine lv_bipush (v := 16) hx hb dX12_orders_235 (by decide) ?_
                            refine lv_icmp_ge (tgt := 260) hx hb dX12_orders_237 (by decide) (fun c_786 => ?_) (fun c_786 => ?_)
                            · skip
                              rw [Int32.le_iff_toInt_le, ti_16] at c_786
                              refine lv_aload_n hx hb dX12_orders_260 rfl (lv_at hl 3 rfl) ?_
                              refine lv_iconst (v := (-1)) hx hb dX12_orders_261 (by decide) ?_
                              refine tk_putP (D := (dC, dI)) (ci := 12) (v := .int (-1)) (ty := .int) (C := RX12) (T := TX12) (N := 56) hx hb hU inlX12 tyX12 tyX12_ok nmX12 hown hK hP hD hS mo0 hfo_785 rfl 54 (by decide) (hU _ wd_1242) (fun _ h9 => h9) rfl (by decide +kernel) rfl rfl (Nat.le_of_ble_eq_true rfl) dX12_orders_262 (fun H locs hP hD hS => ?_)
                              obtain ⟨f_788, ef_788⟩ : ∃ y : Nat → va_E, y = va_up f_783 o0 (.inr (12, [.ref a_2, .ref a_3, .ref a_4, .int v_5, .ref a_6, .int v_7, .int v_8, .int v_712, .int v_713, .int v_714, .int v_715, .int v_13, .int v_14, .int v_15, .int v_16, .ref a_17, .ref a_18, .ref a_19, .ref a_20, .ref a_21, .ref a_22, .ref a_23, .ref a_24, .int v_728, .int v_729, .int v_730, .int v_731, .int v_732, .ref a_30, .int v_734, .ref a_32, .ref a_33, .int v_737, .int v_738, .ref a_36, .int v_37, .ref a_38, .ref a_39, .int v_40, .int v_744, .ref a_42, .ref a_43, .ref a_44, .int v_748, .ref a_46, .ref a_47, .ref a_48, .ref a_49, .ref a_50, .ref a_51, .ref a_52, .ref a_53, .ref a_54, .int v_758, .int (-1), .ref a_57])) := ⟨_, rfl⟩
                              have hP : va_P (dC, dI) vwCl (va_pl L f_788) H := by rw [ef_788]; exact hP
                              have hD : va_D (fun q => q ∈ L) (va_pl L f_788) := by rw [ef_788]; exact hD
                              have hG : GI (okc cI cL cZ cR cG cH L kd) kd L f_788 := by rw [ef_788]; exact hG.set o0 (mk_12 ko0 ⟨a_2, a_3, a_4, v_5, a_6, v_7, v_8, v_712, v_713, v_714, v_715, v_13, v_14, v_15, v_16, a_17, a_18, a_19, a_20, a_21, a_22, a_23, a_24, v_728, v_729, v_730, v_731, v_732, a_30, v_734, a_32, a_33, v_737, v_738, a_36, v_37, a_38, a_39, v_40, v_744, a_42, a_43, a_44, v_748, a_46, a_47, a_48, a_49, a_50, a_51, a_52, a_53, a_54, v_758, (-1), a_57, rfl, ⟨ma_2, ka_2⟩, ⟨ma_3, ka_3⟩, ⟨ma_4, ka_4⟩, (by constructor <;> omega), ⟨ma_6, ka_6⟩, (by constructor <;> omega), (by constructor <;> omega), (by constructor <;> omega), (by constructor <;> omega), (by constructor <;> omega), ⟨ma_17, ka_17⟩, ⟨ma_18, ka_18⟩, ⟨ma_19, ka_19⟩, ⟨ma_20, ka_20⟩, ⟨ma_21, ka_21⟩, ⟨ma_22, ka_22⟩, ⟨ma_23, ka_23⟩, ⟨ma_24, ka_24⟩, (by constructor <;> omega), (by constructor <;> omega), (by constructor <;> omega), ⟨ma_30, ka_30⟩, (by constructor <;> omega), ⟨ma_32, ka_32⟩, ⟨ma_33, ka_33⟩, (by constructor <;> omega), ⟨ma_36, ka_36⟩, (by constructor <;> omega), ⟨ma_38, ka_38⟩, ⟨ma_39, ka_39⟩, (by constructor <;> omega), ⟨ma_42, ka_42⟩, ⟨ma_43, ka_43⟩, ⟨ma_44, ka_44⟩, (by constructor <;> omega), ⟨ma_46, ka_46⟩, ⟨ma_47, ka_47⟩, ⟨ma_48, ka_48⟩, ⟨ma_49, ka_49⟩, ⟨ma_50, ka_50⟩, ⟨ma_51, ka_51⟩, ⟨ma_52, ka_52⟩, ⟨ma_53, ka_53⟩, ⟨ma_54, ka_54⟩, (by constructor <;> omega), ⟨ma_57, ka_57⟩⟩)
                              have hfo_789 : f_788 a_2 = .inl (cI, 1560, .inl g_59) := by rw [ef_788, up_ne (kd_ne ko0 ka_2 (by decide))]; exact hfo_784
                              have hfr0 : ∀ b, kd b ≠ 12 → kd b ≠ 579 → kd b ≠ 581 → kd b ≠ 583 → kd b ≠ 585 → kd b ≠ 587 → kd b ≠ 588 → kd b ≠ 589 → kd b ≠ 590 → kd b ≠ 591 → kd b ≠ 592 → kd b ≠ 593 → kd b ≠ 597 → kd b ≠ 598 → kd b ≠ 599 → kd b ≠ 603 → kd b ≠ 604 → kd b ≠ 606 → kd b ≠ 607 → kd b ≠ 608 → kd b ≠ 609 → kd b ≠ 610 → f_788 b = f b := fun b q12 q579 q581 q583 q585 q587 q588 q589 q590 q591 q592 q593 q597 q598 q599 q603 q604 q606 q607 q608 q609 q610 => (congrFun ef_788 b).trans ((up_ne (fun e9 => q12 (by rw [e9]; exact ko0))).trans (hfr0 b q12 q579 q581 q583 q585 q587 q588 q589 q590 q591 q592 q593 q597 q598 q599 q603 q604 q606 q607 q608 q609 q610))
                              have hrA12 : ∀ b, kd b = 12 → ∀ j, fldR (f_788 b) j = fldR (f b) j := fun b kb j => ((congrArg (fun x => fldR x j) (congrFun ef_788 b)).trans (fra_up (fun j => by rw [hfo_785]; exact fr_set (k := 54) rfl rfl j) j b)).trans (hrA12 b kb j)
                              have hfA12 : ∀ b, kd b = 12 → ∀ j, j ≠ 23 → j ≠ 25 → j ≠ 27 → j ≠ 29 → j ≠ 32 → j ≠ 33 → j ≠ 43 → j ≠ 53 → j ≠ 54 → fldI (f_788 b) j = fldI (f b) j := fun b kb j n23 n25 n27 n29 n32 n33 n43 n53 n54 => ((congrArg (fun x => fldI x j) (congrFun ef_788 b)).trans (fia_up (fun h9 => by rw [hfo_785]; exact fi_set (k := 54) rfl h9) n54 b)).trans (hfA12 b kb j n23 n25 n27 n29 n32 n33 n43 n53 n54)
                              have hT0 : srel kd 592 f_788 o0 := by rw [ef_788]; exact hT0.keep (fun b _ => fr_up (by rw [hfo_785]; rfl) b) (fun b _ => fk_up (by rw [hfo_785]; rfl) b) (fun b _ => fk_up (by rw [hfo_785]; rfl) b) (fun b q => up_ne (kd_ne ko0 q (by decide)))
                              have hfo_790 : f_788 o0 = .inr (12, [.ref a_2, .ref a_3, .ref a_4, .int v_5, .ref a_6, .int v_7, .int v_8, .int v_712, .int v_713, .int v_714, .int v_715, .int v_13, .int v_14, .int v_15, .int v_16, .ref a_17, .ref a_18, .ref a_19, .ref a_20, .ref a_21, .ref a_22, .ref a_23, .ref a_24, .int v_728, .int v_729, .int v_730, .int v_731, .int v_732, .ref a_30, .int v_734, .ref a_32, .ref a_33, .int v_737, .int v_738, .ref a_36, .int v_37, .ref a_38, .ref a_39, .int v_40, .int v_744, .ref a_42, .ref a_43, .ref a_44, .int v_748, .ref a_46, .ref a_47, .ref a_48, .ref a_49, .ref a_50, .ref a_51, .ref a_52, .ref a_53, .ref a_54, .int v_758, .int (-1), .ref a_57]) := by rw [ef_788]; exact up_self
                              refine lv_aload_n hx hb dX12_orders_265 rfl (lv_at hl 3 rfl) ?_
                              refine lv_iconst (v := 0) hx hb dX12_orders_266 (by decide) ?_
                              refine lv_iload_n hx hb dX12_orders_267 rfl (lv_at hl 2 rfl) ?_
                              refine tk_VvP (As := [.int 0, .int x_632]) (rest := []) (n := 2) hx hb hml hown hU hN hZ (s_X12_triesOrders_k12 l (dC, dI) cI cL cZ cR cG cH Z kd L 9 f_788 hG o0 mo0 ko0 0 (by decide) x_632 (by constructor <;> omega) (by intro w53 e53; rw [hfo_790] at e53; obtain rfl := Option.some.inj e53; omega) (fun b9 g9 h1 h2 => by rw [hfo_790] at h1; obtain rfl := Option.some.inj h1; rw [hfo_789] at h2; cases h2; omega) (by (try rw [ti_0]) <;> omega)) wd_1247 wd_1248 wd_1249 wd_5 wd_1250 (by decide +kernel) ⟨Nat.le_of_ble_eq_true rfl, Nat.le_of_ble_eq_true rfl⟩ hK hP hD hS mo0 hfo_790 12 rfl rfl rfl hl.1 rfl (Nat.le_of_ble_eq_true rfl) dX12_orders_268 ⟨Nat.le_of_ble_eq_true rfl, Nat.le_of_ble_eq_true rfl⟩ (fun f_792 H locs hw hP hD hS => ?_)
                              obtain ⟨hG, hkc_793, hra_794, hfa_795⟩ := hw
                              have hfo_797 : f_792 a_2 = .inl (cI, 1560, .inl g_59) := by rw [hkc_793 a_2 (by rw [ka_2]; decide) (by rw [ka_2]; decide) (by rw [ka_2]; decide) (by rw [ka_2]; decide) (by rw [ka_2]; decide) (by rw [ka_2]; decide) (by rw [ka_2]; decide) (by rw [ka_2]; decide)]; exact hfo_789
                              have hfr0 : ∀ b, kd b ≠ 12 → kd b ≠ 579 → kd b ≠ 581 → kd b ≠ 583 → kd b ≠ 585 → kd b ≠ 587 → kd b ≠ 588 → kd b ≠ 589 → kd b ≠ 590 → kd b ≠ 591 → kd b ≠ 592 → kd b ≠ 593 → kd b ≠ 597 → kd b ≠ 598 → kd b ≠ 599 → kd b ≠ 603 → kd b ≠ 604 → kd b ≠ 606 → kd b ≠ 607 → kd b ≠ 608 → kd b ≠ 609 → kd b ≠ 610 → f_792 b = f b := fun b q12 q579 q581 q583 q585 q587 q588 q589 q590 q591 q592 q593 q597 q598 q599 q603 q604 q606 q607 q608 q609 q610 => (hkc_793 b q12 q589 q597 q598 q599 q607 q608 q609).trans (hfr0 b q12 q579 q581 q583 q585 q587 q588 q589 q590 q591 q592 q593 q597 q598 q599 q603 q604 q606 q607 q608 q609 q610)
                              have hrA12 : ∀ b, kd b = 12 → ∀ j, fldR (f_792 b) j = fldR (f b) j := fun b kb j => (hra_794 b kb j).trans (hrA12 b kb j)
                              have hfA12 : ∀ b, kd b = 12 → ∀ j, j ≠ 23 → j ≠ 25 → j ≠ 27 → j ≠ 29 → j ≠ 32 → j ≠ 33 → j ≠ 43 → j ≠ 53 → j ≠ 54 → fldI (f_792 b) j = fldI (f b) j := fun b kb j n23 n25 n27 n29 n32 n33 n43 n53 n54 => (hfa_795 b kb j n23 n43 n54).trans (hfA12 b kb j n23 n25 n27 n29 n32 n33 n43 n53 n54)
                              have hT0 : srel kd 592 f_792 o0 := hT0.keep (fun b q => hra_794 b q 30) (fun b q => hfa_795 b q 32 (by decide) (by decide) (by decide)) (fun b q => hfa_795 b q 33 (by decide) (by decide) (by decide)) (fun b q => hkc_793 b (by rw [q]; decide) (by rw [q]; decide) (by rw [q]; decide) (by rw [q]; decide) (by rw [q]; decide) (by rw [q]; decide) (by rw [q]; decide) (by rw [q]; decide))
                              obtain ⟨a_799, a_800, a_801, v_802, a_803, v_804, v_805, v_806, v_807, v_808, v_809, v_810, v_811, v_812, v_813, a_814, a_815, a_816, a_817, a_818, a_819, a_820, a_821, v_822, v_823, v_824, v_825, v_826, a_827, v_828, a_829, a_830, v_831, v_832, a_833, v_834, a_835, a_836, v_837, v_838, a_839, a_840, a_841, v_842, a_843, a_844, a_845, a_846, a_847, a_848, a_849, a_850, a_851, v_852, v_853, a_854, hfo_798, ⟨ma_799, ka_799⟩, ⟨ma_800, ka_800⟩, ⟨ma_801, ka_801⟩, bv_802, ⟨ma_803, ka_803⟩, bv_804, bv_805, bv_810, bv_811, bv_812, ⟨ma_814, ka_814⟩, ⟨ma_815, ka_815⟩, ⟨ma_816, ka_816⟩, ⟨ma_817, ka_817⟩, ⟨ma_818, ka_818⟩, ⟨ma_819, ka_819⟩, ⟨ma_820, ka_820⟩, ⟨ma_821, ka_821⟩, bv_822, bv_824, bv_826, ⟨ma_827, ka_827⟩, bv_828, ⟨ma_829, ka_829⟩, ⟨ma_830, ka_830⟩, bv_831, ⟨ma_833, ka_833⟩, bv_834, ⟨ma_835, ka_835⟩, ⟨ma_836, ka_836⟩, bv_837, ⟨ma_839, ka_839⟩, ⟨ma_840, ka_840⟩, ⟨ma_841, ka_841⟩, bv_842, ⟨ma_843, ka_843⟩, ⟨ma_844, ka_844⟩, ⟨ma_845, ka_845⟩, ⟨ma_846, ka_846⟩, ⟨ma_847, ka_847⟩, ⟨ma_848, ka_848⟩, ⟨ma_849, ka_849⟩, ⟨ma_850, ka_850⟩, ⟨ma_851, ka_851⟩, bv_852, ⟨ma_854, ka_854⟩⟩ := un_12 (hG _ mo0) ko0
                              have bv_806 : ((-2147483648) ≤ v_806.toInt ∧ v_806.toInt ≤ 2147483647) := ⟨i32_lo _, i32_hi _⟩
                              have bv_807 : ((-2147483648) ≤ v_807.toInt ∧ v_807.toInt ≤ 2147483647) := ⟨i32_lo _, i32_hi _⟩
                              have bv_808 : ((-2147483648) ≤ v_808.toInt ∧ v_808.toInt ≤ 2147483647) := ⟨i32_lo _, i32_hi _⟩
                              have bv_809 : ((-2147483648) ≤ v_809.toInt ∧ v_809.toInt ≤ 2147483647) := ⟨i32_lo _, i32_hi _⟩
                              have bv_813 : ((-2147483648) ≤ v_813.toInt ∧ v_813.toInt ≤ 2147483647) := ⟨i32_lo _, i32_hi _⟩
                              have bv_823 : ((-2147483648) ≤ v_823.toInt ∧ v_823.toInt ≤ 2147483647) := ⟨i32_lo _, i32_hi _⟩
                              have bv_825 : ((-2147483648) ≤ v_825.toInt ∧ v_825.toInt ≤ 2147483647) := ⟨i32_lo _, i32_hi _⟩
                              have bv_832 : ((-2147483648) ≤ v_832.toInt ∧ v_832.toInt ≤ 2147483647) := ⟨i32_lo _, i32_hi _⟩
                              have bv_838 : ((-2147483648) ≤ v_838.toInt ∧ v_838.toInt ≤ 2147483647) := ⟨i32_lo _, i32_hi _⟩
                              have bv_853 : ((-2147483648) ≤ v_853.toInt ∧ v_853.toInt ≤ 2147483647) := ⟨i32_lo _, i32_hi _⟩
                              obtain ⟨rfl, rfl, rfl, rfl, rfl, rfl, rfl, rfl, rfl, rfl, rfl, rfl, rfl, rfl, rfl, rfl, rfl, rfl, rfl, rfl, rfl, rfl, rfl, rfl, rfl, rfl, rfl, rfl, rfl, rfl, rfl⟩ := re_12 hfo_1 hfo_798 (hrA12 o0 ko0)
                              obtain rfl := ri_12_3 hfo_1 hfo_798 (hfA12 o0 ko0 3 (by decide) (by decide) (by decide) (by decide) (by decide) (by decide) (by decide) (by decide) (by decide))
                              obtain rfl := ri_12_5 hfo_1 hfo_798 (hfA12 o0 ko0 5 (by decide) (by decide) (by decide) (by decide) (by decide) (by decide) (by decide) (by decide) (by decide))
                              obtain rfl := ri_12_6 hfo_1 hfo_798 (hfA12 o0 ko0 6 (by decide) (by decide) (by decide) (by decide) (by decide) (by decide) (by decide) (by decide) (by decide))
                              obtain rfl := ri_12_11 hfo_1 hfo_798 (hfA12 o0 ko0 11 (by decide) (by decide) (by decide) (by decide) (by decide) (by decide) (by decide) (by decide) (by decide))
                              obtain rfl := ri_12_12 hfo_1 hfo_798 (hfA12 o0 ko0 12 (by decide) (by decide) (by decide) (by decide) (by decide) (by decide) (by decide) (by decide) (by decide))
                              obtain rfl := ri_12_13 hfo_1 hfo_798 (hfA12 o0 ko0 13 (by decide) (by decide) (by decide) (by decide) (by decide) (by decide) (by decide) (by decide) (by decide))
                              obtain rfl := ri_12_14 hfo_1 hfo_798 (hfA12 o0 ko0 14 (by decide) (by decide) (by decide) (by decide) (by decide) (by decide) (by decide) (by decide) (by decide))
                              obtain rfl := ri_12_35 hfo_1 hfo_798 (hfA12 o0 ko0 35 (by decide) (by decide) (by decide) (by decide) (by decide) (by decide) (by decide) (by decide) (by decide))
                              obtain rfl := ri_12_38 hfo_1 hfo_798 (hfA12 o0 ko0 38 (by decide) (by decide) (by decide) (by decide) (by decide) (by decide) (by decide) (by decide) (by decide))
                              obtain rfl := ri_12_25 hfo_790 hfo_798 (hfa_795 o0 ko0 25 (by decide) (by decide) (by decide))
                              obtain rfl := ri_12_27 hfo_790 hfo_798 (hfa_795 o0 ko0 27 (by decide) (by decide) (by decide))
                              obtain rfl := ri_12_29 hfo_790 hfo_798 (hfa_795 o0 ko0 29 (by decide) (by decide) (by decide))
                              obtain rfl := ri_12_32 hfo_790 hfo_798 (hfa_795 o0 ko0 32 (by decide) (by decide) (by decide))
                              obtain rfl := ri_12_33 hfo_790 hfo_798 (hfa_795 o0 ko0 33 (by decide) (by decide) (by decide))
                              obtain rfl := ri_12_53 hfo_790 hfo_798 (hfa_795 o0 ko0 53 (by decide) (by decide) (by decide))
                              refine lv_aload_n hx hb dX12_orders_271 rfl (lv_at hl 3 rfl) ?_
                              refine lv_iload hx hb dX12_orders_272 (lv_at hl 1 rfl) ?_
                              refine tk_putP (D := (dC, dI)) (ci := 12) (v := .int v_748) (ty := .int) (C := RX12) (T := TX12) (N := 56) hx hb hU inlX12 tyX12 tyX12_ok nmX12 hown hK hP hD hS mo0 hfo_798 rfl 43 (by decide) (hU _ wd_572) (fun _ h9 => h9) rfl (by decide +kernel) rfl rfl (Nat.le_of_ble_eq_true rfl) dX12_orders_274 (fun H locs hP hD hS => ?_)
                              obtain ⟨f_856, ef_856⟩ : ∃ y : Nat → va_E, y = va_up f_792 o0 (.inr (12, [.ref a_2, .ref a_3, .ref a_4, .int v_5, .ref a_6, .int v_7, .int v_8, .int v_806, .int v_807, .int v_808, .int v_809, .int v_13, .int v_14, .int v_15, .int v_16, .ref a_17, .ref a_18, .ref a_19, .ref a_20, .ref a_21, .ref a_22, .ref a_23, .ref a_24, .int v_822, .int v_823, .int v_730, .int v_825, .int v_732, .ref a_30, .int v_734, .ref a_32, .ref a_33, .int v_737, .int v_738, .ref a_36, .int v_37, .ref a_38, .ref a_39, .int v_40, .int v_838, .ref a_42, .ref a_43, .ref a_44, .int v_748, .ref a_46, .ref a_47, .ref a_48, .ref a_49, .ref a_50, .ref a_51, .ref a_52, .ref a_53, .ref a_54, .int v_758, .int v_853, .ref a_57])) := ⟨_, rfl⟩
                              have hP : va_P (dC, dI) vwCl (va_pl L f_856) H := by rw [ef_856]; exact hP
                              have hD : va_D (fun q => q ∈ L) (va_pl L f_856) := by rw [ef_856]; exact hD
                              have hG : GI (okc cI cL cZ cR cG cH L kd) kd L f_856 := by rw [ef_856]; exact hG.set o0 (mk_12 ko0 ⟨a_2, a_3, a_4, v_5, a_6, v_7, v_8, v_806, v_807, v_808, v_809, v_13, v_14, v_15, v_16, a_17, a_18, a_19, a_20, a_21, a_22, a_23, a_24, v_822, v_823, v_730, v_825, v_732, a_30, v_734, a_32, a_33, v_737, v_738, a_36, v_37, a_38, a_39, v_40, v_838, a_42, a_43, a_44, v_748, a_46, a_47, a_48, a_49, a_50, a_51, a_52, a_53, a_54, v_758, v_853, a_57, rfl, ⟨ma_2, ka_2⟩, ⟨ma_3, ka_3⟩, ⟨ma_4, ka_4⟩, (by constructor <;> omega), ⟨ma_6, ka_6⟩, (by constructor <;> omega), (by constructor <;> omega), (by constructor <;> omega), (by constructor <;> omega), (by constructor <;> omega), ⟨ma_17, ka_17⟩, ⟨ma_18, ka_18⟩, ⟨ma_19, ka_19⟩, ⟨ma_20, ka_20⟩, ⟨ma_21, ka_21⟩, ⟨ma_22, ka_22⟩, ⟨ma_23, ka_23⟩, ⟨ma_24, ka_24⟩, (by constructor <;> omega), (by constructor <;> omega), (by constructor <;> omega), ⟨ma_30, ka_30⟩, (by constructor <;> omega), ⟨ma_32, ka_32⟩, ⟨ma_33, ka_33⟩, (by constructor <;> omega), ⟨ma_36, ka_36⟩, (by constructor <;> omega), ⟨ma_38, ka_38⟩, ⟨ma_39, ka_39⟩, (by constructor <;> omega), ⟨ma_42, ka_42⟩, ⟨ma_43, ka_43⟩, ⟨ma_44, ka_44⟩, (by constructor <;> omega), ⟨ma_46, ka_46⟩, ⟨ma_47, ka_47⟩, ⟨ma_48, ka_48⟩, ⟨ma_49, ka_49⟩, ⟨ma_50, ka_50⟩, ⟨ma_51, ka_51⟩, ⟨ma_52, ka_52⟩, ⟨ma_53, ka_53⟩, ⟨ma_54, ka_54⟩, (by constructor <;> omega), ⟨ma_57, ka_57⟩⟩)
                              have hfo_857 : f_856 a_2 = .inl (cI, 1560, .inl g_59) := by rw [ef_856, up_ne (kd_ne ko0 ka_2 (by decide))]; exact hfo_797
                              have hfr0 : ∀ b, kd b ≠ 12 → kd b ≠ 579 → kd b ≠ 581 → kd b ≠ 583 → kd b ≠ 585 → kd b ≠ 587 → kd b ≠ 588 → kd b ≠ 589 → kd b ≠ 590 → kd b ≠ 591 → kd b ≠ 592 → kd b ≠ 593 → kd b ≠ 597 → kd b ≠ 598 → kd b ≠ 599 → kd b ≠ 603 → kd b ≠ 604 → kd b ≠ 606 → kd b ≠ 607 → kd b ≠ 608 → kd b ≠ 609 → kd b ≠ 610 → f_856 b = f b := fun b q12 q579 q581 q583 q585 q587 q588 q589 q590 q591 q592 q593 q597 q598 q599 q603 q604 q606 q607 q608 q609 q610 => (congrFun ef_856 b).trans ((up_ne (fun e9 => q12 (by rw [e9]; exact ko0))).trans (hfr0 b q12 q579 q581 q583 q585 q587 q588 q589 q590 q591 q592 q593 q597 q598 q599 q603 q604 q606 q607 q608 q609 q610))
                              have hrA12 : ∀ b, kd b = 12 → ∀ j, fldR (f_856 b) j = fldR (f b) j := fun b kb j => ((congrArg (fun x => fldR x j) (congrFun ef_856 b)).trans (fra_up (fun j => by rw [hfo_798]; exact fr_set (k := 43) rfl rfl j) j b)).trans (hrA12 b kb j)
                              have hfA12 : ∀ b, kd b = 12 → ∀ j, j ≠ 23 → j ≠ 25 → j ≠ 27 → j ≠ 29 → j ≠ 32 → j ≠ 33 → j ≠ 43 → j ≠ 53 → j ≠ 54 → fldI (f_856 b) j = fldI (f b) j := fun b kb j n23 n25 n27 n29 n32 n33 n43 n53 n54 => ((congrArg (fun x => fldI x j) (congrFun ef_856 b)).trans (fia_up (fun h9 => by rw [hfo_798]; exact fi_set (k := 43) rfl h9) n43 b)).trans (hfA12 b kb j n23 n25 n27 n29 n32 n33 n43 n53 n54)
                              have hT0 : srel kd 592 f_856 o0 := by rw [ef_856]; exact hT0.keep (fun b _ => fr_up (by rw [hfo_798]; rfl) b) (fun b _ => fk_up (by rw [hfo_798]; rfl) b) (fun b _ => fk_up (by rw [hfo_798]; rfl) b) (fun b q => up_ne (kd_ne ko0 q (by decide)))
                              have hfo_858 : f_856 o0 = .inr (12, [.ref a_2, .ref a_3, .ref a_4, .int v_5, .ref a_6, .int v_7, .int v_8, .int v_806, .int v_807, .int v_808, .int v_809, .int v_13, .int v_14, .int v_15, .int v_16, .ref a_17, .ref a_18, .ref a_19, .ref a_20, .ref a_21, .ref a_22, .ref a_23, .ref a_24, .int v_822, .int v_823, .int v_730, .int v_825, .int v_732, .ref a_30, .int v_734, .ref a_32, .ref a_33, .int v_737, .int v_738, .ref a_36, .int v_37, .ref a_38, .ref a_39, .int v_40, .int v_838, .ref a_42, .ref a_43, .ref a_44, .int v_748, .ref a_46, .ref a_47, .ref a_48, .ref a_49, .ref a_50, .ref a_51, .ref a_52, .ref a_53, .ref a_54, .int v_758, .int v_853, .ref a_57]) := by rw [ef_856]; exact up_self
                              refine lv_iconst (v := 0) hx hb dX12_orders_277 (by decide) ?_
                              refine lv_istore (lv' := [(5, .int 0), (4, .int v_748), (3, .int x_632), (0, .ref o0), (1, .int p1), (2, .int p2)]) hx hb dX12_orders_278 hl (by decide) rfl (fun ls hl => ?_)
                              have hloop_877 : ∀ (n : Nat), ∀ (y_878 : Int32), (0 ≤ y_878.toInt ∧ y_878.toInt ≤ 16) → ∀ (f_880 : Nat → va_E), GI (okc cI cL cZ cR cG cH L kd) kd L f_880 → ∀ (H : Heap) (locs : List Loc), va_P (dC, dI) vwCl (va_pl L f_880) H → va_S (fun q => q ∈ L) s.heap H locs → va_D (fun q => q ∈ L) (va_pl L f_880) → (∀ b, kd b ≠ 12 → kd b ≠ 579 → kd b ≠ 581 → kd b ≠ 583 → kd b ≠ 585 → kd b ≠ 587 → kd b ≠ 588 → kd b ≠ 589 → kd b ≠ 590 → kd b ≠ 591 → kd b ≠ 592 → kd b ≠ 593 → kd b ≠ 597 → kd b ≠ 598 → kd b ≠ 599 → kd b ≠ 603 → kd b ≠ 604 → kd b ≠ 606 → kd b ≠ 607 → kd b ≠ 608 → kd b ≠ 609 → kd b ≠ 610 → f_880 b = f b) → (∀ b, kd b = 12 → ∀ j, fldR (f_880 b) j = fldR (f b) j) → (∀ b, kd b = 12 → ∀ j, j ≠ 23 → j ≠ 25 → j ≠ 27 → j ≠ 29 → j ≠ 32 → j ≠ 33 → j ≠ 43 → j ≠ 53 → j ≠ 54 → fldI (f_880 b) j = fldI (f b) j) → (f_880 a_2 = .inl (cI, 1560, .inl g_59)) → (f_880 o0 = .inr (12, [.ref a_2, .ref a_3, .ref a_4, .int v_5, .ref a_6, .int v_7, .int v_8, .int v_806, .int v_807, .int v_808, .int v_809, .int v_13, .int v_14, .int v_15, .int v_16, .ref a_17, .ref a_18, .ref a_19, .ref a_20, .ref a_21, .ref a_22, .ref a_23, .ref a_24, .int v_822, .int v_823, .int v_730, .int v_825, .int v_732, .ref a_30, .int v_734, .ref a_32, .ref a_33, .int v_737, .int v_738, .ref a_36, .int v_37, .ref a_38, .ref a_39, .int v_40, .int v_838, .ref a_42, .ref a_43, .ref a_44, .int v_748, .ref a_46, .ref a_47, .ref a_48, .ref a_49, .ref a_50, .ref a_51, .ref a_52, .ref a_53, .ref a_54, .int v_758, .int v_853, .ref a_57])) → srel kd 592 f_880 o0 → 16 - y_878.toInt < (n : Int) → ∀ (ls : Array Slot), lv_has ls 6 [(5, .int y_878), (4, .int v_748), (3, .int x_632), (0, .ref o0), (1, .int p1), (2, .int p2)] → W p l e (headSpec (wU yX12_orders cX12_orders 6 (some .int)) { frames := 24, cells := 0, slots := 0, locals := 676 }).room s m [.ref o0, .int p1, .int p2].toArray below meth c H locs 0 0 (MQ below (va_Qi (fun (r : Int32) (f9 : Nat → va_E) => GI (okc cI cL cZ cR cG cH L kd) kd L f9 ∧ ((-2147483648) ≤ r.toInt ∧ r.toInt ≤ 2147483647) ∧ (∀ b, kd b ≠ 12 → kd b ≠ 579 → kd b ≠ 581 → kd b ≠ 583 → kd b ≠ 585 → kd b ≠ 587 → kd b ≠ 588 → kd b ≠ 589 → kd b ≠ 590 → kd b ≠ 591 → kd b ≠ 592 → kd b ≠ 593 → kd b ≠ 597 → kd b ≠ 598 → kd b ≠ 599 → kd b ≠ 603 → kd b ≠ 604 → kd b ≠ 606 → kd b ≠ 607 → kd b ≠ 608 → kd b ≠ 609 → kd b ≠ 610 → f9 b = f b) ∧ (∀ b, kd b = 12 → ∀ j, fldR (f9 b) j = fldR (f b) j) ∧ (∀ b, kd b = 12 → ∀ j, j ≠ 23 → j ≠ 25 → j ≠ 27 → j ≠ 29 → j ≠ 32 → j ≠ 33 → j ≠ 43 → j ≠ 53 → j ≠ 54 → fldI (f9 b) j = fldI (f b) j) ∧ (∀ (w29 z29 : Int32), fldI (f o0) 29 = some w29 → fldI (f9 o0) 29 = some z29 → z29.toInt = w29.toInt) ∧ (srel kd 592 f9 o0)) (qP (dC, dI) cI cL cZ cR cG cH L) (fun q => q ∈ L)) [.ref o0, .int p1, .int p2].toArray s 0 0 (fun q => q ∈ L)) (F0 m 280 ls []) := by
                                intro n
                                induction n with
                                | zero => intro y_878 by_878 f_880 hG H locs hP hS hD hfr0 hrA12 hfA12 hfo_881 hfo_882 hT0 hmuhloop_877 ls hl; exfalso; omega
                                | succ n ih_hloop_877 =>
                                  intro y_878 by_878 f_880 hG H locs hP hS hD hfr0 hrA12 hfA12 hfo_881 hfo_882 hT0 hmuhloop_877 ls hl
                                  refine lv_iload hx hb dX12_orders_280 (lv_at hl 0 rfl) ?_
                                  refine lv_bipush (v := 16) hx hb dX12_orders_282 (by decide) ?_
                                  refine lv_icmp_ge (tgt := 307) hx hb dX12_orders_284 (by decide) (fun c_883 => ?_) (fun c_883 => ?_)
                                  · skip
                                    rw [Int32.le_iff_toInt_le, ti_16] at c_883
                                    refine lv_iload_n hx hb dX12_orders_307 rfl (lv_at hl 5 rfl) ?_
                                    refine lv_if_ne (tgt := 318) hx hb dX12_orders_308 (by decide) (fun c_884 => ?_) (fun c_884 => ?_)
                                    · skip
                                      rw [← Int32.toInt_inj, ti_0] at c_884
                                      refine lv_aload_n hx hb dX12_orders_318 rfl (lv_at hl 3 rfl) ?_
                                      refine tk_getP (D := (dC, dI)) (ci := 12) (v := .ref a_53) (C := RX12) (T := TX12) (N := 56) hx hb hU inlX12 hown hK hP mo0 hfo_882 rfl 51 (by decide) (hU _ wd_202) (fun _ h9 => h9) rfl dX12_orders_319 ?_
                                      refine lv_iload_n hx hb dX12_orders_322 rfl (lv_at hl 5 rfl) ?_
                                      refine lv_bipush (v := 10) hx hb dX12_orders_323 (by decide) ?_
                                      refine lv_isub hx hb dX12_orders_325 ?_
                                      refine lv_topi (fun x_885 ex_885 => ?_)
                                      have hx_885 : x_885.toInt = p2.toInt - 10 := by rw [ex_885, sb_I (by rw [ti_10]; omega) (by rw [ti_10]; omega), ti_10]
                                      have bx_885 : (0 ≤ x_885.toInt ∧ x_885.toInt ≤ 5) := by constructor <;> omega
                                      have hclc_886 : (0 ≤ x_885.toInt ∧ x_885.toInt ≤ 7) := by constructor <;> omega
                                      obtain ⟨g_888, hfo_887, hbg_888⟩ := un_608 (hG _ ma_53) ka_53
                                      refine tk_ildP hx hb hK hP 0 ma_53 hfo_887 rfl (vp_in_iff.mpr (by constructor <;> omega)) dX12_orders_326 ?_
                                      refine lv_topi (fun x_889 ex_889 => ?_)
                                      have bx_889 : (0 ≤ x_889.toInt ∧ x_889.toInt ≤ 7) := by rw [ex_889]; exact hbg_888 _
                                      exact W.iret (v := x_889) hx hb hr (fun t ht hW => ⟨⟨x_889, f_880, rfl, ⟨hG, (by constructor <;> omega), hfr0, hrA12, hfA12, (by intro w29 z29 e29 d29; rw [hfo_1] at e29; rw [hfo_882] at d29; obtain rfl := Option.some.inj e29; obtain rfl := Option.some.inj d29; omega), hT0⟩, by rw [ht]; exact hP, va_K.moved hW.alike hK, pl_in hD⟩, hS.F ht⟩) hS.2.2 dX12_orders_327
                                    · skip
                                      rw [← Int32.toInt_inj, ti_0] at c_884
                                      exfalso
                                      omega
                                  · skip
                                    rw [Int32.le_iff_toInt_le, ti_16] at c_883
                                    refine lv_aload_n hx hb dX12_orders_287 rfl (lv_at hl 3 rfl) ?_
                                    refine tk_getP (D := (dC, dI)) (ci := 12) (v := .ref a_42) (C := RX12) (T := TX12) (N := 56) hx hb hU inlX12 hown hK hP mo0 hfo_882 rfl 40 (by decide) (hU _ wd_190) (fun _ h9 => h9) rfl dX12_orders_288 ?_
                                    refine lv_iload hx hb dX12_orders_291 (lv_at hl 0 rfl) ?_
                                    refine lv_aload_n hx hb dX12_orders_293 rfl (lv_at hl 3 rfl) ?_
                                    refine tk_getP (D := (dC, dI)) (ci := 12) (v := .ref a_57) (C := RX12) (T := TX12) (N := 56) hx hb hU inlX12 hown hK hP mo0 hfo_882 rfl 55 (by decide) (hU _ wd_204) (fun _ h9 => h9) rfl dX12_orders_294 ?_
                                    refine lv_iload hx hb dX12_orders_297 (lv_at hl 0 rfl) ?_
                                    obtain ⟨g_891, hfo_890, hbg_891⟩ := un_610 (hG _ ma_57) ka_57
                                    refine tk_ildP hx hb hK hP 0 ma_57 hfo_890 rfl (vp_in_iff.mpr (by constructor <;> omega)) dX12_orders_299 ?_
                                    refine lv_topi (fun x_892 ex_892 => ?_)
                                    have bx_892 : (0 ≤ x_892.toInt ∧ x_892.toInt ≤ 8) := by rw [ex_892]; exact hbg_891 _
                                    obtain ⟨g_894, hfo_893, hbg_894⟩ := un_597 (hG _ ma_42) ka_42
                                    refine tk_istP hx hb hK hP hD hS 0 ma_42 hfo_893 rfl (vp_in_iff.mpr (by constructor <;> omega)) dX12_orders_300 (fun H locs hP hD hS => ?_)
                                    obtain ⟨f_896, ef_896⟩ : ∃ y : Nat → va_E, y = va_up f_880 a_42 (.inl (cI, 16, .inl (upd g_894 (Int32.toNatClampNeg y_878) x_892))) := ⟨_, rfl⟩
                                    have hP : va_P (dC, dI) vwCl (va_pl L f_896) H := by rw [ef_896]; exact hP
                                    have hD : va_D (fun q => q ∈ L) (va_pl L f_896) := by rw [ef_896]; exact hD
                                    have hG : GI (okc cI cL cZ cR cG cH L kd) kd L f_896 := by rw [ef_896]; exact hG.set a_42 (mk_597 ka_42 ⟨_, rfl, okI_up hbg_894 (by constructor <;> omega) _⟩)
                                    have hfo_897 : f_896 a_2 = .inl (cI, 1560, .inl g_59) := by rw [ef_896, up_ne (kd_ne ka_42 ka_2 (by decide))]; exact hfo_881
                                    have hfo_898 : f_896 o0 = .inr (12, [.ref a_2, .ref a_3, .ref a_4, .int v_5, .ref a_6, .int v_7, .int v_8, .int v_806, .int v_807, .int v_808, .int v_809, .int v_13, .int v_14, .int v_15, .int v_16, .ref a_17, .ref a_18, .ref a_19, .ref a_20, .ref a_21, .ref a_22, .ref a_23, .ref a_24, .int v_822, .int v_823, .int v_730, .int v_825, .int v_732, .ref a_30, .int v_734, .ref a_32, .ref a_33, .int v_737, .int v_738, .ref a_36, .int v_37, .ref a_38, .ref a_39, .int v_40, .int v_838, .ref a_42, .ref a_43, .ref a_44, .int v_748, .ref a_46, .ref a_47, .ref a_48, .ref a_49, .ref a_50, .ref a_51, .ref a_52, .ref a_53, .ref a_54, .int v_758, .int v_853, .ref a_57]) := by rw [ef_896, up_ne (kd_ne ka_42 ko0 (by decide))]; exact hfo_882
                                    have hfo_899 : f_896 a_57 = .inl (cI, 16, .inl g_891) := by rw [ef_896, up_ne (kd_ne ka_42 ka_57 (by decide))]; exact hfo_890
                                    have hfr0 : ∀ b, kd b ≠ 12 → kd b ≠ 579 → kd b ≠ 581 → kd b ≠ 583 → kd b ≠ 585 → kd b ≠ 587 → kd b ≠ 588 → kd b ≠ 589 → kd b ≠ 590 → kd b ≠ 591 → kd b ≠ 592 → kd b ≠ 593 → kd b ≠ 597 → kd b ≠ 598 → kd b ≠ 599 → kd b ≠ 603 → kd b ≠ 604 → kd b ≠ 606 → kd b ≠ 607 → kd b ≠ 608 → kd b ≠ 609 → kd b ≠ 610 → f_896 b = f b := fun b q12 q579 q581 q583 q585 q587 q588 q589 q590 q591 q592 q593 q597 q598 q599 q603 q604 q606 q607 q608 q609 q610 => (congrFun ef_896 b).trans ((up_ne (fun e9 => q597 (by rw [e9]; exact ka_42))).trans (hfr0 b q12 q579 q581 q583 q585 q587 q588 q589 q590 q591 q592 q593 q597 q598 q599 q603 q604 q606 q607 q608 q609 q610))
                                    have hrA12 : ∀ b, kd b = 12 → ∀ j, fldR (f_896 b) j = fldR (f b) j := fun b kb j => (congrArg (fun x => fldR x j) ((congrFun ef_896 b).trans (up_ne (kd_ne ka_42 kb (by decide))))).trans (hrA12 b kb j)
                                    have hfA12 : ∀ b, kd b = 12 → ∀ j, j ≠ 23 → j ≠ 25 → j ≠ 27 → j ≠ 29 → j ≠ 32 → j ≠ 33 → j ≠ 43 → j ≠ 53 → j ≠ 54 → fldI (f_896 b) j = fldI (f b) j := fun b kb j n23 n25 n27 n29 n32 n33 n43 n53 n54 => (congrArg (fun x => fldI x j) ((congrFun ef_896 b).trans (up_ne (kd_ne ka_42 kb (by decide))))).trans (hfA12 b kb j n23 n25 n27 n29 n32 n33 n43 n53 n54)
                                    have hT0 : srel kd 592 f_896 o0 := by rw [ef_896]; exact hT0.keep (fun b q => congrArg (fun x => fldR x 30) (up_ne (kd_ne ka_42 q (by decide)))) (fun b q => congrArg (fun x => fldI x 32) (up_ne (kd_ne ka_42 q (by decide)))) (fun b q => congrArg (fun x => fldI x 33) (up_ne (kd_ne ka_42 q (by decide)))) (fun b q => up_ne (kd_ne ka_42 q (by decide)))
                                    have hfo_900 : f_896 a_42 = .inl (cI, 16, .inl (upd g_894 (Int32.toNatClampNeg y_878) x_892)) := by rw [ef_896]; exact up_self
                                    obtain ⟨x_901, ex_901⟩ : ∃ y : Int32, y_878 + 1 = y := ⟨_, rfl⟩
                                    have hx_901 : x_901.toInt = y_878.toInt + 1 := by rw [← ex_901, ad_I (by rw [ti_1]; omega) (by rw [ti_1]; omega), ti_1]
                                    have bx_901 : (1 ≤ x_901.toInt ∧ x_901.toInt ≤ 16) := by constructor <;> omega
                                    refine lv_iinc (v := x_901) (lv' := [(5, .int x_901), (4, .int v_748), (3, .int x_632), (0, .ref o0), (1, .int p1), (2, .int p2)]) hx hb dX12_orders_301 hl (k := 0) rfl ex_901 (by decide) rfl (fun ls hl => ?_)
                                    refine lv_goto (tgt := 280) hx hb dX12_orders_304 (by decide) ?_
                                    exact ih_hloop_877 x_901 (by constructor <;> omega) f_896 hG _ _ hP hS hD hfr0 hrA12 hfA12 hfo_897 hfo_898 hT0 (by omega) ls (lv_sub hl [0, 1, 2, 3, 4, 5] rfl)
                              exact hloop_877 17 0 (by decide) f_856 hG _ _ hP hS hD hfr0 hrA12 hfA12 hfo_857 hfo_858 hT0 (by (try rw [ti_0]) <;> omega) ls hl
                            · skip
                              rw [Int32.le_iff_toInt_le, ti_16] at c_786
                              refine lv_aload_n hx hb dX12_orders_240 rfl (lv_at hl 3 rfl) ?_
                              refine tk_getP (D := (dC, dI)) (ci := 12) (v := .ref a_57) (C := RX12) (T := TX12) (N := 56) hx hb hU inlX12 hown hK hP mo0 hfo_785 rfl 55 (by decide) (hU _ wd_204) (fun _ h9 => h9) rfl dX12_orders_241 ?_
                              refine lv_iload hx hb dX12_orders_244 (lv_at hl 0 rfl) ?_
                              refine lv_aload_n hx hb dX12_orders_246 rfl (lv_at hl 3 rfl) ?_
                              refine tk_getP (D := (dC, dI)) (ci := 12) (v := .ref a_42) (C := RX12) (T := TX12) (N := 56) hx hb hU inlX12 hown hK hP mo0 hfo_785 rfl 40 (by decide) (hU _ wd_190) (fun _ h9 => h9) rfl dX12_orders_247 ?_
                              refine lv_iload hx hb dX12_orders_250 (lv_at hl 0 rfl) ?_
                              obtain ⟨g_903, hfo_902, hbg_903⟩ := un_597 (hG _ ma_42) ka_42
                              refine tk_ildP hx hb hK hP 0 ma_42 hfo_902 rfl (vp_in_iff.mpr (by constructor <;> omega)) dX12_orders_252 ?_
                              refine lv_topi (fun x_904 ex_904 => ?_)
                              have bx_904 : (0 ≤ x_904.toInt ∧ x_904.toInt ≤ 8) := by rw [ex_904]; exact hbg_903 _
                              obtain ⟨g_906, hfo_905, hbg_906⟩ := un_610 (hG _ ma_57) ka_57
                              refine tk_istP hx hb hK hP hD hS 0 ma_57 hfo_905 rfl (vp_in_iff.mpr (by constructor <;> omega)) dX12_orders_253 (fun H locs hP hD hS => ?_)
                              obtain ⟨f_908, ef_908⟩ : ∃ y : Nat → va_E, y = va_up f_783 a_57 (.inl (cI, 16, .inl (upd g_906 (Int32.toNatClampNeg y_781) x_904))) := ⟨_, rfl⟩
                              have hP : va_P (dC, dI) vwCl (va_pl L f_908) H := by rw [ef_908]; exact hP
                              have hD : va_D (fun q => q ∈ L) (va_pl L f_908) := by rw [ef_908]; exact hD
                              have hG : GI (okc cI cL cZ cR cG cH L kd) kd L f_908 := by rw [ef_908]; exact hG.set a_57 (mk_610 ka_57 ⟨_, rfl, okI_up hbg_906 (by constructor <;> omega) _⟩)
                              have hfo_909 : f_908 a_2 = .inl (cI, 1560, .inl g_59) := by rw [ef_908, up_ne (kd_ne ka_57 ka_2 (by decide))]; exact hfo_784
                              have hfo_910 : f_908 o0 = .inr (12, [.ref a_2, .ref a_3, .ref a_4, .int v_5, .ref a_6, .int v_7, .int v_8, .int v_712, .int v_713, .int v_714, .int v_715, .int v_13, .int v_14, .int v_15, .int v_16, .ref a_17, .ref a_18, .ref a_19, .ref a_20, .ref a_21, .ref a_22, .ref a_23, .ref a_24, .int v_728, .int v_729, .int v_730, .int v_731, .int v_732, .ref a_30, .int v_734, .ref a_32, .ref a_33, .int v_737, .int v_738, .ref a_36, .int v_37, .ref a_38, .ref a_39, .int v_40, .int v_744, .ref a_42, .ref a_43, .ref a_44, .int v_748, .ref a_46, .ref a_47, .ref a_48, .ref a_49, .ref a_50, .ref a_51, .ref a_52, .ref a_53, .ref a_54, .int v_758, .int v_759, .ref a_57]) := by rw [ef_908, up_ne (kd_ne ka_57 ko0 (by decide))]; exact hfo_785
                              have hfo_911 : f_908 a_42 = .inl (cI, 16, .inl g_903) := by rw [ef_908, up_ne (kd_ne ka_57 ka_42 (by decide))]; exact hfo_902
                              have hfr0 : ∀ b, kd b ≠ 12 → kd b ≠ 579 → kd b ≠ 581 → kd b ≠ 583 → kd b ≠ 585 → kd b ≠ 587 → kd b ≠ 588 → kd b ≠ 589 → kd b ≠ 590 → kd b ≠ 591 → kd b ≠ 592 → kd b ≠ 593 → kd b ≠ 597 → kd b ≠ 598 → kd b ≠ 599 → kd b ≠ 603 → kd b ≠ 604 → kd b ≠ 606 → kd b ≠ 607 → kd b ≠ 608 → kd b ≠ 609 → kd b ≠ 610 → f_908 b = f b := fun b q12 q579 q581 q583 q585 q587 q588 q589 q590 q591 q592 q593 q597 q598 q599 q603 q604 q606 q607 q608 q609 q610 => (congrFun ef_908 b).trans ((up_ne (fun e9 => q610 (by rw [e9]; exact ka_57))).trans (hfr0 b q12 q579 q581 q583 q585 q587 q588 q589 q590 q591 q592 q593 q597 q598 q599 q603 q604 q606 q607 q608 q609 q610))
                              have hrA12 : ∀ b, kd b = 12 → ∀ j, fldR (f_908 b) j = fldR (f b) j := fun b kb j => (congrArg (fun x => fldR x j) ((congrFun ef_908 b).trans (up_ne (kd_ne ka_57 kb (by decide))))).trans (hrA12 b kb j)
                              have hfA12 : ∀ b, kd b = 12 → ∀ j, j ≠ 23 → j ≠ 25 → j ≠ 27 → j ≠ 29 → j ≠ 32 → j ≠ 33 → j ≠ 43 → j ≠ 53 → j ≠ 54 → fldI (f_908 b) j = fldI (f b) j := fun b kb j n23 n25 n27 n29 n32 n33 n43 n53 n54 => (congrArg (fun x => fldI x j) ((congrFun ef_908 b).trans (up_ne (kd_ne ka_57 kb (by decide))))).trans (hfA12 b kb j n23 n25 n27 n29 n32 n33 n43 n53 n54)
                              have hT0 : srel kd 592 f_908 o0 := by rw [ef_908]; exact hT0.keep (fun b q => congrArg (fun x => fldR x 30) (up_ne (kd_ne ka_57 q (by decide)))) (fun b q => congrArg (fun x => fldI x 32) (up_ne (kd_ne ka_57 q (by decide)))) (fun b q => congrArg (fun x => fldI x 33) (up_ne (kd_ne ka_57 q (by decide)))) (fun b q => up_ne (kd_ne ka_57 q (by decide)))
                              have hfo_912 : f_908 a_57 = .inl (cI, 16, .inl (upd g_906 (Int32.toNatClampNeg y_781) x_904)) := by rw [ef_908]; exact up_self
                              obtain ⟨x_913, ex_913⟩ : ∃ y : Int32, y_781 + 1 = y := ⟨_, rfl⟩
                              have hx_913 : x_913.toInt = y_781.toInt + 1 := by rw [← ex_913, ad_I (by rw [ti_1]; omega) (by rw [ti_1]; omega), ti_1]
                              have bx_913 : (1 ≤ x_913.toInt ∧ x_913.toInt ≤ 16) := by constructor <;> omega
                              refine lv_iinc (v := x_913) (lv' := [(5, .int x_913), (4, .int v_748), (3, .int x_632), (0, .ref o0), (1, .int p1), (2, .int p2)]) hx hb dX12_orders_254 hl (k := 0) rfl ex_913 (by decide) rfl (fun ls hl => ?_)
                              refine lv_goto (tgt := 233) hx hb dX12_orders_257 (by decide) ?_
                              exact ih_hloop_780 x_913 (by constructor <;> omega) f_908 hG _ _ hP hS hD hfr0 hrA12 hfA12 hfo_909 hfo_910 hT0 (by omega) ls (lv_sub hl [0, 1, 2, 3, 4, 5] rfl)
                        exact hloop_780 17 0 (by decide) f_702 hG _ _ hP hS hD hfr0 hrA12 hfA12 hfo_703 hfo_704 hT0 (by (try rw [ti_0]) <;> omega) ls hl
                      · skip
                        rw [Int32.le_iff_toInt_le] at c_761
                        refine lv_iconst (v := 0) hx hb dX12_orders_128 (by decide) ?_
                        refine lv_istore (lv' := [(5, .int 0), (4, .int y_700), (3, .int x_632), (0, .ref o0), (1, .int p1), (2, .int p2)]) hx hb dX12_orders_129 hl (by decide) rfl (fun ls hl => ?_)
                        have hloop_932 : ∀ (n : Nat), ∀ (y_933 : Int32), (0 ≤ y_933.toInt ∧ y_933.toInt ≤ 90) → ∀ (f_935 : Nat → va_E), GI (okc cI cL cZ cR cG cH L kd) kd L f_935 → ∀ (H : Heap) (locs : List Loc), va_P (dC, dI) vwCl (va_pl L f_935) H → va_S (fun q => q ∈ L) s.heap H locs → va_D (fun q => q ∈ L) (va_pl L f_935) → (∀ b, kd b ≠ 12 → kd b ≠ 579 → kd b ≠ 581 → kd b ≠ 583 → kd b ≠ 585 → kd b ≠ 587 → kd b ≠ 588 → kd b ≠ 589 → kd b ≠ 590 → kd b ≠ 591 → kd b ≠ 592 → kd b ≠ 593 → kd b ≠ 597 → kd b ≠ 598 → kd b ≠ 599 → kd b ≠ 603 → kd b ≠ 604 → kd b ≠ 606 → kd b ≠ 607 → kd b ≠ 608 → kd b ≠ 609 → kd b ≠ 610 → f_935 b = f b) → (∀ b, kd b = 12 → ∀ j, fldR (f_935 b) j = fldR (f b) j) → (∀ b, kd b = 12 → ∀ j, j ≠ 23 → j ≠ 25 → j ≠ 27 → j ≠ 29 → j ≠ 32 → j ≠ 33 → j ≠ 43 → j ≠ 53 → j ≠ 54 → fldI (f_935 b) j = fldI (f b) j) → (f_935 a_2 = .inl (cI, 1560, .inl g_59)) → (f_935 o0 = .inr (12, [.ref a_2, .ref a_3, .ref a_4, .int v_5, .ref a_6, .int v_7, .int v_8, .int v_712, .int v_713, .int v_714, .int v_715, .int v_13, .int v_14, .int v_15, .int v_16, .ref a_17, .ref a_18, .ref a_19, .ref a_20, .ref a_21, .ref a_22, .ref a_23, .ref a_24, .int v_728, .int v_729, .int v_730, .int v_731, .int v_732, .ref a_30, .int v_734, .ref a_32, .ref a_33, .int v_737, .int v_738, .ref a_36, .int v_37, .ref a_38, .ref a_39, .int v_40, .int v_744, .ref a_42, .ref a_43, .ref a_44, .int v_748, .ref a_46, .ref a_47, .ref a_48, .ref a_49, .ref a_50, .ref a_51, .ref a_52, .ref a_53, .ref a_54, .int v_758, .int v_759, .ref a_57])) → srel kd 592 f_935 o0 → 90 - y_933.toInt < (n : Int) → ∀ (ls : Array Slot), lv_has ls 6 [(5, .int y_933), (4, .int y_700), (3, .int x_632), (0, .ref o0), (1, .int p1), (2, .int p2)] → W p l e (headSpec (wU yX12_orders cX12_orders 6 (some .int)) { frames := 24, cells := 0, slots := 0, locals := 676 }).room s m [.ref o0, .int p1, .int p2].toArray below meth c H locs 0 0 (MQ below (va_Qi (fun (r : Int32) (f9 : Nat → va_E) => GI (okc cI cL cZ cR cG cH L kd) kd L f9 ∧ ((-2147483648) ≤ r.toInt ∧ r.toInt ≤ 2147483647) ∧ (∀ b, kd b ≠ 12 → kd b ≠ 579 → kd b ≠ 581 → kd b ≠ 583 → kd b ≠ 585 → kd b ≠ 587 → kd b ≠ 588 → kd b ≠ 589 → kd b ≠ 590 → kd b ≠ 591 → kd b ≠ 592 → kd b ≠ 593 → kd b ≠ 597 → kd b ≠ 598 → kd b ≠ 599 → kd b ≠ 603 → kd b ≠ 604 → kd b ≠ 606 → kd b ≠ 607 → kd b ≠ 608 → kd b ≠ 609 → kd b ≠ 610 → f9 b = f b) ∧ (∀ b, kd b = 12 → ∀ j, fldR (f9 b) j = fldR (f b) j) ∧ (∀ b, kd b = 12 → ∀ j, j ≠ 23 → j ≠ 25 → j ≠ 27 → j ≠ 29 → j ≠ 32 → j ≠ 33 → j ≠ 43 → j ≠ 53 → j ≠ 54 → fldI (f9 b) j = fldI (f b) j) ∧ (∀ (w29 z29 : Int32), fldI (f o0) 29 = some w29 → fldI (f9 o0) 29 = some z29 → z29.toInt = w29.toInt) ∧ (srel kd 592 f9 o0)) (qP (dC, dI) cI cL cZ cR cG cH L) (fun q => q ∈ L)) [.ref o0, .int p1, .int p2].toArray s 0 0 (fun q => q ∈ L)) (F0 m 131 ls []) := by
                          intro n
                          induction n with
                          | zero => intro y_933 by_933 f_935 hG H locs hP hS hD hfr0 hrA12 hfA12 hfo_936 hfo_937 hT0 hmuhloop_932 ls hl; exfalso; omega
                          | succ n ih_hloop_932 =>
                            intro y_933 by_933 f_935 hG H locs hP hS hD hfr0 hrA12 hfA12 hfo_936 hfo_937 hT0 hmuhloop_932 ls hl
                            refine lv_iload hx hb dX12_orders_131 (lv_at hl 0 rfl) ?_
                            refine lv_bipush (v := 90) hx hb dX12_orders_133 (by decide) ?_
                            refine lv_icmp_ge (tgt := 155) hx hb dX12_orders_135 (by decide) (fun c_938 => ?_) (fun c_938 => ?_)
                            · skip
                              rw [Int32.le_iff_toInt_le, ti_90] at c_938
                              refine lv_aload_n hx hb dX12_orders_155 rfl (lv_at hl 3 rfl) ?_
                              refine lv_iload hx hb dX12_orders_156 (lv_at hl 1 rfl) ?_
                              refine tk_VvP (As := [.int y_700]) (rest := []) (n := 1) hx hb hml hown hU hN hZ (s_X12_laysWord_k12 l (dC, dI) cI cL cZ cR cG cH Z kd L f_935 hG o0 mo0 ko0 y_700 (by constructor <;> omega) (fun b9 g9 h1 h2 => by rw [hfo_937] at h1; obtain rfl := Option.some.inj h1; rw [hfo_936] at h2; cases h2; omega)) wd_1173 wd_1174 wd_1175 wd_5 wd_1176 (by decide +kernel) ⟨Nat.le_of_ble_eq_true rfl, Nat.le_of_ble_eq_true rfl⟩ hK hP hD hS mo0 hfo_937 12 rfl rfl rfl hl.1 rfl (Nat.le_of_ble_eq_true rfl) dX12_orders_158 ⟨Nat.le_of_ble_eq_true rfl, Nat.le_of_ble_eq_true rfl⟩ (fun f_940 H locs hw hP hD hS => ?_)
                              obtain ⟨hG, hkc_941, hra_942, hfa_943, hpost_944, hxp_945⟩ := hw
                              have hfo_947 : f_940 a_2 = .inl (cI, 1560, .inl g_59) := by rw [hkc_941 a_2 (by rw [ka_2]; decide) (by rw [ka_2]; decide)]; exact hfo_936
                              have hfr0 : ∀ b, kd b ≠ 12 → kd b ≠ 579 → kd b ≠ 581 → kd b ≠ 583 → kd b ≠ 585 → kd b ≠ 587 → kd b ≠ 588 → kd b ≠ 589 → kd b ≠ 590 → kd b ≠ 591 → kd b ≠ 592 → kd b ≠ 593 → kd b ≠ 597 → kd b ≠ 598 → kd b ≠ 599 → kd b ≠ 603 → kd b ≠ 604 → kd b ≠ 606 → kd b ≠ 607 → kd b ≠ 608 → kd b ≠ 609 → kd b ≠ 610 → f_940 b = f b := fun b q12 q579 q581 q583 q585 q587 q588 q589 q590 q591 q592 q593 q597 q598 q599 q603 q604 q606 q607 q608 q609 q610 => (hkc_941 b q12 q589).trans (hfr0 b q12 q579 q581 q583 q585 q587 q588 q589 q590 q591 q592 q593 q597 q598 q599 q603 q604 q606 q607 q608 q609 q610)
                              have hrA12 : ∀ b, kd b = 12 → ∀ j, fldR (f_940 b) j = fldR (f b) j := fun b kb j => (hra_942 b kb j).trans (hrA12 b kb j)
                              have hfA12 : ∀ b, kd b = 12 → ∀ j, j ≠ 23 → j ≠ 25 → j ≠ 27 → j ≠ 29 → j ≠ 32 → j ≠ 33 → j ≠ 43 → j ≠ 53 → j ≠ 54 → fldI (f_940 b) j = fldI (f b) j := fun b kb j n23 n25 n27 n29 n32 n33 n43 n53 n54 => (hfa_943 b kb j n23).trans (hfA12 b kb j n23 n25 n27 n29 n32 n33 n43 n53 n54)
                              have hT0 : srel kd 592 f_940 o0 := hT0.keep (fun b q => hra_942 b q 30) (fun b q => hfa_943 b q 32 (by decide)) (fun b q => hfa_943 b q 33 (by decide)) (fun b q => hkc_941 b (by rw [q]; decide) (by rw [q]; decide))
                              obtain ⟨a_949, a_950, a_951, v_952, a_953, v_954, v_955, v_956, v_957, v_958, v_959, v_960, v_961, v_962, v_963, a_964, a_965, a_966, a_967, a_968, a_969, a_970, a_971, v_972, v_973, v_974, v_975, v_976, a_977, v_978, a_979, a_980, v_981, v_982, a_983, v_984, a_985, a_986, v_987, v_988, a_989, a_990, a_991, v_992, a_993, a_994, a_995, a_996, a_997, a_998, a_999, a_1000, a_1001, v_1002, v_1003, a_1004, hfo_948, ⟨ma_949, ka_949⟩, ⟨ma_950, ka_950⟩, ⟨ma_951, ka_951⟩, bv_952, ⟨ma_953, ka_953⟩, bv_954, bv_955, bv_960, bv_961, bv_962, ⟨ma_964, ka_964⟩, ⟨ma_965, ka_965⟩, ⟨ma_966, ka_966⟩, ⟨ma_967, ka_967⟩, ⟨ma_968, ka_968⟩, ⟨ma_969, ka_969⟩, ⟨ma_970, ka_970⟩, ⟨ma_971, ka_971⟩, bv_972, bv_974, bv_976, ⟨ma_977, ka_977⟩, bv_978, ⟨ma_979, ka_979⟩, ⟨ma_980, ka_980⟩, bv_981, ⟨ma_983, ka_983⟩, bv_984, ⟨ma_985, ka_985⟩, ⟨ma_986, ka_986⟩, bv_987, ⟨ma_989, ka_989⟩, ⟨ma_990, ka_990⟩, ⟨ma_991, ka_991⟩, bv_992, ⟨ma_993, ka_993⟩, ⟨ma_994, ka_994⟩, ⟨ma_995, ka_995⟩, ⟨ma_996, ka_996⟩, ⟨ma_997, ka_997⟩, ⟨ma_998, ka_998⟩, ⟨ma_999, ka_999⟩, ⟨ma_1000, ka_1000⟩, ⟨ma_1001, ka_1001⟩, bv_1002, ⟨ma_1004, ka_1004⟩⟩ := un_12 (hG _ mo0) ko0
                              have bv_956 : ((-2147483648) ≤ v_956.toInt ∧ v_956.toInt ≤ 2147483647) := ⟨i32_lo _, i32_hi _⟩
                              have bv_957 : ((-2147483648) ≤ v_957.toInt ∧ v_957.toInt ≤ 2147483647) := ⟨i32_lo _, i32_hi _⟩
                              have bv_958 : ((-2147483648) ≤ v_958.toInt ∧ v_958.toInt ≤ 2147483647) := ⟨i32_lo _, i32_hi _⟩
                              have bv_959 : ((-2147483648) ≤ v_959.toInt ∧ v_959.toInt ≤ 2147483647) := ⟨i32_lo _, i32_hi _⟩
                              have bv_963 : ((-2147483648) ≤ v_963.toInt ∧ v_963.toInt ≤ 2147483647) := ⟨i32_lo _, i32_hi _⟩
                              have bv_973 : ((-2147483648) ≤ v_973.toInt ∧ v_973.toInt ≤ 2147483647) := ⟨i32_lo _, i32_hi _⟩
                              have bv_975 : ((-2147483648) ≤ v_975.toInt ∧ v_975.toInt ≤ 2147483647) := ⟨i32_lo _, i32_hi _⟩
                              have bv_982 : ((-2147483648) ≤ v_982.toInt ∧ v_982.toInt ≤ 2147483647) := ⟨i32_lo _, i32_hi _⟩
                              have bv_988 : ((-2147483648) ≤ v_988.toInt ∧ v_988.toInt ≤ 2147483647) := ⟨i32_lo _, i32_hi _⟩
                              have bv_1003 : ((-2147483648) ≤ v_1003.toInt ∧ v_1003.toInt ≤ 2147483647) := ⟨i32_lo _, i32_hi _⟩
                              obtain ⟨rfl, rfl, rfl, rfl, rfl, rfl, rfl, rfl, rfl, rfl, rfl, rfl, rfl, rfl, rfl, rfl, rfl, rfl, rfl, rfl, rfl, rfl, rfl, rfl, rfl, rfl, rfl, rfl, rfl, rfl, rfl⟩ := re_12 hfo_1 hfo_948 (hrA12 o0 ko0)
                              obtain rfl := ri_12_3 hfo_1 hfo_948 (hfA12 o0 ko0 3 (by decide) (by decide) (by decide) (by decide) (by decide) (by decide) (by decide) (by decide) (by decide))
                              obtain rfl := ri_12_5 hfo_1 hfo_948 (hfA12 o0 ko0 5 (by decide) (by decide) (by decide) (by decide) (by decide) (by decide) (by decide) (by decide) (by decide))
                              obtain rfl := ri_12_6 hfo_1 hfo_948 (hfA12 o0 ko0 6 (by decide) (by decide) (by decide) (by decide) (by decide) (by decide) (by decide) (by decide) (by decide))
                              obtain rfl := ri_12_11 hfo_1 hfo_948 (hfA12 o0 ko0 11 (by decide) (by decide) (by decide) (by decide) (by decide) (by decide) (by decide) (by decide) (by decide))
                              obtain rfl := ri_12_12 hfo_1 hfo_948 (hfA12 o0 ko0 12 (by decide) (by decide) (by decide) (by decide) (by decide) (by decide) (by decide) (by decide) (by decide))
                              obtain rfl := ri_12_13 hfo_1 hfo_948 (hfA12 o0 ko0 13 (by decide) (by decide) (by decide) (by decide) (by decide) (by decide) (by decide) (by decide) (by decide))
                              obtain rfl := ri_12_14 hfo_1 hfo_948 (hfA12 o0 ko0 14 (by decide) (by decide) (by decide) (by decide) (by decide) (by decide) (by decide) (by decide) (by decide))
                              obtain rfl := ri_12_35 hfo_1 hfo_948 (hfA12 o0 ko0 35 (by decide) (by decide) (by decide) (by decide) (by decide) (by decide) (by decide) (by decide) (by decide))
                              obtain rfl := ri_12_38 hfo_1 hfo_948 (hfA12 o0 ko0 38 (by decide) (by decide) (by decide) (by decide) (by decide) (by decide) (by decide) (by decide) (by decide))
                              obtain rfl := ri_12_25 hfo_937 hfo_948 (hfa_943 o0 ko0 25 (by decide))
                              obtain rfl := ri_12_27 hfo_937 hfo_948 (hfa_943 o0 ko0 27 (by decide))
                              obtain rfl := ri_12_29 hfo_937 hfo_948 (hfa_943 o0 ko0 29 (by decide))
                              obtain rfl := ri_12_32 hfo_937 hfo_948 (hfa_943 o0 ko0 32 (by decide))
                              obtain rfl := ri_12_33 hfo_937 hfo_948 (hfa_943 o0 ko0 33 (by decide))
                              obtain rfl := ri_12_43 hfo_937 hfo_948 (hfa_943 o0 ko0 43 (by decide))
                              obtain rfl := ri_12_53 hfo_937 hfo_948 (hfa_943 o0 ko0 53 (by decide))
                              have hqhpost_944 := hpost_944 v_728 v_972 (by rw [hfo_937]; rfl) (by rw [hfo_948]; rfl)
                              have hlw2 := hxp_945 a_2 g_59 v_972 (by rw [hfo_937]; rfl) hfo_936 (by rw [hfo_948]; rfl)
                              refine lv_aload_n hx hb dX12_orders_161 rfl (lv_at hl 3 rfl) ?_
                              refine lv_aload_n hx hb dX12_orders_162 rfl (lv_at hl 3 rfl) ?_
                              refine tk_getP (D := (dC, dI)) (ci := 12) (v := .ref a_2) (C := RX12) (T := TX12) (N := 56) hx hb hU inlX12 hown hK hP mo0 hfo_948 rfl 0 (by decide) (hU _ wd_169) (fun _ h9 => h9) rfl dX12_orders_163 ?_
                              refine lv_bipush (v := 40) hx hb dX12_orders_166 (by decide) ?_
                              refine tk_ildP hx hb hK hP 0 ma_2 hfo_947 rfl (vp_in_nI (n := 40) (by decide) (by decide)) dX12_orders_168 ?_
                              refine lv_topi (fun x_1005 ex_1005 => ?_)
                              have bx_1005 : (0 ≤ x_1005.toInt ∧ x_1005.toInt ≤ 255) := by rw [ex_1005]; exact hbg_59.2.2.2.2.2.2.1 _ (by decide) (by decide) (by decide)
                              refine tk_VvP (As := [.int x_1005]) (rest := []) (n := 1) hx hb hml hown hU hN hZ (s_X12_marksAll_k12 l (dC, dI) cI cL cZ cR cG cH Z kd L f_940 hG o0 mo0 ko0 x_1005 (by intro w23 w29 e23 e29; rw [hfo_948] at e23 e29; obtain rfl := Option.some.inj e23; obtain rfl := Option.some.inj e29; omega) hT0) wd_1243 wd_1244 wd_1245 wd_5 wd_1246 (by decide +kernel) ⟨Nat.le_of_ble_eq_true rfl, Nat.le_of_ble_eq_true rfl⟩ hK hP hD hS mo0 hfo_948 12 rfl rfl rfl hl.1 rfl (Nat.le_of_ble_eq_true rfl) dX12_orders_169 ⟨Nat.le_of_ble_eq_true rfl, Nat.le_of_ble_eq_true rfl⟩ (fun f_1007 H locs hw hP hD hS => ?_)
                              obtain ⟨hG, hkc_1008, hra_1009, hfa_1010, hpost_1011, hTc_1012⟩ := hw
                              have hfo_1014 : f_1007 a_2 = .inl (cI, 1560, .inl g_59) := by rw [hkc_1008 a_2 (by rw [ka_2]; decide) (by rw [ka_2]; decide) (by rw [ka_2]; decide) (by rw [ka_2]; decide) (by rw [ka_2]; decide) (by rw [ka_2]; decide) (by rw [ka_2]; decide) (by rw [ka_2]; decide) (by rw [ka_2]; decide) (by rw [ka_2]; decide) (by rw [ka_2]; decide) (by rw [ka_2]; decide)]; exact hfo_947
                              have hfr0 : ∀ b, kd b ≠ 12 → kd b ≠ 579 → kd b ≠ 581 → kd b ≠ 583 → kd b ≠ 585 → kd b ≠ 587 → kd b ≠ 588 → kd b ≠ 589 → kd b ≠ 590 → kd b ≠ 591 → kd b ≠ 592 → kd b ≠ 593 → kd b ≠ 597 → kd b ≠ 598 → kd b ≠ 599 → kd b ≠ 603 → kd b ≠ 604 → kd b ≠ 606 → kd b ≠ 607 → kd b ≠ 608 → kd b ≠ 609 → kd b ≠ 610 → f_1007 b = f b := fun b q12 q579 q581 q583 q585 q587 q588 q589 q590 q591 q592 q593 q597 q598 q599 q603 q604 q606 q607 q608 q609 q610 => (hkc_1008 b q12 q579 q581 q583 q585 q587 q588 q590 q591 q592 q593 q603).trans (hfr0 b q12 q579 q581 q583 q585 q587 q588 q589 q590 q591 q592 q593 q597 q598 q599 q603 q604 q606 q607 q608 q609 q610)
                              have hrA12 : ∀ b, kd b = 12 → ∀ j, fldR (f_1007 b) j = fldR (f b) j := fun b kb j => (hra_1009 b kb j).trans (hrA12 b kb j)
                              have hfA12 : ∀ b, kd b = 12 → ∀ j, j ≠ 23 → j ≠ 25 → j ≠ 27 → j ≠ 29 → j ≠ 32 → j ≠ 33 → j ≠ 43 → j ≠ 53 → j ≠ 54 → fldI (f_1007 b) j = fldI (f b) j := fun b kb j n23 n25 n27 n29 n32 n33 n43 n53 n54 => (hfa_1010 b kb j n25 n27 n29 n32 n33).trans (hfA12 b kb j n23 n25 n27 n29 n32 n33 n43 n53 n54)
                              obtain ⟨a_1016, a_1017, a_1018, v_1019, a_1020, v_1021, v_1022, v_1023, v_1024, v_1025, v_1026, v_1027, v_1028, v_1029, v_1030, a_1031, a_1032, a_1033, a_1034, a_1035, a_1036, a_1037, a_1038, v_1039, v_1040, v_1041, v_1042, v_1043, a_1044, v_1045, a_1046, a_1047, v_1048, v_1049, a_1050, v_1051, a_1052, a_1053, v_1054, v_1055, a_1056, a_1057, a_1058, v_1059, a_1060, a_1061, a_1062, a_1063, a_1064, a_1065, a_1066, a_1067, a_1068, v_1069, v_1070, a_1071, hfo_1015, ⟨ma_1016, ka_1016⟩, ⟨ma_1017, ka_1017⟩, ⟨ma_1018, ka_1018⟩, bv_1019, ⟨ma_1020, ka_1020⟩, bv_1021, bv_1022, bv_1027, bv_1028, bv_1029, ⟨ma_1031, ka_1031⟩, ⟨ma_1032, ka_1032⟩, ⟨ma_1033, ka_1033⟩, ⟨ma_1034, ka_1034⟩, ⟨ma_1035, ka_1035⟩, ⟨ma_1036, ka_1036⟩, ⟨ma_1037, ka_1037⟩, ⟨ma_1038, ka_1038⟩, bv_1039, bv_1041, bv_1043, ⟨ma_1044, ka_1044⟩, bv_1045, ⟨ma_1046, ka_1046⟩, ⟨ma_1047, ka_1047⟩, bv_1048, ⟨ma_1050, ka_1050⟩, bv_1051, ⟨ma_1052, ka_1052⟩, ⟨ma_1053, ka_1053⟩, bv_1054, ⟨ma_1056, ka_1056⟩, ⟨ma_1057, ka_1057⟩, ⟨ma_1058, ka_1058⟩, bv_1059, ⟨ma_1060, ka_1060⟩, ⟨ma_1061, ka_1061⟩, ⟨ma_1062, ka_1062⟩, ⟨ma_1063, ka_1063⟩, ⟨ma_1064, ka_1064⟩, ⟨ma_1065, ka_1065⟩, ⟨ma_1066, ka_1066⟩, ⟨ma_1067, ka_1067⟩, ⟨ma_1068, ka_1068⟩, bv_1069, ⟨ma_1071, ka_1071⟩⟩ := un_12 (hG _ mo0) ko0
                              have bv_1023 : ((-2147483648) ≤ v_1023.toInt ∧ v_1023.toInt ≤ 2147483647) := ⟨i32_lo _, i32_hi _⟩
                              have bv_1024 : ((-2147483648) ≤ v_1024.toInt ∧ v_1024.toInt ≤ 2147483647) := ⟨i32_lo _, i32_hi _⟩
                              have bv_1025 : ((-2147483648) ≤ v_1025.toInt ∧ v_1025.toInt ≤ 2147483647) := ⟨i32_lo _, i32_hi _⟩
                              have bv_1026 : ((-2147483648) ≤ v_1026.toInt ∧ v_1026.toInt ≤ 2147483647) := ⟨i32_lo _, i32_hi _⟩
                              have bv_1030 : ((-2147483648) ≤ v_1030.toInt ∧ v_1030.toInt ≤ 2147483647) := ⟨i32_lo _, i32_hi _⟩
                              have bv_1040 : ((-2147483648) ≤ v_1040.toInt ∧ v_1040.toInt ≤ 2147483647) := ⟨i32_lo _, i32_hi _⟩
                              have bv_1042 : ((-2147483648) ≤ v_1042.toInt ∧ v_1042.toInt ≤ 2147483647) := ⟨i32_lo _, i32_hi _⟩
                              have bv_1049 : ((-2147483648) ≤ v_1049.toInt ∧ v_1049.toInt ≤ 2147483647) := ⟨i32_lo _, i32_hi _⟩
                              have bv_1055 : ((-2147483648) ≤ v_1055.toInt ∧ v_1055.toInt ≤ 2147483647) := ⟨i32_lo _, i32_hi _⟩
                              have bv_1070 : ((-2147483648) ≤ v_1070.toInt ∧ v_1070.toInt ≤ 2147483647) := ⟨i32_lo _, i32_hi _⟩
                              obtain ⟨rfl, rfl, rfl, rfl, rfl, rfl, rfl, rfl, rfl, rfl, rfl, rfl, rfl, rfl, rfl, rfl, rfl, rfl, rfl, rfl, rfl, rfl, rfl, rfl, rfl, rfl, rfl, rfl, rfl, rfl, rfl⟩ := re_12 hfo_1 hfo_1015 (hrA12 o0 ko0)
                              obtain rfl := ri_12_3 hfo_1 hfo_1015 (hfA12 o0 ko0 3 (by decide) (by decide) (by decide) (by decide) (by decide) (by decide) (by decide) (by decide) (by decide))
                              obtain rfl := ri_12_5 hfo_1 hfo_1015 (hfA12 o0 ko0 5 (by decide) (by decide) (by decide) (by decide) (by decide) (by decide) (by decide) (by decide) (by decide))
                              obtain rfl := ri_12_6 hfo_1 hfo_1015 (hfA12 o0 ko0 6 (by decide) (by decide) (by decide) (by decide) (by decide) (by decide) (by decide) (by decide) (by decide))
                              obtain rfl := ri_12_11 hfo_1 hfo_1015 (hfA12 o0 ko0 11 (by decide) (by decide) (by decide) (by decide) (by decide) (by decide) (by decide) (by decide) (by decide))
                              obtain rfl := ri_12_12 hfo_1 hfo_1015 (hfA12 o0 ko0 12 (by decide) (by decide) (by decide) (by decide) (by decide) (by decide) (by decide) (by decide) (by decide))
                              obtain rfl := ri_12_13 hfo_1 hfo_1015 (hfA12 o0 ko0 13 (by decide) (by decide) (by decide) (by decide) (by decide) (by decide) (by decide) (by decide) (by decide))
                              obtain rfl := ri_12_14 hfo_1 hfo_1015 (hfA12 o0 ko0 14 (by decide) (by decide) (by decide) (by decide) (by decide) (by decide) (by decide) (by decide) (by decide))
                              obtain rfl := ri_12_35 hfo_1 hfo_1015 (hfA12 o0 ko0 35 (by decide) (by decide) (by decide) (by decide) (by decide) (by decide) (by decide) (by decide) (by decide))
                              obtain rfl := ri_12_38 hfo_1 hfo_1015 (hfA12 o0 ko0 38 (by decide) (by decide) (by decide) (by decide) (by decide) (by decide) (by decide) (by decide) (by decide))
                              obtain rfl := ri_12_23 hfo_948 hfo_1015 (hfa_1010 o0 ko0 23 (by decide) (by decide) (by decide) (by decide) (by decide))
                              obtain rfl := ri_12_43 hfo_948 hfo_1015 (hfa_1010 o0 ko0 43 (by decide) (by decide) (by decide) (by decide) (by decide))
                              obtain rfl := ri_12_53 hfo_948 hfo_1015 (hfa_1010 o0 ko0 53 (by decide) (by decide) (by decide) (by decide) (by decide))
                              have hqhpost_1011 := hpost_1011 v_734 v_1045 (by rw [hfo_948]; rfl) (by rw [hfo_1015]; rfl)
                              refine lv_iconst (v := 0) hx hb dX12_orders_172 (by decide) ?_
                              refine lv_istore (lv' := [(5, .int 0), (4, .int y_700), (3, .int x_632), (0, .ref o0), (1, .int p1), (2, .int p2)]) hx hb dX12_orders_173 hl (by decide) rfl (fun ls hl => ?_)
                              have hloop_1078 : ∀ (n : Nat), ∀ (y_1079 : Int32), (0 ≤ y_1079.toInt ∧ y_1079.toInt ≤ 6561) → ∀ (f_1081 : Nat → va_E), GI (okc cI cL cZ cR cG cH L kd) kd L f_1081 → ∀ (H : Heap) (locs : List Loc), va_P (dC, dI) vwCl (va_pl L f_1081) H → va_S (fun q => q ∈ L) s.heap H locs → va_D (fun q => q ∈ L) (va_pl L f_1081) → (∀ b, kd b ≠ 12 → kd b ≠ 579 → kd b ≠ 581 → kd b ≠ 583 → kd b ≠ 585 → kd b ≠ 587 → kd b ≠ 588 → kd b ≠ 589 → kd b ≠ 590 → kd b ≠ 591 → kd b ≠ 592 → kd b ≠ 593 → kd b ≠ 597 → kd b ≠ 598 → kd b ≠ 599 → kd b ≠ 603 → kd b ≠ 604 → kd b ≠ 606 → kd b ≠ 607 → kd b ≠ 608 → kd b ≠ 609 → kd b ≠ 610 → f_1081 b = f b) → (∀ b, kd b = 12 → ∀ j, fldR (f_1081 b) j = fldR (f b) j) → (∀ b, kd b = 12 → ∀ j, j ≠ 23 → j ≠ 25 → j ≠ 27 → j ≠ 29 → j ≠ 32 → j ≠ 33 → j ≠ 43 → j ≠ 53 → j ≠ 54 → fldI (f_1081 b) j = fldI (f b) j) → (f_1081 a_2 = .inl (cI, 1560, .inl g_59)) → (f_1081 o0 = .inr (12, [.ref a_2, .ref a_3, .ref a_4, .int v_5, .ref a_6, .int v_7, .int v_8, .int v_1023, .int v_1024, .int v_1025, .int v_1026, .int v_13, .int v_14, .int v_15, .int v_16, .ref a_17, .ref a_18, .ref a_19, .ref a_20, .ref a_21, .ref a_22, .ref a_23, .ref a_24, .int v_972, .int v_1040, .int v_1041, .int v_1042, .int v_1043, .ref a_30, .int v_1045, .ref a_32, .ref a_33, .int v_1048, .int v_1049, .ref a_36, .int v_37, .ref a_38, .ref a_39, .int v_40, .int v_1055, .ref a_42, .ref a_43, .ref a_44, .int v_748, .ref a_46, .ref a_47, .ref a_48, .ref a_49, .ref a_50, .ref a_51, .ref a_52, .ref a_53, .ref a_54, .int v_758, .int v_1070, .ref a_57])) → srel kd 592 f_1081 o0 → 6561 - y_1079.toInt < (n : Int) → ∀ (ls : Array Slot), lv_has ls 6 [(5, .int y_1079), (4, .int y_700), (3, .int x_632), (0, .ref o0), (1, .int p1), (2, .int p2)] → W p l e (headSpec (wU yX12_orders cX12_orders 6 (some .int)) { frames := 24, cells := 0, slots := 0, locals := 676 }).room s m [.ref o0, .int p1, .int p2].toArray below meth c H locs 0 0 (MQ below (va_Qi (fun (r : Int32) (f9 : Nat → va_E) => GI (okc cI cL cZ cR cG cH L kd) kd L f9 ∧ ((-2147483648) ≤ r.toInt ∧ r.toInt ≤ 2147483647) ∧ (∀ b, kd b ≠ 12 → kd b ≠ 579 → kd b ≠ 581 → kd b ≠ 583 → kd b ≠ 585 → kd b ≠ 587 → kd b ≠ 588 → kd b ≠ 589 → kd b ≠ 590 → kd b ≠ 591 → kd b ≠ 592 → kd b ≠ 593 → kd b ≠ 597 → kd b ≠ 598 → kd b ≠ 599 → kd b ≠ 603 → kd b ≠ 604 → kd b ≠ 606 → kd b ≠ 607 → kd b ≠ 608 → kd b ≠ 609 → kd b ≠ 610 → f9 b = f b) ∧ (∀ b, kd b = 12 → ∀ j, fldR (f9 b) j = fldR (f b) j) ∧ (∀ b, kd b = 12 → ∀ j, j ≠ 23 → j ≠ 25 → j ≠ 27 → j ≠ 29 → j ≠ 32 → j ≠ 33 → j ≠ 43 → j ≠ 53 → j ≠ 54 → fldI (f9 b) j = fldI (f b) j) ∧ (∀ (w29 z29 : Int32), fldI (f o0) 29 = some w29 → fldI (f9 o0) 29 = some z29 → z29.toInt = w29.toInt) ∧ (srel kd 592 f9 o0)) (qP (dC, dI) cI cL cZ cR cG cH L) (fun q => q ∈ L)) [.ref o0, .int p1, .int p2].toArray s 0 0 (fun q => q ∈ L)) (F0 m 175 ls []) := by
                                intro n
                                induction n with
                                | zero => intro y_1079 by_1079 f_1081 hG H locs hP hS hD hfr0 hrA12 hfA12 hfo_1082 hfo_1083 hTc_1012 hmuhloop_1078 ls hl; exfalso; omega
                                | succ n ih_hloop_1078 =>
                                  intro y_1079 by_1079 f_1081 hG H locs hP hS hD hfr0 hrA12 hfA12 hfo_1082 hfo_1083 hTc_1012 hmuhloop_1078 ls hl
                                  refine lv_iload hx hb dX12_orders_175 (lv_at hl 0 rfl) ?_
                                  refine lv_aload_n hx hb dX12_orders_177 rfl (lv_at hl 3 rfl) ?_
                                  refine tk_getP (D := (dC, dI)) (ci := 12) (v := .int v_1048) (C := RX12) (T := TX12) (N := 56) hx hb hU inlX12 hown hK hP mo0 hfo_1083 rfl 32 (by decide) (hU _ wd_921) (fun _ h9 => h9) rfl dX12_orders_178 ?_
                                  refine lv_icmp_ge (tgt := 218) hx hb dX12_orders_181 (by decide) (fun c_1084 => ?_) (fun c_1084 => ?_)
                                  · skip
                                    rw [Int32.le_iff_toInt_le] at c_1084
                                    obtain ⟨x_1085, ex_1085⟩ : ∃ y : Int32, y_700 + 1 = y := ⟨_, rfl⟩
                                    have hx_1085 : x_1085.toInt = y_700.toInt + 1 := by rw [← ex_1085, ad_I (by rw [ti_1]; omega) (by rw [ti_1]; omega), ti_1]
                                    have bx_1085 : (1 ≤ x_1085.toInt ∧ x_1085.toInt ≤ 72) := by constructor <;> omega
                                    refine lv_iinc (v := x_1085) (lv' := [(4, .int x_1085), (5, .int y_1079), (3, .int x_632), (0, .ref o0), (1, .int p1), (2, .int p2)]) hx hb dX12_orders_218 hl (k := 1) rfl ex_1085 (by decide) rfl (fun ls hl => ?_)
                                    refine lv_goto (tgt := 122) hx hb dX12_orders_221 (by decide) ?_
                                    exact ih_hloop_699 x_1085 (by constructor <;> omega) f_1081 hG _ _ hP hS hD hfr0 hrA12 hfA12 hfo_1082 hTc_1012 v_1045 (by rw [hfo_1083]; rfl) (by omega) (by omega) (by omega) ls (lv_sub hl [0, 2, 3, 4, 5] rfl)
                                  · skip
                                    rw [Int32.le_iff_toInt_le] at c_1084
                                    refine lv_aload_n hx hb dX12_orders_184 rfl (lv_at hl 3 rfl) ?_
                                    refine tk_getP (D := (dC, dI)) (ci := 12) (v := .ref a_33) (C := RX12) (T := TX12) (N := 56) hx hb hU inlX12 hown hK hP mo0 hfo_1083 rfl 31 (by decide) (hU _ wd_185) (fun _ h9 => h9) rfl dX12_orders_185 ?_
                                    refine lv_iload hx hb dX12_orders_188 (lv_at hl 0 rfl) ?_
                                    obtain ⟨g_1087, hfo_1086, hbg_1087⟩ := un_593 (hG _ ma_33) ka_33
                                    refine tk_ildP hx hb hK hP 0 ma_33 hfo_1086 rfl (vp_in_iff.mpr (by constructor <;> omega)) dX12_orders_190 ?_
                                    refine lv_topi (fun x_1088 ex_1088 => ?_)
                                    have bx_1088 : (0 ≤ x_1088.toInt ∧ x_1088.toInt ≤ 6560) := by rw [ex_1088]; exact hbg_1087 _
                                    refine lv_bipush (v := 90) hx hb dX12_orders_191 (by decide) ?_
                                    have hcut_1094 : ∀ (f_1090 : Nat → va_E), GI (okc cI cL cZ cR cG cH L kd) kd L f_1090 → ∀ (H : Heap) (locs : List Loc), va_P (dC, dI) vwCl (va_pl L f_1090) H → va_S (fun q => q ∈ L) s.heap H locs → va_D (fun q => q ∈ L) (va_pl L f_1090) → (∀ b, kd b ≠ 12 → kd b ≠ 579 → kd b ≠ 581 → kd b ≠ 583 → kd b ≠ 585 → kd b ≠ 587 → kd b ≠ 588 → kd b ≠ 589 → kd b ≠ 590 → kd b ≠ 591 → kd b ≠ 592 → kd b ≠ 593 → kd b ≠ 597 → kd b ≠ 598 → kd b ≠ 599 → kd b ≠ 603 → kd b ≠ 604 → kd b ≠ 606 → kd b ≠ 607 → kd b ≠ 608 → kd b ≠ 609 → kd b ≠ 610 → f_1090 b = f b) → (∀ b, kd b = 12 → ∀ j, fldR (f_1090 b) j = fldR (f b) j) → (∀ b, kd b = 12 → ∀ j, j ≠ 23 → j ≠ 25 → j ≠ 27 → j ≠ 29 → j ≠ 32 → j ≠ 33 → j ≠ 43 → j ≠ 53 → j ≠ 54 → fldI (f_1090 b) j = fldI (f b) j) → (f_1090 a_2 = .inl (cI, 1560, .inl g_59)) → (f_1090 o0 = .inr (12, [.ref a_2, .ref a_3, .ref a_4, .int v_5, .ref a_6, .int v_7, .int v_8, .int v_1023, .int v_1024, .int v_1025, .int v_1026, .int v_13, .int v_14, .int v_15, .int v_16, .ref a_17, .ref a_18, .ref a_19, .ref a_20, .ref a_21, .ref a_22, .ref a_23, .ref a_24, .int v_972, .int v_1040, .int v_1041, .int v_1042, .int v_1043, .ref a_30, .int v_1045, .ref a_32, .ref a_33, .int v_1048, .int v_1049, .ref a_36, .int v_37, .ref a_38, .ref a_39, .int v_40, .int v_1055, .ref a_42, .ref a_43, .ref a_44, .int v_748, .ref a_46, .ref a_47, .ref a_48, .ref a_49, .ref a_50, .ref a_51, .ref a_52, .ref a_53, .ref a_54, .int v_758, .int v_1070, .ref a_57])) → (f_1090 a_33 = .inl (cI, 6561, .inl g_1087)) → srel kd 592 f_1090 o0 → ∀ (ls : Array Slot), lv_has ls 6 [(5, .int y_1079), (4, .int y_700), (3, .int x_632), (0, .ref o0), (1, .int p1), (2, .int p2)] → W p l e (headSpec (wU yX12_orders cX12_orders 6 (some .int)) { frames := 24, cells := 0, slots := 0, locals := 676 }).room s m [.ref o0, .int p1, .int p2].toArray below meth c H locs 0 0 (MQ below (va_Qi (fun (r : Int32) (f9 : Nat → va_E) => GI (okc cI cL cZ cR cG cH L kd) kd L f9 ∧ ((-2147483648) ≤ r.toInt ∧ r.toInt ≤ 2147483647) ∧ (∀ b, kd b ≠ 12 → kd b ≠ 579 → kd b ≠ 581 → kd b ≠ 583 → kd b ≠ 585 → kd b ≠ 587 → kd b ≠ 588 → kd b ≠ 589 → kd b ≠ 590 → kd b ≠ 591 → kd b ≠ 592 → kd b ≠ 593 → kd b ≠ 597 → kd b ≠ 598 → kd b ≠ 599 → kd b ≠ 603 → kd b ≠ 604 → kd b ≠ 606 → kd b ≠ 607 → kd b ≠ 608 → kd b ≠ 609 → kd b ≠ 610 → f9 b = f b) ∧ (∀ b, kd b = 12 → ∀ j, fldR (f9 b) j = fldR (f b) j) ∧ (∀ b, kd b = 12 → ∀ j, j ≠ 23 → j ≠ 25 → j ≠ 27 → j ≠ 29 → j ≠ 32 → j ≠ 33 → j ≠ 43 → j ≠ 53 → j ≠ 54 → fldI (f9 b) j = fldI (f b) j) ∧ (∀ (w29 z29 : Int32), fldI (f o0) 29 = some w29 → fldI (f9 o0) 29 = some z29 → z29.toInt = w29.toInt) ∧ (srel kd 592 f9 o0)) (qP (dC, dI) cI cL cZ cR cG cH L) (fun q => q ∈ L)) [.ref o0, .int p1, .int p2].toArray s 0 0 (fun q => q ∈ L)) (F0 m 212 ls []) := by
                                      intro f_1090 hG H locs hP hS hD hfr0 hrA12 hfA12 hfo_1091 hfo_1092 hfo_1093 hTc_1012 ls hl
                                      obtain ⟨x_1095, ex_1095⟩ : ∃ y : Int32, y_1079 + 1 = y := ⟨_, rfl⟩
                                      have hx_1095 : x_1095.toInt = y_1079.toInt + 1 := by rw [← ex_1095, ad_I (by rw [ti_1]; omega) (by rw [ti_1]; omega), ti_1]
                                      have bx_1095 : (1 ≤ x_1095.toInt ∧ x_1095.toInt ≤ 6561) := by constructor <;> omega
                                      refine lv_iinc (v := x_1095) (lv' := [(5, .int x_1095), (4, .int y_700), (3, .int x_632), (0, .ref o0), (1, .int p1), (2, .int p2)]) hx hb dX12_orders_212 hl (k := 0) rfl ex_1095 (by decide) rfl (fun ls hl => ?_)
                                      refine lv_goto (tgt := 175) hx hb dX12_orders_215 (by decide) ?_
                                      exact ih_hloop_1078 x_1095 (by constructor <;> omega) f_1090 hG _ _ hP hS hD hfr0 hrA12 hfA12 hfo_1091 hfo_1092 hTc_1012 (by omega) ls (lv_sub hl [0, 1, 2, 3, 4, 5] rfl)
                                    refine lv_icmp_ge (tgt := 212) hx hb dX12_orders_193 (by decide) (fun c_1096 => ?_) (fun c_1096 => ?_)
                                    · skip
                                      rw [Int32.le_iff_toInt_le, ti_90] at c_1096
                                      exact hcut_1094 f_1081 hG _ _ hP hS hD hfr0 hrA12 hfA12 hfo_1082 hfo_1083 hfo_1086 hTc_1012 ls (lv_sub hl [0, 1, 2, 3, 4, 5] rfl)
                                    · skip
                                      rw [Int32.le_iff_toInt_le, ti_90] at c_1096
                                      refine lv_aload_n hx hb dX12_orders_196 rfl (lv_at hl 3 rfl) ?_
                                      refine tk_getP (D := (dC, dI)) (ci := 12) (v := .ref a_50) (C := RX12) (T := TX12) (N := 56) hx hb hU inlX12 hown hK hP mo0 hfo_1083 rfl 48 (by decide) (hU _ wd_199) (fun _ h9 => h9) rfl dX12_orders_197 ?_
                                      refine lv_iload hx hb dX12_orders_200 (lv_at hl 1 rfl) ?_
                                      obtain ⟨g_1098, hfo_1097, hbg_1098⟩ := un_605 (hG _ ma_50) ka_50
                                      obtain ⟨a_1099, hga_1099, ma_1099, ka_1099⟩ := hbg_1098 (Int32.toNatClampNeg y_700) (in_lt (vp_in_iff.mpr (by constructor <;> omega)))
                                      refine tk_aldA hx hb hK hP 5 ma_50 hfo_1097 rfl (vp_in_iff.mpr (by constructor <;> omega)) hga_1099 dX12_orders_202 ?_
                                      refine lv_aload_n hx hb dX12_orders_203 rfl (lv_at hl 3 rfl) ?_
                                      refine tk_getP (D := (dC, dI)) (ci := 12) (v := .ref a_33) (C := RX12) (T := TX12) (N := 56) hx hb hU inlX12 hown hK hP mo0 hfo_1083 rfl 31 (by decide) (hU _ wd_185) (fun _ h9 => h9) rfl dX12_orders_204 ?_
                                      refine lv_iload hx hb dX12_orders_207 (lv_at hl 0 rfl) ?_
                                      refine tk_ildP hx hb hK hP 0 ma_33 hfo_1086 rfl (vp_in_iff.mpr (by constructor <;> omega)) dX12_orders_209 ?_
                                      refine tk_topi (y := x_1088) ex_1088.symm ?_
                                      refine lv_iconst (v := 1) hx hb dX12_orders_210 (by decide) ?_
                                      obtain ⟨g_1101, hfo_1100, hbg_1101⟩ := un_604 (hG _ ma_1099) ka_1099
                                      refine tk_zstP hx hb hK hP hD hS 2 ma_1099 hfo_1100 rfl (vp_in_iff.mpr (by constructor <;> omega)) (bt_n (by decide)) dX12_orders_211 (fun H locs hP hD hS => ?_)
                                      obtain ⟨f_1103, ef_1103⟩ : ∃ y : Nat → va_E, y = va_up f_1081 a_1099 (.inl (cZ, 90, .inl (upd g_1101 (Int32.toNatClampNeg x_1088) 1))) := ⟨_, rfl⟩
                                      have hP : va_P (dC, dI) vwCl (va_pl L f_1103) H := by rw [ef_1103]; exact hP
                                      have hD : va_D (fun q => q ∈ L) (va_pl L f_1103) := by rw [ef_1103]; exact hD
                                      have hG : GI (okc cI cL cZ cR cG cH L kd) kd L f_1103 := by rw [ef_1103]; exact hG.set a_1099 (mk_604 ka_1099 ⟨_, rfl, okI_up hbg_1101 (by decide) _⟩)
                                      have hfo_1104 : f_1103 a_2 = .inl (cI, 1560, .inl g_59) := by rw [ef_1103, up_ne (kd_ne ka_1099 ka_2 (by decide))]; exact hfo_1082
                                      have hfo_1105 : f_1103 o0 = .inr (12, [.ref a_2, .ref a_3, .ref a_4, .int v_5, .ref a_6, .int v_7, .int v_8, .int v_1023, .int v_1024, .int v_1025, .int v_1026, .int v_13, .int v_14, .int v_15, .int v_16, .ref a_17, .ref a_18, .ref a_19, .ref a_20, .ref a_21, .ref a_22, .ref a_23, .ref a_24, .int v_972, .int v_1040, .int v_1041, .int v_1042, .int v_1043, .ref a_30, .int v_1045, .ref a_32, .ref a_33, .int v_1048, .int v_1049, .ref a_36, .int v_37, .ref a_38, .ref a_39, .int v_40, .int v_1055, .ref a_42, .ref a_43, .ref a_44, .int v_748, .ref a_46, .ref a_47, .ref a_48, .ref a_49, .ref a_50, .ref a_51, .ref a_52, .ref a_53, .ref a_54, .int v_758, .int v_1070, .ref a_57]) := by rw [ef_1103, up_ne (kd_ne ka_1099 ko0 (by decide))]; exact hfo_1083
                                      have hfo_1106 : f_1103 a_33 = .inl (cI, 6561, .inl g_1087) := by rw [ef_1103, up_ne (kd_ne ka_1099 ka_33 (by decide))]; exact hfo_1086
                                      have hfo_1107 : f_1103 a_50 = .inl (cH, 72, .inr (.inr (.inr (.inr g_1098)))) := by rw [ef_1103, up_ne (kd_ne ka_1099 ka_50 (by decide))]; exact hfo_1097
                                      have hfr0 : ∀ b, kd b ≠ 12 → kd b ≠ 579 → kd b ≠ 581 → kd b ≠ 583 → kd b ≠ 585 → kd b ≠ 587 → kd b ≠ 588 → kd b ≠ 589 → kd b ≠ 590 → kd b ≠ 591 → kd b ≠ 592 → kd b ≠ 593 → kd b ≠ 597 → kd b ≠ 598 → kd b ≠ 599 → kd b ≠ 603 → kd b ≠ 604 → kd b ≠ 606 → kd b ≠ 607 → kd b ≠ 608 → kd b ≠ 609 → kd b ≠ 610 → f_1103 b = f b := fun b q12 q579 q581 q583 q585 q587 q588 q589 q590 q591 q592 q593 q597 q598 q599 q603 q604 q606 q607 q608 q609 q610 => (congrFun ef_1103 b).trans ((up_ne (fun e9 => q604 (by rw [e9]; exact ka_1099))).trans (hfr0 b q12 q579 q581 q583 q585 q587 q588 q589 q590 q591 q592 q593 q597 q598 q599 q603 q604 q606 q607 q608 q609 q610))
                                      have hrA12 : ∀ b, kd b = 12 → ∀ j, fldR (f_1103 b) j = fldR (f b) j := fun b kb j => (congrArg (fun x => fldR x j) ((congrFun ef_1103 b).trans (up_ne (kd_ne ka_1099 kb (by decide))))).trans (hrA12 b kb j)
                                      have hfA12 : ∀ b, kd b = 12 → ∀ j, j ≠ 23 → j ≠ 25 → j ≠ 27 → j ≠ 29 → j ≠ 32 → j ≠ 33 → j ≠ 43 → j ≠ 53 → j ≠ 54 → fldI (f_1103 b) j = fldI (f b) j := fun b kb j n23 n25 n27 n29 n32 n33 n43 n53 n54 => (congrArg (fun x => fldI x j) ((congrFun ef_1103 b).trans (up_ne (kd_ne ka_1099 kb (by decide))))).trans (hfA12 b kb j n23 n25 n27 n29 n32 n33 n43 n53 n54)
                                      have hTc_1012 : srel kd 592 f_1103 o0 := by rw [ef_1103]; exact hTc_1012.keep (fun b q => congrArg (fun x => fldR x 30) (up_ne (kd_ne ka_1099 q (by decide)))) (fun b q => congrArg (fun x => fldI x 32) (up_ne (kd_ne ka_1099 q (by decide)))) (fun b q => congrArg (fun x => fldI x 33) (up_ne (kd_ne ka_1099 q (by decide)))) (fun b q => up_ne (kd_ne ka_1099 q (by decide)))
                                      have hfo_1108 : f_1103 a_1099 = .inl (cZ, 90, .inl (upd g_1101 (Int32.toNatClampNeg x_1088) 1)) := by rw [ef_1103]; exact up_self
                                      exact hcut_1094 f_1103 hG _ _ hP hS hD hfr0 hrA12 hfA12 hfo_1104 hfo_1105 hfo_1106 hTc_1012 ls (lv_sub hl [0, 1, 2, 3, 4, 5] rfl)
                              exact hloop_1078 6562 0 (by decide) f_1007 hG _ _ hP hS hD hfr0 hrA12 hfA12 hfo_1014 hfo_1015 hTc_1012 (by (try rw [ti_0]) <;> omega) ls hl
                            · skip
                              rw [Int32.le_iff_toInt_le, ti_90] at c_938
                              refine lv_aload_n hx hb dX12_orders_138 rfl (lv_at hl 3 rfl) ?_
                              refine tk_getP (D := (dC, dI)) (ci := 12) (v := .ref a_50) (C := RX12) (T := TX12) (N := 56) hx hb hU inlX12 hown hK hP mo0 hfo_937 rfl 48 (by decide) (hU _ wd_199) (fun _ h9 => h9) rfl dX12_orders_139 ?_
                              refine lv_iload hx hb dX12_orders_142 (lv_at hl 1 rfl) ?_
                              obtain ⟨g_1110, hfo_1109, hbg_1110⟩ := un_605 (hG _ ma_50) ka_50
                              obtain ⟨a_1111, hga_1111, ma_1111, ka_1111⟩ := hbg_1110 (Int32.toNatClampNeg y_700) (in_lt (vp_in_iff.mpr (by constructor <;> omega)))
                              refine tk_aldA hx hb hK hP 5 ma_50 hfo_1109 rfl (vp_in_iff.mpr (by constructor <;> omega)) hga_1111 dX12_orders_144 ?_
                              refine lv_iload hx hb dX12_orders_145 (lv_at hl 0 rfl) ?_
                              refine lv_iconst (v := 0) hx hb dX12_orders_147 (by decide) ?_
                              obtain ⟨g_1113, hfo_1112, hbg_1113⟩ := un_604 (hG _ ma_1111) ka_1111
                              refine tk_zstP hx hb hK hP hD hS 2 ma_1111 hfo_1112 rfl (vp_in_iff.mpr (by constructor <;> omega)) (bt_n (by decide)) dX12_orders_148 (fun H locs hP hD hS => ?_)
                              obtain ⟨f_1115, ef_1115⟩ : ∃ y : Nat → va_E, y = va_up f_935 a_1111 (.inl (cZ, 90, .inl (upd g_1113 (Int32.toNatClampNeg y_933) 0))) := ⟨_, rfl⟩
                              have hP : va_P (dC, dI) vwCl (va_pl L f_1115) H := by rw [ef_1115]; exact hP
                              have hD : va_D (fun q => q ∈ L) (va_pl L f_1115) := by rw [ef_1115]; exact hD
                              have hG : GI (okc cI cL cZ cR cG cH L kd) kd L f_1115 := by rw [ef_1115]; exact hG.set a_1111 (mk_604 ka_1111 ⟨_, rfl, okI_up hbg_1113 (by decide) _⟩)
                              have hfo_1116 : f_1115 a_2 = .inl (cI, 1560, .inl g_59) := by rw [ef_1115, up_ne (kd_ne ka_1111 ka_2 (by decide))]; exact hfo_936
                              have hfo_1117 : f_1115 o0 = .inr (12, [.ref a_2, .ref a_3, .ref a_4, .int v_5, .ref a_6, .int v_7, .int v_8, .int v_712, .int v_713, .int v_714, .int v_715, .int v_13, .int v_14, .int v_15, .int v_16, .ref a_17, .ref a_18, .ref a_19, .ref a_20, .ref a_21, .ref a_22, .ref a_23, .ref a_24, .int v_728, .int v_729, .int v_730, .int v_731, .int v_732, .ref a_30, .int v_734, .ref a_32, .ref a_33, .int v_737, .int v_738, .ref a_36, .int v_37, .ref a_38, .ref a_39, .int v_40, .int v_744, .ref a_42, .ref a_43, .ref a_44, .int v_748, .ref a_46, .ref a_47, .ref a_48, .ref a_49, .ref a_50, .ref a_51, .ref a_52, .ref a_53, .ref a_54, .int v_758, .int v_759, .ref a_57]) := by rw [ef_1115, up_ne (kd_ne ka_1111 ko0 (by decide))]; exact hfo_937
                              have hfo_1118 : f_1115 a_50 = .inl (cH, 72, .inr (.inr (.inr (.inr g_1110)))) := by rw [ef_1115, up_ne (kd_ne ka_1111 ka_50 (by decide))]; exact hfo_1109
                              have hfr0 : ∀ b, kd b ≠ 12 → kd b ≠ 579 → kd b ≠ 581 → kd b ≠ 583 → kd b ≠ 585 → kd b ≠ 587 → kd b ≠ 588 → kd b ≠ 589 → kd b ≠ 590 → kd b ≠ 591 → kd b ≠ 592 → kd b ≠ 593 → kd b ≠ 597 → kd b ≠ 598 → kd b ≠ 599 → kd b ≠ 603 → kd b ≠ 604 → kd b ≠ 606 → kd b ≠ 607 → kd b ≠ 608 → kd b ≠ 609 → kd b ≠ 610 → f_1115 b = f b := fun b q12 q579 q581 q583 q585 q587 q588 q589 q590 q591 q592 q593 q597 q598 q599 q603 q604 q606 q607 q608 q609 q610 => (congrFun ef_1115 b).trans ((up_ne (fun e9 => q604 (by rw [e9]; exact ka_1111))).trans (hfr0 b q12 q579 q581 q583 q585 q587 q588 q589 q590 q591 q592 q593 q597 q598 q599 q603 q604 q606 q607 q608 q609 q610))
                              have hrA12 : ∀ b, kd b = 12 → ∀ j, fldR (f_1115 b) j = fldR (f b) j := fun b kb j => (congrArg (fun x => fldR x j) ((congrFun ef_1115 b).trans (up_ne (kd_ne ka_1111 kb (by decide))))).trans (hrA12 b kb j)
                              have hfA12 : ∀ b, kd b = 12 → ∀ j, j ≠ 23 → j ≠ 25 → j ≠ 27 → j ≠ 29 → j ≠ 32 → j ≠ 33 → j ≠ 43 → j ≠ 53 → j ≠ 54 → fldI (f_1115 b) j = fldI (f b) j := fun b kb j n23 n25 n27 n29 n32 n33 n43 n53 n54 => (congrArg (fun x => fldI x j) ((congrFun ef_1115 b).trans (up_ne (kd_ne ka_1111 kb (by decide))))).trans (hfA12 b kb j n23 n25 n27 n29 n32 n33 n43 n53 n54)
                              have hT0 : srel kd 592 f_1115 o0 := by rw [ef_1115]; exact hT0.keep (fun b q => congrArg (fun x => fldR x 30) (up_ne (kd_ne ka_1111 q (by decide)))) (fun b q => congrArg (fun x => fldI x 32) (up_ne (kd_ne ka_1111 q (by decide)))) (fun b q => congrArg (fun x => fldI x 33) (up_ne (kd_ne ka_1111 q (by decide)))) (fun b q => up_ne (kd_ne ka_1111 q (by decide)))
                              have hfo_1119 : f_1115 a_1111 = .inl (cZ, 90, .inl (upd g_1113 (Int32.toNatClampNeg y_933) 0)) := by rw [ef_1115]; exact up_self
                              obtain ⟨x_1120, ex_1120⟩ : ∃ y : Int32, y_933 + 1 = y := ⟨_, rfl⟩
                              have hx_1120 : x_1120.toInt = y_933.toInt + 1 := by rw [← ex_1120, ad_I (by rw [ti_1]; omega) (by rw [ti_1]; omega), ti_1]
                              have bx_1120 : (1 ≤ x_1120.toInt ∧ x_1120.toInt ≤ 90) := by constructor <;> omega
                              refine lv_iinc (v := x_1120) (lv' := [(5, .int x_1120), (4, .int y_700), (3, .int x_632), (0, .ref o0), (1, .int p1), (2, .int p2)]) hx hb dX12_orders_149 hl (k := 0) rfl ex_1120 (by decide) rfl (fun ls hl => ?_)
                              refine lv_goto (tgt := 131) hx hb dX12_orders_152 (by decide) ?_
                              exact ih_hloop_932 x_1120 (by constructor <;> omega) f_1115 hG _ _ hP hS hD hfr0 hrA12 hfA12 hfo_1116 hfo_1117 hT0 (by omega) ls (lv_sub hl [0, 1, 2, 3, 4, 5] rfl)
                        exact hloop_932 91 0 (by decide) f_702 hG _ _ hP hS hD hfr0 hrA12 hfA12 hfo_703 hfo_704 hT0 (by (try rw [ti_0]) <;> omega) ls hl
                  exact hloop_699 73 0 (by decide) f_73 hG _ _ hP hS hD hfr0 hrA12 hfA12 hfo_74 hT0 v_105 (by rw [hfo_75]; rfl) (by (try rw [ti_0]) <;> omega) (by (try rw [ti_0]) <;> omega) (by (try rw [ti_0]) <;> omega) ls hl
                · skip
                  rw [← Int32.toInt_inj, ti_1] at c_636
                  exfalso
                  omega
              · skip
                rw [← Int32.toInt_inj, ti_0] at c_631
                refine lv_iconst (v := (-1)) hx hb dX12_orders_104 (by decide) ?_
                exact W.iret (v := (-1)) hx hb hr (fun t ht hW => ⟨⟨(-1), f_73, rfl, ⟨hG, (by decide), hfr0, hrA12, hfA12, (by intro w29 z29 e29 d29; rw [hfo_1] at e29; rw [hfo_75] at d29; obtain rfl := Option.some.inj e29; obtain rfl := Option.some.inj d29; (try rw [ti_m1]) <;> omega), hT0⟩, by rw [ht]; exact hP, va_K.moved hW.alike hK, pl_in hD⟩, hS.F ht⟩) hS.2.2 dX12_orders_105
      · skip
        rw [Int32.le_iff_toInt_le] at c_133
        refine lv_aload_n hx hb dX12_orders_18 rfl (lv_at hl 1 rfl) ?_
        refine tk_getP (D := (dC, dI)) (ci := 12) (v := .ref a_2) (C := RX12) (T := TX12) (N := 56) hx hb hU inlX12 hown hK hP mo0 hfo_75 rfl 0 (by decide) (hU _ wd_169) (fun _ h9 => h9) rfl dX12_orders_19 ?_
        refine lv_bipush (v := 40) hx hb dX12_orders_22 (by decide) ?_
        refine tk_ildP hx hb hK hP 0 ma_2 hfo_74 rfl (vp_in_nI (n := 40) (by decide) (by decide)) dX12_orders_24 ?_
        refine lv_topi (fun x_1121 ex_1121 => ?_)
        have bx_1121 : (0 ≤ x_1121.toInt ∧ x_1121.toInt ≤ 255) := by rw [ex_1121]; exact hbg_59.2.2.2.2.2.2.1 _ (by decide) (by decide) (by decide)
        refine lv_iload_n hx hb dX12_orders_25 rfl (lv_at hl 0 rfl) ?_
        refine lv_ishr hx hb dX12_orders_26 ?_
        refine lv_topi (fun x_1122 ex_1122 => ?_)
        have bx_1122 : ((-2147483648) ≤ x_1122.toInt ∧ x_1122.toInt ≤ 2147483647) := ⟨i32_lo _, i32_hi _⟩
        refine lv_iconst (v := 1) hx hb dX12_orders_27 (by decide) ?_
        refine lv_iand hx hb dX12_orders_28 ?_
        refine lv_topi (fun x_1123 ex_1123 => ?_)
        have bx_1123 : (0 ≤ x_1123.toInt ∧ x_1123.toInt ≤ 1) := by rw [ex_1123]; have h8 := an_C x_1122 (m := 1) (by decide); rw [ti_1] at h8; exact h8
        have hcut_1127 : ∀ (f_1125 : Nat → va_E), GI (okc cI cL cZ cR cG cH L kd) kd L f_1125 → ∀ (H : Heap) (locs : List Loc), va_P (dC, dI) vwCl (va_pl L f_1125) H → va_S (fun q => q ∈ L) s.heap H locs → va_D (fun q => q ∈ L) (va_pl L f_1125) → (∀ b, kd b ≠ 12 → kd b ≠ 579 → kd b ≠ 581 → kd b ≠ 583 → kd b ≠ 585 → kd b ≠ 587 → kd b ≠ 588 → kd b ≠ 589 → kd b ≠ 590 → kd b ≠ 591 → kd b ≠ 592 → kd b ≠ 593 → kd b ≠ 597 → kd b ≠ 598 → kd b ≠ 599 → kd b ≠ 603 → kd b ≠ 604 → kd b ≠ 606 → kd b ≠ 607 → kd b ≠ 608 → kd b ≠ 609 → kd b ≠ 610 → f_1125 b = f b) → (∀ b, kd b = 12 → ∀ j, fldR (f_1125 b) j = fldR (f b) j) → (∀ b, kd b = 12 → ∀ j, j ≠ 23 → j ≠ 25 → j ≠ 27 → j ≠ 29 → j ≠ 32 → j ≠ 33 → j ≠ 43 → j ≠ 53 → j ≠ 54 → fldI (f_1125 b) j = fldI (f b) j) → (f_1125 a_2 = .inl (cI, 1560, .inl g_59)) → srel kd 592 f_1125 o0 → ∀ (ls : Array Slot), lv_has ls 6 [(3, .int y_71), (0, .ref o0), (1, .int p1), (2, .int p2)] → W p l e (headSpec (wU yX12_orders cX12_orders 6 (some .int)) { frames := 24, cells := 0, slots := 0, locals := 676 }).room s m [.ref o0, .int p1, .int p2].toArray below meth c H locs 0 0 (MQ below (va_Qi (fun (r : Int32) (f9 : Nat → va_E) => GI (okc cI cL cZ cR cG cH L kd) kd L f9 ∧ ((-2147483648) ≤ r.toInt ∧ r.toInt ≤ 2147483647) ∧ (∀ b, kd b ≠ 12 → kd b ≠ 579 → kd b ≠ 581 → kd b ≠ 583 → kd b ≠ 585 → kd b ≠ 587 → kd b ≠ 588 → kd b ≠ 589 → kd b ≠ 590 → kd b ≠ 591 → kd b ≠ 592 → kd b ≠ 593 → kd b ≠ 597 → kd b ≠ 598 → kd b ≠ 599 → kd b ≠ 603 → kd b ≠ 604 → kd b ≠ 606 → kd b ≠ 607 → kd b ≠ 608 → kd b ≠ 609 → kd b ≠ 610 → f9 b = f b) ∧ (∀ b, kd b = 12 → ∀ j, fldR (f9 b) j = fldR (f b) j) ∧ (∀ b, kd b = 12 → ∀ j, j ≠ 23 → j ≠ 25 → j ≠ 27 → j ≠ 29 → j ≠ 32 → j ≠ 33 → j ≠ 43 → j ≠ 53 → j ≠ 54 → fldI (f9 b) j = fldI (f b) j) ∧ (∀ (w29 z29 : Int32), fldI (f o0) 29 = some w29 → fldI (f9 o0) 29 = some z29 → z29.toInt = w29.toInt) ∧ (srel kd 592 f9 o0)) (qP (dC, dI) cI cL cZ cR cG cH L) (fun q => q ∈ L)) [.ref o0, .int p1, .int p2].toArray s 0 0 (fun q => q ∈ L)) (F0 m 55 ls []) := by
          intro f_1125 hG H locs hP hS hD hfr0 hrA12 hfA12 hfo_1126 hT0 ls hl
          obtain ⟨x_1128, ex_1128⟩ : ∃ y : Int32, y_71 + 1 = y := ⟨_, rfl⟩
          have hx_1128 : x_1128.toInt = y_71.toInt + 1 := by rw [← ex_1128, ad_I (by rw [ti_1]; omega) (by rw [ti_1]; omega), ti_1]
          have bx_1128 : (1 ≤ x_1128.toInt ∧ x_1128.toInt ≤ 8) := by constructor <;> omega
          refine lv_iinc (v := x_1128) (lv' := [(3, .int x_1128), (0, .ref o0), (1, .int p1), (2, .int p2)]) hx hb dX12_orders_55 hl (k := 0) rfl ex_1128 (by decide) rfl (fun ls hl => ?_)
          refine lv_goto (tgt := 7) hx hb dX12_orders_58 (by decide) ?_
          obtain ⟨a_1130, a_1131, a_1132, v_1133, a_1134, v_1135, v_1136, v_1137, v_1138, v_1139, v_1140, v_1141, v_1142, v_1143, v_1144, a_1145, a_1146, a_1147, a_1148, a_1149, a_1150, a_1151, a_1152, v_1153, v_1154, v_1155, v_1156, v_1157, a_1158, v_1159, a_1160, a_1161, v_1162, v_1163, a_1164, v_1165, a_1166, a_1167, v_1168, v_1169, a_1170, a_1171, a_1172, v_1173, a_1174, a_1175, a_1176, a_1177, a_1178, a_1179, a_1180, a_1181, a_1182, v_1183, v_1184, a_1185, hfo_1129, ⟨ma_1130, ka_1130⟩, ⟨ma_1131, ka_1131⟩, ⟨ma_1132, ka_1132⟩, bv_1133, ⟨ma_1134, ka_1134⟩, bv_1135, bv_1136, bv_1141, bv_1142, bv_1143, ⟨ma_1145, ka_1145⟩, ⟨ma_1146, ka_1146⟩, ⟨ma_1147, ka_1147⟩, ⟨ma_1148, ka_1148⟩, ⟨ma_1149, ka_1149⟩, ⟨ma_1150, ka_1150⟩, ⟨ma_1151, ka_1151⟩, ⟨ma_1152, ka_1152⟩, bv_1153, bv_1155, bv_1157, ⟨ma_1158, ka_1158⟩, bv_1159, ⟨ma_1160, ka_1160⟩, ⟨ma_1161, ka_1161⟩, bv_1162, ⟨ma_1164, ka_1164⟩, bv_1165, ⟨ma_1166, ka_1166⟩, ⟨ma_1167, ka_1167⟩, bv_1168, ⟨ma_1170, ka_1170⟩, ⟨ma_1171, ka_1171⟩, ⟨ma_1172, ka_1172⟩, bv_1173, ⟨ma_1174, ka_1174⟩, ⟨ma_1175, ka_1175⟩, ⟨ma_1176, ka_1176⟩, ⟨ma_1177, ka_1177⟩, ⟨ma_1178, ka_1178⟩, ⟨ma_1179, ka_1179⟩, ⟨ma_1180, ka_1180⟩, ⟨ma_1181, ka_1181⟩, ⟨ma_1182, ka_1182⟩, bv_1183, ⟨ma_1185, ka_1185⟩⟩ := un_12 (hG _ mo0) ko0
          have bv_1137 : ((-2147483648) ≤ v_1137.toInt ∧ v_1137.toInt ≤ 2147483647) := ⟨i32_lo _, i32_hi _⟩
          have bv_1138 : ((-2147483648) ≤ v_1138.toInt ∧ v_1138.toInt ≤ 2147483647) := ⟨i32_lo _, i32_hi _⟩
          have bv_1139 : ((-2147483648) ≤ v_1139.toInt ∧ v_1139.toInt ≤ 2147483647) := ⟨i32_lo _, i32_hi _⟩
          have bv_1140 : ((-2147483648) ≤ v_1140.toInt ∧ v_1140.toInt ≤ 2147483647) := ⟨i32_lo _, i32_hi _⟩
          have bv_1144 : ((-2147483648) ≤ v_1144.toInt ∧ v_1144.toInt ≤ 2147483647) := ⟨i32_lo _, i32_hi _⟩
          have bv_1154 : ((-2147483648) ≤ v_1154.toInt ∧ v_1154.toInt ≤ 2147483647) := ⟨i32_lo _, i32_hi _⟩
          have bv_1156 : ((-2147483648) ≤ v_1156.toInt ∧ v_1156.toInt ≤ 2147483647) := ⟨i32_lo _, i32_hi _⟩
          have bv_1163 : ((-2147483648) ≤ v_1163.toInt ∧ v_1163.toInt ≤ 2147483647) := ⟨i32_lo _, i32_hi _⟩
          have bv_1169 : ((-2147483648) ≤ v_1169.toInt ∧ v_1169.toInt ≤ 2147483647) := ⟨i32_lo _, i32_hi _⟩
          have bv_1184 : ((-2147483648) ≤ v_1184.toInt ∧ v_1184.toInt ≤ 2147483647) := ⟨i32_lo _, i32_hi _⟩
          obtain ⟨rfl, rfl, rfl, rfl, rfl, rfl, rfl, rfl, rfl, rfl, rfl, rfl, rfl, rfl, rfl, rfl, rfl, rfl, rfl, rfl, rfl, rfl, rfl, rfl, rfl, rfl, rfl, rfl, rfl, rfl, rfl⟩ := re_12 hfo_1 hfo_1129 (hrA12 o0 ko0)
          obtain rfl := ri_12_3 hfo_1 hfo_1129 (hfA12 o0 ko0 3 (by decide) (by decide) (by decide) (by decide) (by decide) (by decide) (by decide) (by decide) (by decide))
          obtain rfl := ri_12_5 hfo_1 hfo_1129 (hfA12 o0 ko0 5 (by decide) (by decide) (by decide) (by decide) (by decide) (by decide) (by decide) (by decide) (by decide))
          obtain rfl := ri_12_6 hfo_1 hfo_1129 (hfA12 o0 ko0 6 (by decide) (by decide) (by decide) (by decide) (by decide) (by decide) (by decide) (by decide) (by decide))
          obtain rfl := ri_12_11 hfo_1 hfo_1129 (hfA12 o0 ko0 11 (by decide) (by decide) (by decide) (by decide) (by decide) (by decide) (by decide) (by decide) (by decide))
          obtain rfl := ri_12_12 hfo_1 hfo_1129 (hfA12 o0 ko0 12 (by decide) (by decide) (by decide) (by decide) (by decide) (by decide) (by decide) (by decide) (by decide))
          obtain rfl := ri_12_13 hfo_1 hfo_1129 (hfA12 o0 ko0 13 (by decide) (by decide) (by decide) (by decide) (by decide) (by decide) (by decide) (by decide) (by decide))
          obtain rfl := ri_12_14 hfo_1 hfo_1129 (hfA12 o0 ko0 14 (by decide) (by decide) (by decide) (by decide) (by decide) (by decide) (by decide) (by decide) (by decide))
          obtain rfl := ri_12_35 hfo_1 hfo_1129 (hfA12 o0 ko0 35 (by decide) (by decide) (by decide) (by decide) (by decide) (by decide) (by decide) (by decide) (by decide))
          obtain rfl := ri_12_38 hfo_1 hfo_1129 (hfA12 o0 ko0 38 (by decide) (by decide) (by decide) (by decide) (by decide) (by decide) (by decide) (by decide) (by decide))
          exact ih_hloop_70 x_1128 (by constructor <;> omega) f_1125 hG _ _ hP hS hD hfr0 hrA12 hfA12 hfo_1126 hT0 v_1183 (by rw [hfo_1129]; rfl) v_1159 (by rw [hfo_1129]; rfl) (by omega) (by omega) (by omega) (by omega) (by omega) ls (lv_sub hl [0, 1, 2, 3] rfl)
        refine lv_if_ne (tgt := 35) hx hb dX12_orders_29 (by decide) (fun c_1186 => ?_) (fun c_1186 => ?_)
        · skip
          rw [← Int32.toInt_inj, ti_0] at c_1186
          have hclc_1187 : (0 ≤ v_129.toInt ∧ v_129.toInt ≤ 7) := by constructor <;> omega
          refine lv_aload_n hx hb dX12_orders_35 rfl (lv_at hl 1 rfl) ?_
          refine tk_getP (D := (dC, dI)) (ci := 12) (v := .ref a_51) (C := RX12) (T := TX12) (N := 56) hx hb hU inlX12 hown hK hP mo0 hfo_75 rfl 49 (by decide) (hU _ wd_200) (fun _ h9 => h9) rfl dX12_orders_36 ?_
          refine lv_aload_n hx hb dX12_orders_39 rfl (lv_at hl 1 rfl) ?_
          refine tk_getP (D := (dC, dI)) (ci := 12) (v := .int v_129) (C := RX12) (T := TX12) (N := 56) hx hb hU inlX12 hown hK hP mo0 hfo_75 rfl 53 (by decide) (hU _ wd_1241) (fun _ h9 => h9) rfl dX12_orders_40 ?_
          refine lv_iload_n hx hb dX12_orders_43 rfl (lv_at hl 0 rfl) ?_
          obtain ⟨g_1189, hfo_1188, hbg_1189⟩ := un_606 (hG _ ma_51) ka_51
          refine tk_istP hx hb hK hP hD hS 0 ma_51 hfo_1188 rfl (vp_in_iff.mpr (by constructor <;> omega)) dX12_orders_44 (fun H locs hP hD hS => ?_)
          obtain ⟨f_1191, ef_1191⟩ : ∃ y : Nat → va_E, y = va_up f_73 a_51 (.inl (cI, 8, .inl (upd g_1189 (Int32.toNatClampNeg v_129) y_71))) := ⟨_, rfl⟩
          have hP : va_P (dC, dI) vwCl (va_pl L f_1191) H := by rw [ef_1191]; exact hP
          have hD : va_D (fun q => q ∈ L) (va_pl L f_1191) := by rw [ef_1191]; exact hD
          have hG : GI (okc cI cL cZ cR cG cH L kd) kd L f_1191 := by rw [ef_1191]; exact hG.set a_51 (mk_606 ka_51 ⟨_, rfl, okI_up hbg_1189 (by constructor <;> omega) _⟩)
          have hfo_1192 : f_1191 a_2 = .inl (cI, 1560, .inl g_59) := by rw [ef_1191, up_ne (kd_ne ka_51 ka_2 (by decide))]; exact hfo_74
          have hfo_1193 : f_1191 o0 = .inr (12, [.ref a_2, .ref a_3, .ref a_4, .int v_5, .ref a_6, .int v_7, .int v_8, .int v_83, .int v_84, .int v_85, .int v_86, .int v_13, .int v_14, .int v_15, .int v_16, .ref a_17, .ref a_18, .ref a_19, .ref a_20, .ref a_21, .ref a_22, .ref a_23, .ref a_24, .int v_99, .int v_100, .int v_101, .int v_102, .int v_103, .ref a_30, .int v_105, .ref a_32, .ref a_33, .int v_108, .int v_109, .ref a_36, .int v_37, .ref a_38, .ref a_39, .int v_40, .int v_115, .ref a_42, .ref a_43, .ref a_44, .int v_119, .ref a_46, .ref a_47, .ref a_48, .ref a_49, .ref a_50, .ref a_51, .ref a_52, .ref a_53, .ref a_54, .int v_129, .int v_130, .ref a_57]) := by rw [ef_1191, up_ne (kd_ne ka_51 ko0 (by decide))]; exact hfo_75
          have hfr0 : ∀ b, kd b ≠ 12 → kd b ≠ 579 → kd b ≠ 581 → kd b ≠ 583 → kd b ≠ 585 → kd b ≠ 587 → kd b ≠ 588 → kd b ≠ 589 → kd b ≠ 590 → kd b ≠ 591 → kd b ≠ 592 → kd b ≠ 593 → kd b ≠ 597 → kd b ≠ 598 → kd b ≠ 599 → kd b ≠ 603 → kd b ≠ 604 → kd b ≠ 606 → kd b ≠ 607 → kd b ≠ 608 → kd b ≠ 609 → kd b ≠ 610 → f_1191 b = f b := fun b q12 q579 q581 q583 q585 q587 q588 q589 q590 q591 q592 q593 q597 q598 q599 q603 q604 q606 q607 q608 q609 q610 => (congrFun ef_1191 b).trans ((up_ne (fun e9 => q606 (by rw [e9]; exact ka_51))).trans (hfr0 b q12 q579 q581 q583 q585 q587 q588 q589 q590 q591 q592 q593 q597 q598 q599 q603 q604 q606 q607 q608 q609 q610))
          have hrA12 : ∀ b, kd b = 12 → ∀ j, fldR (f_1191 b) j = fldR (f b) j := fun b kb j => (congrArg (fun x => fldR x j) ((congrFun ef_1191 b).trans (up_ne (kd_ne ka_51 kb (by decide))))).trans (hrA12 b kb j)
          have hfA12 : ∀ b, kd b = 12 → ∀ j, j ≠ 23 → j ≠ 25 → j ≠ 27 → j ≠ 29 → j ≠ 32 → j ≠ 33 → j ≠ 43 → j ≠ 53 → j ≠ 54 → fldI (f_1191 b) j = fldI (f b) j := fun b kb j n23 n25 n27 n29 n32 n33 n43 n53 n54 => (congrArg (fun x => fldI x j) ((congrFun ef_1191 b).trans (up_ne (kd_ne ka_51 kb (by decide))))).trans (hfA12 b kb j n23 n25 n27 n29 n32 n33 n43 n53 n54)
          have hT0 : srel kd 592 f_1191 o0 := by rw [ef_1191]; exact hT0.keep (fun b q => congrArg (fun x => fldR x 30) (up_ne (kd_ne ka_51 q (by decide)))) (fun b q => congrArg (fun x => fldI x 32) (up_ne (kd_ne ka_51 q (by decide)))) (fun b q => congrArg (fun x => fldI x 33) (up_ne (kd_ne ka_51 q (by decide)))) (fun b q => up_ne (kd_ne ka_51 q (by decide)))
          have hfo_1194 : f_1191 a_51 = .inl (cI, 8, .inl (upd g_1189 (Int32.toNatClampNeg v_129) y_71)) := by rw [ef_1191]; exact up_self
          refine lv_aload_n hx hb dX12_orders_45 rfl (lv_at hl 1 rfl) ?_
          refine lv_dup hx hb dX12_orders_46 rfl ?_
          refine tk_getP (D := (dC, dI)) (ci := 12) (v := .int v_129) (C := RX12) (T := TX12) (N := 56) hx hb hU inlX12 hown hK hP mo0 hfo_1193 rfl 53 (by decide) (hU _ wd_1241) (fun _ h9 => h9) rfl dX12_orders_47 ?_
          refine lv_iconst (v := 1) hx hb dX12_orders_50 (by decide) ?_
          refine lv_iadd hx hb dX12_orders_51 ?_
          refine lv_topi (fun x_1195 ex_1195 => ?_)
          have hx_1195 : x_1195.toInt = v_129.toInt + 1 := by rw [ex_1195, ad_I (by rw [ti_1]; omega) (by rw [ti_1]; omega), ti_1]
          have bx_1195 : (1 ≤ x_1195.toInt ∧ x_1195.toInt ≤ 8) := by constructor <;> omega
          refine tk_putP (D := (dC, dI)) (ci := 12) (v := .int x_1195) (ty := .int) (C := RX12) (T := TX12) (N := 56) hx hb hU inlX12 tyX12 tyX12_ok nmX12 hown hK hP hD hS mo0 hfo_1193 rfl 53 (by decide) (hU _ wd_1241) (fun _ h9 => h9) rfl (by decide +kernel) rfl rfl (Nat.le_of_ble_eq_true rfl) dX12_orders_52 (fun H locs hP hD hS => ?_)
          obtain ⟨f_1197, ef_1197⟩ : ∃ y : Nat → va_E, y = va_up f_1191 o0 (.inr (12, [.ref a_2, .ref a_3, .ref a_4, .int v_5, .ref a_6, .int v_7, .int v_8, .int v_83, .int v_84, .int v_85, .int v_86, .int v_13, .int v_14, .int v_15, .int v_16, .ref a_17, .ref a_18, .ref a_19, .ref a_20, .ref a_21, .ref a_22, .ref a_23, .ref a_24, .int v_99, .int v_100, .int v_101, .int v_102, .int v_103, .ref a_30, .int v_105, .ref a_32, .ref a_33, .int v_108, .int v_109, .ref a_36, .int v_37, .ref a_38, .ref a_39, .int v_40, .int v_115, .ref a_42, .ref a_43, .ref a_44, .int v_119, .ref a_46, .ref a_47, .ref a_48, .ref a_49, .ref a_50, .ref a_51, .ref a_52, .ref a_53, .ref a_54, .int x_1195, .int v_130, .ref a_57])) := ⟨_, rfl⟩
          have hP : va_P (dC, dI) vwCl (va_pl L f_1197) H := by rw [ef_1197]; exact hP
          have hD : va_D (fun q => q ∈ L) (va_pl L f_1197) := by rw [ef_1197]; exact hD
          have hG : GI (okc cI cL cZ cR cG cH L kd) kd L f_1197 := by rw [ef_1197]; exact hG.set o0 (mk_12 ko0 ⟨a_2, a_3, a_4, v_5, a_6, v_7, v_8, v_83, v_84, v_85, v_86, v_13, v_14, v_15, v_16, a_17, a_18, a_19, a_20, a_21, a_22, a_23, a_24, v_99, v_100, v_101, v_102, v_103, a_30, v_105, a_32, a_33, v_108, v_109, a_36, v_37, a_38, a_39, v_40, v_115, a_42, a_43, a_44, v_119, a_46, a_47, a_48, a_49, a_50, a_51, a_52, a_53, a_54, x_1195, v_130, a_57, rfl, ⟨ma_2, ka_2⟩, ⟨ma_3, ka_3⟩, ⟨ma_4, ka_4⟩, (by constructor <;> omega), ⟨ma_6, ka_6⟩, (by constructor <;> omega), (by constructor <;> omega), (by constructor <;> omega), (by constructor <;> omega), (by constructor <;> omega), ⟨ma_17, ka_17⟩, ⟨ma_18, ka_18⟩, ⟨ma_19, ka_19⟩, ⟨ma_20, ka_20⟩, ⟨ma_21, ka_21⟩, ⟨ma_22, ka_22⟩, ⟨ma_23, ka_23⟩, ⟨ma_24, ka_24⟩, (by constructor <;> omega), (by constructor <;> omega), (by constructor <;> omega), ⟨ma_30, ka_30⟩, (by constructor <;> omega), ⟨ma_32, ka_32⟩, ⟨ma_33, ka_33⟩, (by constructor <;> omega), ⟨ma_36, ka_36⟩, (by constructor <;> omega), ⟨ma_38, ka_38⟩, ⟨ma_39, ka_39⟩, (by constructor <;> omega), ⟨ma_42, ka_42⟩, ⟨ma_43, ka_43⟩, ⟨ma_44, ka_44⟩, (by constructor <;> omega), ⟨ma_46, ka_46⟩, ⟨ma_47, ka_47⟩, ⟨ma_48, ka_48⟩, ⟨ma_49, ka_49⟩, ⟨ma_50, ka_50⟩, ⟨ma_51, ka_51⟩, ⟨ma_52, ka_52⟩, ⟨ma_53, ka_53⟩, ⟨ma_54, ka_54⟩, (by constructor <;> omega), ⟨ma_57, ka_57⟩⟩)
          have hfo_1198 : f_1197 a_2 = .inl (cI, 1560, .inl g_59) := by rw [ef_1197, up_ne (kd_ne ko0 ka_2 (by decide))]; exact hfo_1192
          have hfr0 : ∀ b, kd b ≠ 12 → kd b ≠ 579 → kd b ≠ 581 → kd b ≠ 583 → kd b ≠ 585 → kd b ≠ 587 → kd b ≠ 588 → kd b ≠ 589 → kd b ≠ 590 → kd b ≠ 591 → kd b ≠ 592 → kd b ≠ 593 → kd b ≠ 597 → kd b ≠ 598 → kd b ≠ 599 → kd b ≠ 603 → kd b ≠ 604 → kd b ≠ 606 → kd b ≠ 607 → kd b ≠ 608 → kd b ≠ 609 → kd b ≠ 610 → f_1197 b = f b := fun b q12 q579 q581 q583 q585 q587 q588 q589 q590 q591 q592 q593 q597 q598 q599 q603 q604 q606 q607 q608 q609 q610 => (congrFun ef_1197 b).trans ((up_ne (fun e9 => q12 (by rw [e9]; exact ko0))).trans (hfr0 b q12 q579 q581 q583 q585 q587 q588 q589 q590 q591 q592 q593 q597 q598 q599 q603 q604 q606 q607 q608 q609 q610))
          have hrA12 : ∀ b, kd b = 12 → ∀ j, fldR (f_1197 b) j = fldR (f b) j := fun b kb j => ((congrArg (fun x => fldR x j) (congrFun ef_1197 b)).trans (fra_up (fun j => by rw [hfo_1193]; exact fr_set (k := 53) rfl rfl j) j b)).trans (hrA12 b kb j)
          have hfA12 : ∀ b, kd b = 12 → ∀ j, j ≠ 23 → j ≠ 25 → j ≠ 27 → j ≠ 29 → j ≠ 32 → j ≠ 33 → j ≠ 43 → j ≠ 53 → j ≠ 54 → fldI (f_1197 b) j = fldI (f b) j := fun b kb j n23 n25 n27 n29 n32 n33 n43 n53 n54 => ((congrArg (fun x => fldI x j) (congrFun ef_1197 b)).trans (fia_up (fun h9 => by rw [hfo_1193]; exact fi_set (k := 53) rfl h9) n53 b)).trans (hfA12 b kb j n23 n25 n27 n29 n32 n33 n43 n53 n54)
          have hT0 : srel kd 592 f_1197 o0 := by rw [ef_1197]; exact hT0.keep (fun b _ => fr_up (by rw [hfo_1193]; rfl) b) (fun b _ => fk_up (by rw [hfo_1193]; rfl) b) (fun b _ => fk_up (by rw [hfo_1193]; rfl) b) (fun b q => up_ne (kd_ne ko0 q (by decide)))
          have hfo_1199 : f_1197 o0 = .inr (12, [.ref a_2, .ref a_3, .ref a_4, .int v_5, .ref a_6, .int v_7, .int v_8, .int v_83, .int v_84, .int v_85, .int v_86, .int v_13, .int v_14, .int v_15, .int v_16, .ref a_17, .ref a_18, .ref a_19, .ref a_20, .ref a_21, .ref a_22, .ref a_23, .ref a_24, .int v_99, .int v_100, .int v_101, .int v_102, .int v_103, .ref a_30, .int v_105, .ref a_32, .ref a_33, .int v_108, .int v_109, .ref a_36, .int v_37, .ref a_38, .ref a_39, .int v_40, .int v_115, .ref a_42, .ref a_43, .ref a_44, .int v_119, .ref a_46, .ref a_47, .ref a_48, .ref a_49, .ref a_50, .ref a_51, .ref a_52, .ref a_53, .ref a_54, .int x_1195, .int v_130, .ref a_57]) := by rw [ef_1197]; exact up_self
          exact hcut_1127 f_1197 hG _ _ hP hS hD hfr0 hrA12 hfA12 hfo_1198 hT0 ls (lv_sub hl [0, 1, 2, 3] rfl)
        · skip
          rw [← Int32.toInt_inj, ti_0] at c_1186
          refine lv_goto (tgt := 55) hx hb dX12_orders_32 (by decide) ?_
          exact hcut_1127 f_73 hG _ _ hP hS hD hfr0 hrA12 hfA12 hfo_74 hT0 ls (lv_sub hl [0, 1, 2, 3] rfl)
  exact hloop_70 9 0 (by decide) f_61 hG _ _ hP hS hD hfr0 hrA12 hfA12 hfo_62 hT0 0 (by rw [hfo_63]; rfl) v_31 (by rw [hfo_63]; rfl) (by (try rw [ti_0]) <;> omega) (by (try rw [ti_0]) <;> omega) (by (try rw [ti_0]) <;> omega) (by (try rw [ti_0]) <;> omega) (by (try rw [ti_0]) <;> omega) ls hl
