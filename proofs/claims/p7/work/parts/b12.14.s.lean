set_option maxHeartbeats 8000000 in
set_option maxRecDepth 100000 in
theorem s_X12_walk_k12 (l : Launch) (D : va_G) (cI cL cZ cR cG cH : ClassId) (Z : zT) (kd : Nat → Nat) (L : List Nat) (f : Nat → va_E) (hG : GI (okc cI cL cZ cR cG cH L kd) kd L f) (o0 : Nat) (mo0 : o0 ∈ L) (ko0 : kd o0 = 12) : mPI l D cI cL cZ cR cG cH Z yX12_walk cX12_walk 4 (some .int) 6 157 [.ref o0] L f (fun (r : Int32) (f9 : Nat → va_E) => GI (okc cI cL cZ cR cG cH L kd) kd L f9 ∧ ((-2147483648) ≤ r.toInt ∧ r.toInt ≤ 2147483647) ∧ (∀ b, kd b ≠ 12 → kd b ≠ 588 → f9 b = f b) ∧ (∀ b, kd b = 12 → ∀ j, fldR (f9 b) j = fldR (f b) j) ∧ (∀ b, kd b = 12 → ∀ j, j ≠ 5 → j ≠ 39 → fldI (f9 b) j = fldI (f b) j) ∧ (∀ (w5 z5 : Int32), fldI (f o0) 5 = some w5 → fldI (f9 o0) 5 = some z5 → z5.toInt = 0)) := by
  obtain ⟨dC, dI⟩ := D
  refine Met.ofW (cc := cX12_walk) (maxL := 4) (ret := (some .int)) (by decide) rfl ?_
  intro p e s m args below meth c s₁ B hml hv
  obtain ⟨rfl, hP, hK, hD0, hN, hZ⟩ := hv
  have hx := B.exec
  have hb := B.bytes
  have hr := B.returns
  have hU : ∀ w ∈ wsU, w.before _ s = true := fun w h => atoms_spec (ws := wU yX12_walk cX12_walk 4 (some .int)) B.pre w (List.mem_cons_of_mem _ h)
  have hown : s.vm.findClass RX12 = some m.cls := findClass_of_methodNamed B.named
  have hlocks := B.notSynchronized
  have hD := pl_in hD0
  have hS : va_S (fun q => q ∈ L) s.heap s.heap [] := va_S.rf
  have hl := lv_entry ([.ref o0]) (n := 4) (Nat.le_of_ble_eq_true rfl)
  rw [lg_entry_eq]
  generalize (lg_sl ([.ref o0]) ++ List.replicate (4 - (lg_sl ([.ref o0])).length) Slot.unset).toArray = ls at hl ⊢
  have hl : lv_has ls 4 [(0, .ref o0)] := hl
  have hfr0 : ∀ b, kd b ≠ 12 → kd b ≠ 588 → f b = f b := fun _ _ _ => rfl
  have hrA12 : ∀ b, kd b = 12 → ∀ j, fldR (f b) j = fldR (f b) j := fun _ _ _ => rfl
  have hfA12 : ∀ b, kd b = 12 → ∀ j, j ≠ 5 → j ≠ 39 → fldI (f b) j = fldI (f b) j := fun _ _ _ _ _ => rfl
  obtain ⟨a_2, a_3, a_4, v_5, a_6, v_7, v_8, v_9, v_10, v_11, v_12, v_13, v_14, v_15, v_16, a_17, a_18, a_19, a_20, a_21, a_22, a_23, a_24, v_25, v_26, v_27, v_28, v_29, a_30, v_31, a_32, a_33, v_34, v_35, a_36, v_37, a_38, a_39, v_40, v_41, a_42, a_43, a_44, v_45, a_46, a_47, a_48, a_49, a_50, a_51, a_52, a_53, a_54, v_55, v_56, a_57, hfo_1, ⟨ma_2, ka_2⟩, ⟨ma_3, ka_3⟩, ⟨ma_4, ka_4⟩, bv_5, ⟨ma_6, ka_6⟩, bv_7, bv_8, bv_13, bv_14, bv_15, ⟨ma_17, ka_17⟩, ⟨ma_18, ka_18⟩, ⟨ma_19, ka_19⟩, ⟨ma_20, ka_20⟩, ⟨ma_21, ka_21⟩, ⟨ma_22, ka_22⟩, ⟨ma_23, ka_23⟩, ⟨ma_24, ka_24⟩, bv_25, bv_27, bv_29, ⟨ma_30, ka_30⟩, bv_31, ⟨ma_32, ka_32⟩, ⟨ma_33, ka_33⟩, bv_34, ⟨ma_36, ka_36⟩, bv_37, ⟨ma_38, ka_38⟩, ⟨ma_39, ka_39⟩, bv_40, ⟨ma_42, ka_42⟩, ⟨ma_43, ka_43⟩, ⟨ma_44, ka_44⟩, bv_45, ⟨ma_46, ka_46⟩, ⟨ma_47, ka_47⟩, ⟨ma_48, ka_48⟩, ⟨ma_49, ka_49⟩, ⟨ma_50, ka_50⟩, ⟨ma_51, ka_51⟩, ⟨ma_52, ka_52⟩, ⟨ma_53, ka_53⟩, ⟨ma_54, ka_54⟩, bv_55, ⟨ma_57, ka_57⟩⟩ := un_12 (hG _ mo0) ko0
  have bv_9 : ((-2147483648) ≤ v_9.toInt ∧ v_9.toInt ≤ 2147483647) := ⟨i32_lo _, i32_hi _⟩
  have bv_10 : ((-2147483648) ≤ v_10.toInt ∧ v_10.toInt ≤ 2147483647) := ⟨i32_lo _, i32_hi _⟩
  have bv_11 : ((-2147483648) ≤ v_11.toInt ∧ v_11.toInt ≤ 2147483647) := ⟨i32_lo _, i32_hi _⟩
  have bv_12 : ((-2147483648) ≤ v_12.toInt ∧ v_12.toInt ≤ 2147483647) := ⟨i32_lo _, i32_hi _⟩
  have bv_16 : ((-2147483648) ≤ v_16.toInt ∧ v_16.toInt ≤ 2147483647) := ⟨i32_lo _, i32_hi _⟩
  have bv_26 : ((-2147483648) ≤ v_26.toInt ∧ v_26.toInt ≤ 2147483647) := ⟨i32_lo _, i32_hi _⟩
  have bv_28 : ((-2147483648) ≤ v_28.toInt ∧ v_28.toInt ≤ 2147483647) := ⟨i32_lo _, i32_hi _⟩
  have bv_35 : ((-2147483648) ≤ v_35.toInt ∧ v_35.toInt ≤ 2147483647) := ⟨i32_lo _, i32_hi _⟩
  have bv_41 : ((-2147483648) ≤ v_41.toInt ∧ v_41.toInt ≤ 2147483647) := ⟨i32_lo _, i32_hi _⟩
  have bv_56 : ((-2147483648) ≤ v_56.toInt ∧ v_56.toInt ≤ 2147483647) := ⟨i32_lo _, i32_hi _⟩
  refine lv_aload_n hx hb dX12_walk_0 rfl (lv_at hl 0 rfl) ?_
  refine lv_iconst (v := (-1)) hx hb dX12_walk_1 (by decide) ?_
  refine tk_putP (D := (dC, dI)) (ci := 12) (v := .int (-1)) (ty := .int) (C := RX12) (T := TX12) (N := 56) hx hb hU inlX12 tyX12 tyX12_ok nmX12 hown hK hP hD hS mo0 hfo_1 rfl 39 (by decide) (hU _ wd_189) (fun _ h9 => h9) rfl (by decide +kernel) rfl rfl (Nat.le_of_ble_eq_true rfl) dX12_walk_2 (fun H locs hP hD hS => ?_)
  obtain ⟨f_59, ef_59⟩ : ∃ y : Nat → va_E, y = va_up f o0 (.inr (12, [.ref a_2, .ref a_3, .ref a_4, .int v_5, .ref a_6, .int v_7, .int v_8, .int v_9, .int v_10, .int v_11, .int v_12, .int v_13, .int v_14, .int v_15, .int v_16, .ref a_17, .ref a_18, .ref a_19, .ref a_20, .ref a_21, .ref a_22, .ref a_23, .ref a_24, .int v_25, .int v_26, .int v_27, .int v_28, .int v_29, .ref a_30, .int v_31, .ref a_32, .ref a_33, .int v_34, .int v_35, .ref a_36, .int v_37, .ref a_38, .ref a_39, .int v_40, .int (-1), .ref a_42, .ref a_43, .ref a_44, .int v_45, .ref a_46, .ref a_47, .ref a_48, .ref a_49, .ref a_50, .ref a_51, .ref a_52, .ref a_53, .ref a_54, .int v_55, .int v_56, .ref a_57])) := ⟨_, rfl⟩
  have hP : va_P (dC, dI) vwCl (va_pl L f_59) H := by rw [ef_59]; exact hP
  have hD : va_D (fun q => q ∈ L) (va_pl L f_59) := by rw [ef_59]; exact hD
  have hG : GI (okc cI cL cZ cR cG cH L kd) kd L f_59 := by rw [ef_59]; exact hG.set o0 (mk_12 ko0 ⟨a_2, a_3, a_4, v_5, a_6, v_7, v_8, v_9, v_10, v_11, v_12, v_13, v_14, v_15, v_16, a_17, a_18, a_19, a_20, a_21, a_22, a_23, a_24, v_25, v_26, v_27, v_28, v_29, a_30, v_31, a_32, a_33, v_34, v_35, a_36, v_37, a_38, a_39, v_40, (-1), a_42, a_43, a_44, v_45, a_46, a_47, a_48, a_49, a_50, a_51, a_52, a_53, a_54, v_55, v_56, a_57, rfl, ⟨ma_2, ka_2⟩, ⟨ma_3, ka_3⟩, ⟨ma_4, ka_4⟩, (by constructor <;> omega), ⟨ma_6, ka_6⟩, (by constructor <;> omega), (by constructor <;> omega), (by constructor <;> omega), (by constructor <;> omega), (by constructor <;> omega), ⟨ma_17, ka_17⟩, ⟨ma_18, ka_18⟩, ⟨ma_19, ka_19⟩, ⟨ma_20, ka_20⟩, ⟨ma_21, ka_21⟩, ⟨ma_22, ka_22⟩, ⟨ma_23, ka_23⟩, ⟨ma_24, ka_24⟩, (by constructor <;> omega), (by constructor <;> omega), (by constructor <;> omega), ⟨ma_30, ka_30⟩, (by constructor <;> omega), ⟨ma_32, ka_32⟩, ⟨ma_33, ka_33⟩, (by constructor <;> omega), ⟨ma_36, ka_36⟩, (by constructor <;> omega), ⟨ma_38, ka_38⟩, ⟨ma_39, ka_39⟩, (by constructor <;> omega), ⟨ma_42, ka_42⟩, ⟨ma_43, ka_43⟩, ⟨ma_44, ka_44⟩, (by constructor <;> omega), ⟨ma_46, ka_46⟩, ⟨ma_47, ka_47⟩, ⟨ma_48, ka_48⟩, ⟨ma_49, ka_49⟩, ⟨ma_50, ka_50⟩, ⟨ma_51, ka_51⟩, ⟨ma_52, ka_52⟩, ⟨ma_53, ka_53⟩, ⟨ma_54, ka_54⟩, (by constructor <;> omega), ⟨ma_57, ka_57⟩⟩)
  have hfr0 : ∀ b, kd b ≠ 12 → kd b ≠ 588 → f_59 b = f b := fun b q12 q588 => (congrFun ef_59 b).trans ((up_ne (fun e9 => q12 (by rw [e9]; exact ko0))).trans (hfr0 b q12 q588))
  have hrA12 : ∀ b, kd b = 12 → ∀ j, fldR (f_59 b) j = fldR (f b) j := fun b kb j => ((congrArg (fun x => fldR x j) (congrFun ef_59 b)).trans (fra_up (fun j => by rw [hfo_1]; exact fr_set (k := 39) rfl rfl j) j b)).trans (hrA12 b kb j)
  have hfA12 : ∀ b, kd b = 12 → ∀ j, j ≠ 5 → j ≠ 39 → fldI (f_59 b) j = fldI (f b) j := fun b kb j n5 n39 => ((congrArg (fun x => fldI x j) (congrFun ef_59 b)).trans (fia_up (fun h9 => by rw [hfo_1]; exact fi_set (k := 39) rfl h9) n39 b)).trans (hfA12 b kb j n5 n39)
  have hfo_60 : f_59 o0 = .inr (12, [.ref a_2, .ref a_3, .ref a_4, .int v_5, .ref a_6, .int v_7, .int v_8, .int v_9, .int v_10, .int v_11, .int v_12, .int v_13, .int v_14, .int v_15, .int v_16, .ref a_17, .ref a_18, .ref a_19, .ref a_20, .ref a_21, .ref a_22, .ref a_23, .ref a_24, .int v_25, .int v_26, .int v_27, .int v_28, .int v_29, .ref a_30, .int v_31, .ref a_32, .ref a_33, .int v_34, .int v_35, .ref a_36, .int v_37, .ref a_38, .ref a_39, .int v_40, .int (-1), .ref a_42, .ref a_43, .ref a_44, .int v_45, .ref a_46, .ref a_47, .ref a_48, .ref a_49, .ref a_50, .ref a_51, .ref a_52, .ref a_53, .ref a_54, .int v_55, .int v_56, .ref a_57]) := by rw [ef_59]; exact up_self
  refine lv_aload_n hx hb dX12_walk_5 rfl (lv_at hl 0 rfl) ?_
  refine tk_ViP (As := []) (rest := []) (n := 0) hx hb hml hown hU hN hZ (s_X12_takesRow_k12 l (dC, dI) cI cL cZ cR cG cH Z kd L f_59 hG o0 mo0 ko0) wd_1085 wd_1086 wd_1087 wd_5 wd_1088 (by decide +kernel) ⟨Nat.le_of_ble_eq_true rfl, Nat.le_of_ble_eq_true rfl⟩ hK hP hD hS mo0 hfo_60 12 rfl rfl rfl hl.1 rfl (Nat.le_of_ble_eq_true rfl) dX12_walk_6 ⟨Nat.le_of_ble_eq_true rfl, Nat.le_of_ble_eq_true rfl⟩ (fun x_61 f_62 H locs hw hP hD hS => ?_)
  obtain ⟨hG, bx_61, hkc_63, hra_64, hfa_65, hpost_66⟩ := hw
  have hfr0 : ∀ b, kd b ≠ 12 → kd b ≠ 588 → f_62 b = f b := fun b q12 q588 => (hkc_63 b q12 q588).trans (hfr0 b q12 q588)
  have hrA12 : ∀ b, kd b = 12 → ∀ j, fldR (f_62 b) j = fldR (f b) j := fun b kb j => (hra_64 b kb j).trans (hrA12 b kb j)
  have hfA12 : ∀ b, kd b = 12 → ∀ j, j ≠ 5 → j ≠ 39 → fldI (f_62 b) j = fldI (f b) j := fun b kb j n5 n39 => (hfa_65 b kb j n5).trans (hfA12 b kb j n5 n39)
  obtain ⟨a_69, a_70, a_71, v_72, a_73, v_74, v_75, v_76, v_77, v_78, v_79, v_80, v_81, v_82, v_83, a_84, a_85, a_86, a_87, a_88, a_89, a_90, a_91, v_92, v_93, v_94, v_95, v_96, a_97, v_98, a_99, a_100, v_101, v_102, a_103, v_104, a_105, a_106, v_107, v_108, a_109, a_110, a_111, v_112, a_113, a_114, a_115, a_116, a_117, a_118, a_119, a_120, a_121, v_122, v_123, a_124, hfo_68, ⟨ma_69, ka_69⟩, ⟨ma_70, ka_70⟩, ⟨ma_71, ka_71⟩, bv_72, ⟨ma_73, ka_73⟩, bv_74, bv_75, bv_80, bv_81, bv_82, ⟨ma_84, ka_84⟩, ⟨ma_85, ka_85⟩, ⟨ma_86, ka_86⟩, ⟨ma_87, ka_87⟩, ⟨ma_88, ka_88⟩, ⟨ma_89, ka_89⟩, ⟨ma_90, ka_90⟩, ⟨ma_91, ka_91⟩, bv_92, bv_94, bv_96, ⟨ma_97, ka_97⟩, bv_98, ⟨ma_99, ka_99⟩, ⟨ma_100, ka_100⟩, bv_101, ⟨ma_103, ka_103⟩, bv_104, ⟨ma_105, ka_105⟩, ⟨ma_106, ka_106⟩, bv_107, ⟨ma_109, ka_109⟩, ⟨ma_110, ka_110⟩, ⟨ma_111, ka_111⟩, bv_112, ⟨ma_113, ka_113⟩, ⟨ma_114, ka_114⟩, ⟨ma_115, ka_115⟩, ⟨ma_116, ka_116⟩, ⟨ma_117, ka_117⟩, ⟨ma_118, ka_118⟩, ⟨ma_119, ka_119⟩, ⟨ma_120, ka_120⟩, ⟨ma_121, ka_121⟩, bv_122, ⟨ma_124, ka_124⟩⟩ := un_12 (hG _ mo0) ko0
  have bv_76 : ((-2147483648) ≤ v_76.toInt ∧ v_76.toInt ≤ 2147483647) := ⟨i32_lo _, i32_hi _⟩
  have bv_77 : ((-2147483648) ≤ v_77.toInt ∧ v_77.toInt ≤ 2147483647) := ⟨i32_lo _, i32_hi _⟩
  have bv_78 : ((-2147483648) ≤ v_78.toInt ∧ v_78.toInt ≤ 2147483647) := ⟨i32_lo _, i32_hi _⟩
  have bv_79 : ((-2147483648) ≤ v_79.toInt ∧ v_79.toInt ≤ 2147483647) := ⟨i32_lo _, i32_hi _⟩
  have bv_83 : ((-2147483648) ≤ v_83.toInt ∧ v_83.toInt ≤ 2147483647) := ⟨i32_lo _, i32_hi _⟩
  have bv_93 : ((-2147483648) ≤ v_93.toInt ∧ v_93.toInt ≤ 2147483647) := ⟨i32_lo _, i32_hi _⟩
  have bv_95 : ((-2147483648) ≤ v_95.toInt ∧ v_95.toInt ≤ 2147483647) := ⟨i32_lo _, i32_hi _⟩
  have bv_102 : ((-2147483648) ≤ v_102.toInt ∧ v_102.toInt ≤ 2147483647) := ⟨i32_lo _, i32_hi _⟩
  have bv_108 : ((-2147483648) ≤ v_108.toInt ∧ v_108.toInt ≤ 2147483647) := ⟨i32_lo _, i32_hi _⟩
  have bv_123 : ((-2147483648) ≤ v_123.toInt ∧ v_123.toInt ≤ 2147483647) := ⟨i32_lo _, i32_hi _⟩
  obtain ⟨rfl, rfl, rfl, rfl, rfl, rfl, rfl, rfl, rfl, rfl, rfl, rfl, rfl, rfl, rfl, rfl, rfl, rfl, rfl, rfl, rfl, rfl, rfl, rfl, rfl, rfl, rfl, rfl, rfl, rfl, rfl⟩ := re_12 hfo_1 hfo_68 (hrA12 o0 ko0)
  obtain rfl := ri_12_3 hfo_1 hfo_68 (hfA12 o0 ko0 3 (by decide) (by decide))
  obtain rfl := ri_12_6 hfo_1 hfo_68 (hfA12 o0 ko0 6 (by decide) (by decide))
  obtain rfl := ri_12_11 hfo_1 hfo_68 (hfA12 o0 ko0 11 (by decide) (by decide))
  obtain rfl := ri_12_12 hfo_1 hfo_68 (hfA12 o0 ko0 12 (by decide) (by decide))
  obtain rfl := ri_12_13 hfo_1 hfo_68 (hfA12 o0 ko0 13 (by decide) (by decide))
  obtain rfl := ri_12_14 hfo_1 hfo_68 (hfA12 o0 ko0 14 (by decide) (by decide))
  obtain rfl := ri_12_23 hfo_1 hfo_68 (hfA12 o0 ko0 23 (by decide) (by decide))
  obtain rfl := ri_12_25 hfo_1 hfo_68 (hfA12 o0 ko0 25 (by decide) (by decide))
  obtain rfl := ri_12_27 hfo_1 hfo_68 (hfA12 o0 ko0 27 (by decide) (by decide))
  obtain rfl := ri_12_29 hfo_1 hfo_68 (hfA12 o0 ko0 29 (by decide) (by decide))
  obtain rfl := ri_12_32 hfo_1 hfo_68 (hfA12 o0 ko0 32 (by decide) (by decide))
  obtain rfl := ri_12_33 hfo_1 hfo_68 (hfA12 o0 ko0 33 (by decide) (by decide))
  obtain rfl := ri_12_35 hfo_1 hfo_68 (hfA12 o0 ko0 35 (by decide) (by decide))
  obtain rfl := ri_12_38 hfo_1 hfo_68 (hfA12 o0 ko0 38 (by decide) (by decide))
  obtain rfl := ri_12_43 hfo_1 hfo_68 (hfA12 o0 ko0 43 (by decide) (by decide))
  obtain rfl := ri_12_53 hfo_1 hfo_68 (hfA12 o0 ko0 53 (by decide) (by decide))
  have hqhpost_66 := hpost_66 v_7 v_74 (by rw [hfo_60]; rfl) (by rw [hfo_68]; rfl)
  refine lv_istore_n (lv' := [(1, .int x_61), (0, .ref o0)]) hx hb dX12_walk_9 rfl hl (by decide) rfl (fun ls hl => ?_)
  refine lv_iload_n hx hb dX12_walk_10 rfl (lv_at hl 0 rfl) ?_
  refine lv_iconst (v := (-1)) hx hb dX12_walk_11 (by decide) ?_
  refine lv_icmp_ne (tgt := 18) hx hb dX12_walk_12 (by decide) (fun c_125 => ?_) (fun c_125 => ?_)
  · skip
    rw [← Int32.toInt_inj, ti_m1] at c_125
    refine lv_iconst (v := 0) hx hb dX12_walk_18 (by decide) ?_
    refine lv_istore_n (lv' := [(2, .int 0), (1, .int x_61), (0, .ref o0)]) hx hb dX12_walk_19 rfl hl (by decide) rfl (fun ls hl => ?_)
    have hloop_139 : ∀ (n : Nat), ∀ (y_140 : Int32), (0 ≤ y_140.toInt ∧ y_140.toInt ≤ 8) → ∀ (f_142 : Nat → va_E), GI (okc cI cL cZ cR cG cH L kd) kd L f_142 → ∀ (H : Heap) (locs : List Loc), va_P (dC, dI) vwCl (va_pl L f_142) H → va_S (fun q => q ∈ L) s.heap H locs → va_D (fun q => q ∈ L) (va_pl L f_142) → (∀ b, kd b ≠ 12 → kd b ≠ 588 → f_142 b = f b) → (∀ b, kd b = 12 → ∀ j, fldR (f_142 b) j = fldR (f b) j) → (∀ b, kd b = 12 → ∀ j, j ≠ 5 → j ≠ 39 → fldI (f_142 b) j = fldI (f b) j) → 8 - y_140.toInt < (n : Int) → ∀ (ls : Array Slot), lv_has ls 4 [(2, .int y_140), (1, .int x_61), (0, .ref o0)] → W p l e (headSpec (wU yX12_walk cX12_walk 4 (some .int)) { frames := 6, cells := 0, slots := 0, locals := 157 }).room s m [.ref o0].toArray below meth c H locs 0 0 (MQ below (va_Qi (fun (r : Int32) (f9 : Nat → va_E) => GI (okc cI cL cZ cR cG cH L kd) kd L f9 ∧ ((-2147483648) ≤ r.toInt ∧ r.toInt ≤ 2147483647) ∧ (∀ b, kd b ≠ 12 → kd b ≠ 588 → f9 b = f b) ∧ (∀ b, kd b = 12 → ∀ j, fldR (f9 b) j = fldR (f b) j) ∧ (∀ b, kd b = 12 → ∀ j, j ≠ 5 → j ≠ 39 → fldI (f9 b) j = fldI (f b) j) ∧ (∀ (w5 z5 : Int32), fldI (f o0) 5 = some w5 → fldI (f9 o0) 5 = some z5 → z5.toInt = 0)) (qP (dC, dI) cI cL cZ cR cG cH L) (fun q => q ∈ L)) [.ref o0].toArray s 0 0 (fun q => q ∈ L)) (F0 m 20 ls []) := by
      intro n
      induction n with
      | zero => intro y_140 by_140 f_142 hG H locs hP hS hD hfr0 hrA12 hfA12 hmuhloop_139 ls hl; exfalso; omega
      | succ n ih_hloop_139 =>
        intro y_140 by_140 f_142 hG H locs hP hS hD hfr0 hrA12 hfA12 hmuhloop_139 ls hl
        refine lv_iload_n hx hb dX12_walk_20 rfl (lv_at hl 0 rfl) ?_
        refine lv_aload_n hx hb dX12_walk_21 rfl (lv_at hl 2 rfl) ?_
        obtain ⟨a_144, a_145, a_146, v_147, a_148, v_149, v_150, v_151, v_152, v_153, v_154, v_155, v_156, v_157, v_158, a_159, a_160, a_161, a_162, a_163, a_164, a_165, a_166, v_167, v_168, v_169, v_170, v_171, a_172, v_173, a_174, a_175, v_176, v_177, a_178, v_179, a_180, a_181, v_182, v_183, a_184, a_185, a_186, v_187, a_188, a_189, a_190, a_191, a_192, a_193, a_194, a_195, a_196, v_197, v_198, a_199, hfo_143, ⟨ma_144, ka_144⟩, ⟨ma_145, ka_145⟩, ⟨ma_146, ka_146⟩, bv_147, ⟨ma_148, ka_148⟩, bv_149, bv_150, bv_155, bv_156, bv_157, ⟨ma_159, ka_159⟩, ⟨ma_160, ka_160⟩, ⟨ma_161, ka_161⟩, ⟨ma_162, ka_162⟩, ⟨ma_163, ka_163⟩, ⟨ma_164, ka_164⟩, ⟨ma_165, ka_165⟩, ⟨ma_166, ka_166⟩, bv_167, bv_169, bv_171, ⟨ma_172, ka_172⟩, bv_173, ⟨ma_174, ka_174⟩, ⟨ma_175, ka_175⟩, bv_176, ⟨ma_178, ka_178⟩, bv_179, ⟨ma_180, ka_180⟩, ⟨ma_181, ka_181⟩, bv_182, ⟨ma_184, ka_184⟩, ⟨ma_185, ka_185⟩, ⟨ma_186, ka_186⟩, bv_187, ⟨ma_188, ka_188⟩, ⟨ma_189, ka_189⟩, ⟨ma_190, ka_190⟩, ⟨ma_191, ka_191⟩, ⟨ma_192, ka_192⟩, ⟨ma_193, ka_193⟩, ⟨ma_194, ka_194⟩, ⟨ma_195, ka_195⟩, ⟨ma_196, ka_196⟩, bv_197, ⟨ma_199, ka_199⟩⟩ := un_12 (hG _ mo0) ko0
        have bv_151 : ((-2147483648) ≤ v_151.toInt ∧ v_151.toInt ≤ 2147483647) := ⟨i32_lo _, i32_hi _⟩
        have bv_152 : ((-2147483648) ≤ v_152.toInt ∧ v_152.toInt ≤ 2147483647) := ⟨i32_lo _, i32_hi _⟩
        have bv_153 : ((-2147483648) ≤ v_153.toInt ∧ v_153.toInt ≤ 2147483647) := ⟨i32_lo _, i32_hi _⟩
        have bv_154 : ((-2147483648) ≤ v_154.toInt ∧ v_154.toInt ≤ 2147483647) := ⟨i32_lo _, i32_hi _⟩
        have bv_158 : ((-2147483648) ≤ v_158.toInt ∧ v_158.toInt ≤ 2147483647) := ⟨i32_lo _, i32_hi _⟩
        have bv_168 : ((-2147483648) ≤ v_168.toInt ∧ v_168.toInt ≤ 2147483647) := ⟨i32_lo _, i32_hi _⟩
        have bv_170 : ((-2147483648) ≤ v_170.toInt ∧ v_170.toInt ≤ 2147483647) := ⟨i32_lo _, i32_hi _⟩
        have bv_177 : ((-2147483648) ≤ v_177.toInt ∧ v_177.toInt ≤ 2147483647) := ⟨i32_lo _, i32_hi _⟩
        have bv_183 : ((-2147483648) ≤ v_183.toInt ∧ v_183.toInt ≤ 2147483647) := ⟨i32_lo _, i32_hi _⟩
        have bv_198 : ((-2147483648) ≤ v_198.toInt ∧ v_198.toInt ≤ 2147483647) := ⟨i32_lo _, i32_hi _⟩
        obtain ⟨rfl, rfl, rfl, rfl, rfl, rfl, rfl, rfl, rfl, rfl, rfl, rfl, rfl, rfl, rfl, rfl, rfl, rfl, rfl, rfl, rfl, rfl, rfl, rfl, rfl, rfl, rfl, rfl, rfl, rfl, rfl⟩ := re_12 hfo_1 hfo_143 (hrA12 o0 ko0)
        obtain rfl := ri_12_3 hfo_1 hfo_143 (hfA12 o0 ko0 3 (by decide) (by decide))
        obtain rfl := ri_12_6 hfo_1 hfo_143 (hfA12 o0 ko0 6 (by decide) (by decide))
        obtain rfl := ri_12_11 hfo_1 hfo_143 (hfA12 o0 ko0 11 (by decide) (by decide))
        obtain rfl := ri_12_12 hfo_1 hfo_143 (hfA12 o0 ko0 12 (by decide) (by decide))
        obtain rfl := ri_12_13 hfo_1 hfo_143 (hfA12 o0 ko0 13 (by decide) (by decide))
        obtain rfl := ri_12_14 hfo_1 hfo_143 (hfA12 o0 ko0 14 (by decide) (by decide))
        obtain rfl := ri_12_23 hfo_1 hfo_143 (hfA12 o0 ko0 23 (by decide) (by decide))
        obtain rfl := ri_12_25 hfo_1 hfo_143 (hfA12 o0 ko0 25 (by decide) (by decide))
        obtain rfl := ri_12_27 hfo_1 hfo_143 (hfA12 o0 ko0 27 (by decide) (by decide))
        obtain rfl := ri_12_29 hfo_1 hfo_143 (hfA12 o0 ko0 29 (by decide) (by decide))
        obtain rfl := ri_12_32 hfo_1 hfo_143 (hfA12 o0 ko0 32 (by decide) (by decide))
        obtain rfl := ri_12_33 hfo_1 hfo_143 (hfA12 o0 ko0 33 (by decide) (by decide))
        obtain rfl := ri_12_35 hfo_1 hfo_143 (hfA12 o0 ko0 35 (by decide) (by decide))
        obtain rfl := ri_12_38 hfo_1 hfo_143 (hfA12 o0 ko0 38 (by decide) (by decide))
        obtain rfl := ri_12_43 hfo_1 hfo_143 (hfA12 o0 ko0 43 (by decide) (by decide))
        obtain rfl := ri_12_53 hfo_1 hfo_143 (hfA12 o0 ko0 53 (by decide) (by decide))
        refine tk_getP (D := (dC, dI)) (ci := 12) (v := .ref a_2) (C := RX12) (T := TX12) (N := 56) hx hb hU inlX12 hown hK hP mo0 hfo_143 rfl 0 (by decide) (hU _ wd_169) (fun _ h9 => h9) rfl dX12_walk_22 ?_
        refine lv_bipush (v := 17) hx hb dX12_walk_25 (by decide) ?_
        obtain ⟨g_201, hfo_200, hbg_201⟩ := un_575 (hG _ ma_2) ka_2
        refine tk_ildP hx hb hK hP 0 ma_2 hfo_200 rfl (vp_in_nI (n := 17) (by decide) (by decide)) dX12_walk_27 ?_
        refine lv_topi (fun x_202 ex_202 => ?_)
        have bx_202 : (0 ≤ x_202.toInt ∧ x_202.toInt ≤ 8) := by rw [ex_202]; exact hbg_201.2.2.1 _ (by decide) (by decide) (by decide)
        refine lv_icmp_ge (tgt := 89) hx hb dX12_walk_28 (by decide) (fun c_203 => ?_) (fun c_203 => ?_)
        · skip
          rw [Int32.le_iff_toInt_le] at c_203
          refine lv_iconst (v := (-1)) hx hb dX12_walk_89 (by decide) ?_
          exact W.iret (v := (-1)) hx hb hr (fun t ht hW => ⟨⟨(-1), f_142, rfl, ⟨hG, (by decide), hfr0, hrA12, hfA12, (by intro w5 z5 e5 d5; rw [hfo_1] at e5; rw [hfo_143] at d5; obtain rfl := Option.some.inj e5; obtain rfl := Option.some.inj d5; (try rw [ti_m1]) <;> omega)⟩, by rw [ht]; exact hP, va_K.moved hW.alike hK, pl_in hD⟩, hS.F ht⟩) hS.2.2 dX12_walk_90
        · skip
          rw [Int32.le_iff_toInt_le] at c_203
          refine lv_iconst (v := 0) hx hb dX12_walk_31 (by decide) ?_
          refine lv_istore_n (lv' := [(3, .int 0), (2, .int y_140), (1, .int x_61), (0, .ref o0)]) hx hb dX12_walk_32 rfl hl (by decide) rfl (fun ls hl => ?_)
          have hloop_219 : ∀ (n : Nat), ∀ (y_220 : Int32), (0 ≤ y_220.toInt ∧ y_220.toInt ≤ 16) → ∀ (f_222 : Nat → va_E), GI (okc cI cL cZ cR cG cH L kd) kd L f_222 → ∀ (H : Heap) (locs : List Loc), va_P (dC, dI) vwCl (va_pl L f_222) H → va_S (fun q => q ∈ L) s.heap H locs → va_D (fun q => q ∈ L) (va_pl L f_222) → (∀ b, kd b ≠ 12 → kd b ≠ 588 → f_222 b = f b) → (∀ b, kd b = 12 → ∀ j, fldR (f_222 b) j = fldR (f b) j) → (∀ b, kd b = 12 → ∀ j, j ≠ 5 → j ≠ 39 → fldI (f_222 b) j = fldI (f b) j) → (f_222 a_2 = .inl (cI, 1560, .inl g_201)) → 16 - y_220.toInt < (n : Int) → ∀ (ls : Array Slot), lv_has ls 4 [(3, .int y_220), (2, .int y_140), (1, .int x_61), (0, .ref o0)] → W p l e (headSpec (wU yX12_walk cX12_walk 4 (some .int)) { frames := 6, cells := 0, slots := 0, locals := 157 }).room s m [.ref o0].toArray below meth c H locs 0 0 (MQ below (va_Qi (fun (r : Int32) (f9 : Nat → va_E) => GI (okc cI cL cZ cR cG cH L kd) kd L f9 ∧ ((-2147483648) ≤ r.toInt ∧ r.toInt ≤ 2147483647) ∧ (∀ b, kd b ≠ 12 → kd b ≠ 588 → f9 b = f b) ∧ (∀ b, kd b = 12 → ∀ j, fldR (f9 b) j = fldR (f b) j) ∧ (∀ b, kd b = 12 → ∀ j, j ≠ 5 → j ≠ 39 → fldI (f9 b) j = fldI (f b) j) ∧ (∀ (w5 z5 : Int32), fldI (f o0) 5 = some w5 → fldI (f9 o0) 5 = some z5 → z5.toInt = 0)) (qP (dC, dI) cI cL cZ cR cG cH L) (fun q => q ∈ L)) [.ref o0].toArray s 0 0 (fun q => q ∈ L)) (F0 m 33 ls []) := by
            intro n
            induction n with
            | zero => intro y_220 by_220 f_222 hG H locs hP hS hD hfr0 hrA12 hfA12 hfo_223 hmuhloop_219 ls hl; exfalso; omega
            | succ n ih_hloop_219 =>
              intro y_220 by_220 f_222 hG H locs hP hS hD hfr0 hrA12 hfA12 hfo_223 hmuhloop_219 ls hl
              refine lv_iload_n hx hb dX12_walk_33 rfl (lv_at hl 0 rfl) ?_
              refine lv_iload_n hx hb dX12_walk_34 rfl (lv_at hl 2 rfl) ?_
              refine lv_icmp_ge (tgt := 83) hx hb dX12_walk_35 (by decide) (fun c_224 => ?_) (fun c_224 => ?_)
              · skip
                rw [Int32.le_iff_toInt_le] at c_224
                obtain ⟨x_225, ex_225⟩ : ∃ y : Int32, y_140 + 1 = y := ⟨_, rfl⟩
                have hx_225 : x_225.toInt = y_140.toInt + 1 := by rw [← ex_225, ad_I (by rw [ti_1]; omega) (by rw [ti_1]; omega), ti_1]
                have bx_225 : (1 ≤ x_225.toInt ∧ x_225.toInt ≤ 8) := by constructor <;> omega
                refine lv_iinc (v := x_225) (lv' := [(2, .int x_225), (3, .int y_220), (1, .int x_61), (0, .ref o0)]) hx hb dX12_walk_83 hl (k := 1) rfl ex_225 (by decide) rfl (fun ls hl => ?_)
                refine lv_goto (tgt := 20) hx hb dX12_walk_86 (by decide) ?_
                exact ih_hloop_139 x_225 (by constructor <;> omega) f_222 hG _ _ hP hS hD hfr0 hrA12 hfA12 (by omega) ls (lv_sub hl [0, 2, 3] rfl)
              · skip
                rw [Int32.le_iff_toInt_le] at c_224
                refine lv_aload_n hx hb dX12_walk_38 rfl (lv_at hl 3 rfl) ?_
                obtain ⟨a_227, a_228, a_229, v_230, a_231, v_232, v_233, v_234, v_235, v_236, v_237, v_238, v_239, v_240, v_241, a_242, a_243, a_244, a_245, a_246, a_247, a_248, a_249, v_250, v_251, v_252, v_253, v_254, a_255, v_256, a_257, a_258, v_259, v_260, a_261, v_262, a_263, a_264, v_265, v_266, a_267, a_268, a_269, v_270, a_271, a_272, a_273, a_274, a_275, a_276, a_277, a_278, a_279, v_280, v_281, a_282, hfo_226, ⟨ma_227, ka_227⟩, ⟨ma_228, ka_228⟩, ⟨ma_229, ka_229⟩, bv_230, ⟨ma_231, ka_231⟩, bv_232, bv_233, bv_238, bv_239, bv_240, ⟨ma_242, ka_242⟩, ⟨ma_243, ka_243⟩, ⟨ma_244, ka_244⟩, ⟨ma_245, ka_245⟩, ⟨ma_246, ka_246⟩, ⟨ma_247, ka_247⟩, ⟨ma_248, ka_248⟩, ⟨ma_249, ka_249⟩, bv_250, bv_252, bv_254, ⟨ma_255, ka_255⟩, bv_256, ⟨ma_257, ka_257⟩, ⟨ma_258, ka_258⟩, bv_259, ⟨ma_261, ka_261⟩, bv_262, ⟨ma_263, ka_263⟩, ⟨ma_264, ka_264⟩, bv_265, ⟨ma_267, ka_267⟩, ⟨ma_268, ka_268⟩, ⟨ma_269, ka_269⟩, bv_270, ⟨ma_271, ka_271⟩, ⟨ma_272, ka_272⟩, ⟨ma_273, ka_273⟩, ⟨ma_274, ka_274⟩, ⟨ma_275, ka_275⟩, ⟨ma_276, ka_276⟩, ⟨ma_277, ka_277⟩, ⟨ma_278, ka_278⟩, ⟨ma_279, ka_279⟩, bv_280, ⟨ma_282, ka_282⟩⟩ := un_12 (hG _ mo0) ko0
                have bv_234 : ((-2147483648) ≤ v_234.toInt ∧ v_234.toInt ≤ 2147483647) := ⟨i32_lo _, i32_hi _⟩
                have bv_235 : ((-2147483648) ≤ v_235.toInt ∧ v_235.toInt ≤ 2147483647) := ⟨i32_lo _, i32_hi _⟩
                have bv_236 : ((-2147483648) ≤ v_236.toInt ∧ v_236.toInt ≤ 2147483647) := ⟨i32_lo _, i32_hi _⟩
                have bv_237 : ((-2147483648) ≤ v_237.toInt ∧ v_237.toInt ≤ 2147483647) := ⟨i32_lo _, i32_hi _⟩
                have bv_241 : ((-2147483648) ≤ v_241.toInt ∧ v_241.toInt ≤ 2147483647) := ⟨i32_lo _, i32_hi _⟩
                have bv_251 : ((-2147483648) ≤ v_251.toInt ∧ v_251.toInt ≤ 2147483647) := ⟨i32_lo _, i32_hi _⟩
                have bv_253 : ((-2147483648) ≤ v_253.toInt ∧ v_253.toInt ≤ 2147483647) := ⟨i32_lo _, i32_hi _⟩
                have bv_260 : ((-2147483648) ≤ v_260.toInt ∧ v_260.toInt ≤ 2147483647) := ⟨i32_lo _, i32_hi _⟩
                have bv_266 : ((-2147483648) ≤ v_266.toInt ∧ v_266.toInt ≤ 2147483647) := ⟨i32_lo _, i32_hi _⟩
                have bv_281 : ((-2147483648) ≤ v_281.toInt ∧ v_281.toInt ≤ 2147483647) := ⟨i32_lo _, i32_hi _⟩
                obtain ⟨rfl, rfl, rfl, rfl, rfl, rfl, rfl, rfl, rfl, rfl, rfl, rfl, rfl, rfl, rfl, rfl, rfl, rfl, rfl, rfl, rfl, rfl, rfl, rfl, rfl, rfl, rfl, rfl, rfl, rfl, rfl⟩ := re_12 hfo_1 hfo_226 (hrA12 o0 ko0)
                obtain rfl := ri_12_3 hfo_1 hfo_226 (hfA12 o0 ko0 3 (by decide) (by decide))
                obtain rfl := ri_12_6 hfo_1 hfo_226 (hfA12 o0 ko0 6 (by decide) (by decide))
                obtain rfl := ri_12_11 hfo_1 hfo_226 (hfA12 o0 ko0 11 (by decide) (by decide))
                obtain rfl := ri_12_12 hfo_1 hfo_226 (hfA12 o0 ko0 12 (by decide) (by decide))
                obtain rfl := ri_12_13 hfo_1 hfo_226 (hfA12 o0 ko0 13 (by decide) (by decide))
                obtain rfl := ri_12_14 hfo_1 hfo_226 (hfA12 o0 ko0 14 (by decide) (by decide))
                obtain rfl := ri_12_23 hfo_1 hfo_226 (hfA12 o0 ko0 23 (by decide) (by decide))
                obtain rfl := ri_12_25 hfo_1 hfo_226 (hfA12 o0 ko0 25 (by decide) (by decide))
                obtain rfl := ri_12_27 hfo_1 hfo_226 (hfA12 o0 ko0 27 (by decide) (by decide))
                obtain rfl := ri_12_29 hfo_1 hfo_226 (hfA12 o0 ko0 29 (by decide) (by decide))
                obtain rfl := ri_12_32 hfo_1 hfo_226 (hfA12 o0 ko0 32 (by decide) (by decide))
                obtain rfl := ri_12_33 hfo_1 hfo_226 (hfA12 o0 ko0 33 (by decide) (by decide))
                obtain rfl := ri_12_35 hfo_1 hfo_226 (hfA12 o0 ko0 35 (by decide) (by decide))
                obtain rfl := ri_12_38 hfo_1 hfo_226 (hfA12 o0 ko0 38 (by decide) (by decide))
                obtain rfl := ri_12_43 hfo_1 hfo_226 (hfA12 o0 ko0 43 (by decide) (by decide))
                obtain rfl := ri_12_53 hfo_1 hfo_226 (hfA12 o0 ko0 53 (by decide) (by decide))
                refine tk_getP (D := (dC, dI)) (ci := 12) (v := .ref a_2) (C := RX12) (T := TX12) (N := 56) hx hb hU inlX12 hown hK hP mo0 hfo_226 rfl 0 (by decide) (hU _ wd_169) (fun _ h9 => h9) rfl dX12_walk_39 ?_
                refine lv_bipush (v := 40) hx hb dX12_walk_42 (by decide) ?_
                refine tk_ildP hx hb hK hP 0 ma_2 hfo_223 rfl (vp_in_nI (n := 40) (by decide) (by decide)) dX12_walk_44 ?_
                refine lv_topi (fun x_283 ex_283 => ?_)
                have bx_283 : (0 ≤ x_283.toInt ∧ x_283.toInt ≤ 255) := by rw [ex_283]; exact hbg_201.2.2.2.2.2.2.1 _ (by decide) (by decide) (by decide)
                refine lv_iload_n hx hb dX12_walk_45 rfl (lv_at hl 1 rfl) ?_
                refine lv_ishr hx hb dX12_walk_46 ?_
                refine lv_topi (fun x_284 ex_284 => ?_)
                have bx_284 : ((-2147483648) ≤ x_284.toInt ∧ x_284.toInt ≤ 2147483647) := ⟨i32_lo _, i32_hi _⟩
                refine lv_iconst (v := 1) hx hb dX12_walk_47 (by decide) ?_
                refine lv_iand hx hb dX12_walk_48 ?_
                refine lv_topi (fun x_285 ex_285 => ?_)
                have bx_285 : (0 ≤ x_285.toInt ∧ x_285.toInt ≤ 1) := by rw [ex_285]; have h8 := an_C x_284 (m := 1) (by decide); rw [ti_1] at h8; exact h8
                refine lv_iconst (v := 1) hx hb dX12_walk_49 (by decide) ?_
                refine lv_icmp_ne (tgt := 83) hx hb dX12_walk_50 (by decide) (fun c_286 => ?_) (fun c_286 => ?_)
                · skip
                  rw [← Int32.toInt_inj, ti_1] at c_286
                  obtain ⟨x_287, ex_287⟩ : ∃ y : Int32, y_140 + 1 = y := ⟨_, rfl⟩
                  have hx_287 : x_287.toInt = y_140.toInt + 1 := by rw [← ex_287, ad_I (by rw [ti_1]; omega) (by rw [ti_1]; omega), ti_1]
                  have bx_287 : (1 ≤ x_287.toInt ∧ x_287.toInt ≤ 8) := by constructor <;> omega
                  refine lv_iinc (v := x_287) (lv' := [(2, .int x_287), (3, .int y_220), (1, .int x_61), (0, .ref o0)]) hx hb dX12_walk_83 hl (k := 1) rfl ex_287 (by decide) rfl (fun ls hl => ?_)
                  refine lv_goto (tgt := 20) hx hb dX12_walk_86 (by decide) ?_
                  exact ih_hloop_139 x_287 (by constructor <;> omega) f_222 hG _ _ hP hS hD hfr0 hrA12 hfA12 (by omega) ls (lv_sub hl [0, 2, 3] rfl)
                · skip
                  rw [← Int32.toInt_inj, ti_1] at c_286
                  refine lv_aload_n hx hb dX12_walk_53 rfl (lv_at hl 3 rfl) ?_
                  refine lv_iload_n hx hb dX12_walk_54 rfl (lv_at hl 1 rfl) ?_
                  refine lv_iload_n hx hb dX12_walk_55 rfl (lv_at hl 0 rfl) ?_
                  refine lv_aload_n hx hb dX12_walk_56 rfl (lv_at hl 3 rfl) ?_
                  refine tk_getP (D := (dC, dI)) (ci := 12) (v := .ref a_22) (C := RX12) (T := TX12) (N := 56) hx hb hU inlX12 hown hK hP mo0 hfo_226 rfl 20 (by decide) (hU _ wd_180) (fun _ h9 => h9) rfl dX12_walk_57 ?_
                  refine lv_iload_n hx hb dX12_walk_60 rfl (lv_at hl 2 rfl) ?_
                  refine tk_ViP (As := [.int y_140, .int y_220, .ref a_22, .int x_61]) (rest := []) (n := 4) hx hb hml hown hU hN hZ (s_X12_isBroken_k12_a588 l (dC, dI) cI cL cZ cR cG cH Z kd L f_222 hG o0 mo0 ko0 y_140 (by constructor <;> omega) y_220 (by constructor <;> omega) a_22 ma_22 ka_22 x_61 (by constructor <;> omega)) wd_930 wd_931 wd_932 wd_5 wd_933 (by decide +kernel) ⟨Nat.le_of_ble_eq_true rfl, Nat.le_of_ble_eq_true rfl⟩ hK hP hD hS mo0 hfo_226 12 rfl rfl rfl hl.1 rfl (Nat.le_of_ble_eq_true rfl) dX12_walk_61 ⟨Nat.le_of_ble_eq_true rfl, Nat.le_of_ble_eq_true rfl⟩ (fun x_288 f_289 H locs hw hP hD hS => ?_)
                  obtain ⟨rfl, bx_288⟩ := hw
                  refine lv_if_ne (tgt := 70) hx hb dX12_walk_64 (by decide) (fun c_291 => ?_) (fun c_291 => ?_)
                  · skip
                    rw [← Int32.toInt_inj, ti_0] at c_291
                    refine lv_aload_n hx hb dX12_walk_70 rfl (lv_at hl 3 rfl) ?_
                    refine lv_iload_n hx hb dX12_walk_71 rfl (lv_at hl 0 rfl) ?_
                    refine tk_putP (D := (dC, dI)) (ci := 12) (v := .int y_220) (ty := .int) (C := RX12) (T := TX12) (N := 56) hx hb hU inlX12 tyX12 tyX12_ok nmX12 hown hK hP hD hS mo0 hfo_226 rfl 39 (by decide) (hU _ wd_189) (fun _ h9 => h9) rfl (by decide +kernel) rfl rfl (Nat.le_of_ble_eq_true rfl) dX12_walk_72 (fun H locs hP hD hS => ?_)
                    obtain ⟨f_293, ef_293⟩ : ∃ y : Nat → va_E, y = va_up f_222 o0 (.inr (12, [.ref a_2, .ref a_3, .ref a_4, .int v_5, .ref a_6, .int v_232, .int v_8, .int v_234, .int v_235, .int v_236, .int v_237, .int v_13, .int v_14, .int v_15, .int v_16, .ref a_17, .ref a_18, .ref a_19, .ref a_20, .ref a_21, .ref a_22, .ref a_23, .ref a_24, .int v_25, .int v_251, .int v_27, .int v_253, .int v_29, .ref a_30, .int v_31, .ref a_32, .ref a_33, .int v_34, .int v_35, .ref a_36, .int v_37, .ref a_38, .ref a_39, .int v_40, .int y_220, .ref a_42, .ref a_43, .ref a_44, .int v_45, .ref a_46, .ref a_47, .ref a_48, .ref a_49, .ref a_50, .ref a_51, .ref a_52, .ref a_53, .ref a_54, .int v_55, .int v_281, .ref a_57])) := ⟨_, rfl⟩
                    have hP : va_P (dC, dI) vwCl (va_pl L f_293) H := by rw [ef_293]; exact hP
                    have hD : va_D (fun q => q ∈ L) (va_pl L f_293) := by rw [ef_293]; exact hD
                    have hG : GI (okc cI cL cZ cR cG cH L kd) kd L f_293 := by rw [ef_293]; exact hG.set o0 (mk_12 ko0 ⟨a_2, a_3, a_4, v_5, a_6, v_232, v_8, v_234, v_235, v_236, v_237, v_13, v_14, v_15, v_16, a_17, a_18, a_19, a_20, a_21, a_22, a_23, a_24, v_25, v_251, v_27, v_253, v_29, a_30, v_31, a_32, a_33, v_34, v_35, a_36, v_37, a_38, a_39, v_40, y_220, a_42, a_43, a_44, v_45, a_46, a_47, a_48, a_49, a_50, a_51, a_52, a_53, a_54, v_55, v_281, a_57, rfl, ⟨ma_2, ka_2⟩, ⟨ma_3, ka_3⟩, ⟨ma_4, ka_4⟩, (by constructor <;> omega), ⟨ma_6, ka_6⟩, (by constructor <;> omega), (by constructor <;> omega), (by constructor <;> omega), (by constructor <;> omega), (by constructor <;> omega), ⟨ma_17, ka_17⟩, ⟨ma_18, ka_18⟩, ⟨ma_19, ka_19⟩, ⟨ma_20, ka_20⟩, ⟨ma_21, ka_21⟩, ⟨ma_22, ka_22⟩, ⟨ma_23, ka_23⟩, ⟨ma_24, ka_24⟩, (by constructor <;> omega), (by constructor <;> omega), (by constructor <;> omega), ⟨ma_30, ka_30⟩, (by constructor <;> omega), ⟨ma_32, ka_32⟩, ⟨ma_33, ka_33⟩, (by constructor <;> omega), ⟨ma_36, ka_36⟩, (by constructor <;> omega), ⟨ma_38, ka_38⟩, ⟨ma_39, ka_39⟩, (by constructor <;> omega), ⟨ma_42, ka_42⟩, ⟨ma_43, ka_43⟩, ⟨ma_44, ka_44⟩, (by constructor <;> omega), ⟨ma_46, ka_46⟩, ⟨ma_47, ka_47⟩, ⟨ma_48, ka_48⟩, ⟨ma_49, ka_49⟩, ⟨ma_50, ka_50⟩, ⟨ma_51, ka_51⟩, ⟨ma_52, ka_52⟩, ⟨ma_53, ka_53⟩, ⟨ma_54, ka_54⟩, (by constructor <;> omega), ⟨ma_57, ka_57⟩⟩)
                    have hfo_294 : f_293 a_2 = .inl (cI, 1560, .inl g_201) := by rw [ef_293, up_ne (kd_ne ko0 ka_2 (by decide))]; exact hfo_223
                    have hfr0 : ∀ b, kd b ≠ 12 → kd b ≠ 588 → f_293 b = f b := fun b q12 q588 => (congrFun ef_293 b).trans ((up_ne (fun e9 => q12 (by rw [e9]; exact ko0))).trans (hfr0 b q12 q588))
                    have hrA12 : ∀ b, kd b = 12 → ∀ j, fldR (f_293 b) j = fldR (f b) j := fun b kb j => ((congrArg (fun x => fldR x j) (congrFun ef_293 b)).trans (fra_up (fun j => by rw [hfo_226]; exact fr_set (k := 39) rfl rfl j) j b)).trans (hrA12 b kb j)
                    have hfA12 : ∀ b, kd b = 12 → ∀ j, j ≠ 5 → j ≠ 39 → fldI (f_293 b) j = fldI (f b) j := fun b kb j n5 n39 => ((congrArg (fun x => fldI x j) (congrFun ef_293 b)).trans (fia_up (fun h9 => by rw [hfo_226]; exact fi_set (k := 39) rfl h9) n39 b)).trans (hfA12 b kb j n5 n39)
                    have hfo_295 : f_293 o0 = .inr (12, [.ref a_2, .ref a_3, .ref a_4, .int v_5, .ref a_6, .int v_232, .int v_8, .int v_234, .int v_235, .int v_236, .int v_237, .int v_13, .int v_14, .int v_15, .int v_16, .ref a_17, .ref a_18, .ref a_19, .ref a_20, .ref a_21, .ref a_22, .ref a_23, .ref a_24, .int v_25, .int v_251, .int v_27, .int v_253, .int v_29, .ref a_30, .int v_31, .ref a_32, .ref a_33, .int v_34, .int v_35, .ref a_36, .int v_37, .ref a_38, .ref a_39, .int v_40, .int y_220, .ref a_42, .ref a_43, .ref a_44, .int v_45, .ref a_46, .ref a_47, .ref a_48, .ref a_49, .ref a_50, .ref a_51, .ref a_52, .ref a_53, .ref a_54, .int v_55, .int v_281, .ref a_57]) := by rw [ef_293]; exact up_self
                    refine lv_iload_n hx hb dX12_walk_75 rfl (lv_at hl 1 rfl) ?_
                    exact W.iret (v := y_140) hx hb hr (fun t ht hW => ⟨⟨y_140, f_293, rfl, ⟨hG, (by constructor <;> omega), hfr0, hrA12, hfA12, (by intro w5 z5 e5 d5; rw [hfo_1] at e5; rw [hfo_295] at d5; obtain rfl := Option.some.inj e5; obtain rfl := Option.some.inj d5; omega)⟩, by rw [ht]; exact hP, va_K.moved hW.alike hK, pl_in hD⟩, hS.F ht⟩) hS.2.2 dX12_walk_76
                  · skip
                    rw [← Int32.toInt_inj, ti_0] at c_291
                    refine lv_goto (tgt := 77) hx hb dX12_walk_67 (by decide) ?_
                    obtain ⟨x_296, ex_296⟩ : ∃ y : Int32, y_220 + 1 = y := ⟨_, rfl⟩
                    have hx_296 : x_296.toInt = y_220.toInt + 1 := by rw [← ex_296, ad_I (by rw [ti_1]; omega) (by rw [ti_1]; omega), ti_1]
                    have bx_296 : (1 ≤ x_296.toInt ∧ x_296.toInt ≤ 16) := by constructor <;> omega
                    refine lv_iinc (v := x_296) (lv' := [(3, .int x_296), (2, .int y_140), (1, .int x_61), (0, .ref o0)]) hx hb dX12_walk_77 hl (k := 0) rfl ex_296 (by decide) rfl (fun ls hl => ?_)
                    refine lv_goto (tgt := 33) hx hb dX12_walk_80 (by decide) ?_
                    exact ih_hloop_219 x_296 (by constructor <;> omega) f_222 hG _ _ hP hS hD hfr0 hrA12 hfA12 hfo_223 (by omega) ls (lv_sub hl [0, 1, 2, 3] rfl)
          exact hloop_219 17 0 (by decide) f_142 hG _ _ hP hS hD hfr0 hrA12 hfA12 hfo_200 (by (try rw [ti_0]) <;> omega) ls hl
    exact hloop_139 9 0 (by decide) f_62 hG _ _ hP hS hD hfr0 hrA12 hfA12 (by (try rw [ti_0]) <;> omega) ls hl
  · skip
    rw [← Int32.toInt_inj, ti_m1] at c_125
    refine lv_bipush (v := (-2)) hx hb dX12_walk_15 (by decide) ?_
    exact W.iret (v := (-2)) hx hb hr (fun t ht hW => ⟨⟨(-2), f_62, rfl, ⟨hG, (by decide), hfr0, hrA12, hfA12, (by intro w5 z5 e5 d5; rw [hfo_1] at e5; rw [hfo_68] at d5; obtain rfl := Option.some.inj e5; obtain rfl := Option.some.inj d5; (try rw [ti_m2]) <;> omega)⟩, by rw [ht]; exact hP, va_K.moved hW.alike hK, pl_in hD⟩, hS.F ht⟩) hS.2.2 dX12_walk_17
set_option maxHeartbeats 8000000 in
set_option maxRecDepth 100000 in
theorem s_X12_where_k12 (l : Launch) (D : va_G) (cI cL cZ cR cG cH : ClassId) (Z : zT) (kd : Nat → Nat) (L : List Nat) (f : Nat → va_E) (hG : GI (okc cI cL cZ cR cG cH L kd) kd L f) (o0 : Nat) (mo0 : o0 ∈ L) (ko0 : kd o0 = 12) : mPI l D cI cL cZ cR cG cH Z yX12_where cX12_where 1 (some .int) 0 0 [.ref o0] L f (fun (r : Int32) (f9 : Nat → va_E) => f = f9 ∧ ((-2147483648) ≤ r.toInt ∧ r.toInt ≤ 2147483647)) := by
  obtain ⟨dC, dI⟩ := D
  refine Met.ofW (cc := cX12_where) (maxL := 1) (ret := (some .int)) (by decide) rfl ?_
  intro p e s m args below meth c s₁ B hml hv
  obtain ⟨rfl, hP, hK, hD0, hN, hZ⟩ := hv
  have hx := B.exec
  have hb := B.bytes
  have hr := B.returns
  have hU : ∀ w ∈ wsU, w.before _ s = true := fun w h => atoms_spec (ws := wU yX12_where cX12_where 1 (some .int)) B.pre w (List.mem_cons_of_mem _ h)
  have hown : s.vm.findClass RX12 = some m.cls := findClass_of_methodNamed B.named
  have hlocks := B.notSynchronized
  have hD := pl_in hD0
  have hS : va_S (fun q => q ∈ L) s.heap s.heap [] := va_S.rf
  have hl := lv_entry ([.ref o0]) (n := 1) (Nat.le_of_ble_eq_true rfl)
  rw [lg_entry_eq]
  generalize (lg_sl ([.ref o0]) ++ List.replicate (1 - (lg_sl ([.ref o0])).length) Slot.unset).toArray = ls at hl ⊢
  have hl : lv_has ls 1 [(0, .ref o0)] := hl
  refine lv_aload_n hx hb dX12_where_0 rfl (lv_at hl 0 rfl) ?_
  obtain ⟨a_2, a_3, a_4, v_5, a_6, v_7, v_8, v_9, v_10, v_11, v_12, v_13, v_14, v_15, v_16, a_17, a_18, a_19, a_20, a_21, a_22, a_23, a_24, v_25, v_26, v_27, v_28, v_29, a_30, v_31, a_32, a_33, v_34, v_35, a_36, v_37, a_38, a_39, v_40, v_41, a_42, a_43, a_44, v_45, a_46, a_47, a_48, a_49, a_50, a_51, a_52, a_53, a_54, v_55, v_56, a_57, hfo_1, ⟨ma_2, ka_2⟩, ⟨ma_3, ka_3⟩, ⟨ma_4, ka_4⟩, bv_5, ⟨ma_6, ka_6⟩, bv_7, bv_8, bv_13, bv_14, bv_15, ⟨ma_17, ka_17⟩, ⟨ma_18, ka_18⟩, ⟨ma_19, ka_19⟩, ⟨ma_20, ka_20⟩, ⟨ma_21, ka_21⟩, ⟨ma_22, ka_22⟩, ⟨ma_23, ka_23⟩, ⟨ma_24, ka_24⟩, bv_25, bv_27, bv_29, ⟨ma_30, ka_30⟩, bv_31, ⟨ma_32, ka_32⟩, ⟨ma_33, ka_33⟩, bv_34, ⟨ma_36, ka_36⟩, bv_37, ⟨ma_38, ka_38⟩, ⟨ma_39, ka_39⟩, bv_40, ⟨ma_42, ka_42⟩, ⟨ma_43, ka_43⟩, ⟨ma_44, ka_44⟩, bv_45, ⟨ma_46, ka_46⟩, ⟨ma_47, ka_47⟩, ⟨ma_48, ka_48⟩, ⟨ma_49, ka_49⟩, ⟨ma_50, ka_50⟩, ⟨ma_51, ka_51⟩, ⟨ma_52, ka_52⟩, ⟨ma_53, ka_53⟩, ⟨ma_54, ka_54⟩, bv_55, ⟨ma_57, ka_57⟩⟩ := un_12 (hG _ mo0) ko0
  have bv_9 : ((-2147483648) ≤ v_9.toInt ∧ v_9.toInt ≤ 2147483647) := ⟨i32_lo _, i32_hi _⟩
  have bv_10 : ((-2147483648) ≤ v_10.toInt ∧ v_10.toInt ≤ 2147483647) := ⟨i32_lo _, i32_hi _⟩
  have bv_11 : ((-2147483648) ≤ v_11.toInt ∧ v_11.toInt ≤ 2147483647) := ⟨i32_lo _, i32_hi _⟩
  have bv_12 : ((-2147483648) ≤ v_12.toInt ∧ v_12.toInt ≤ 2147483647) := ⟨i32_lo _, i32_hi _⟩
  have bv_16 : ((-2147483648) ≤ v_16.toInt ∧ v_16.toInt ≤ 2147483647) := ⟨i32_lo _, i32_hi _⟩
  have bv_26 : ((-2147483648) ≤ v_26.toInt ∧ v_26.toInt ≤ 2147483647) := ⟨i32_lo _, i32_hi _⟩
  have bv_28 : ((-2147483648) ≤ v_28.toInt ∧ v_28.toInt ≤ 2147483647) := ⟨i32_lo _, i32_hi _⟩
  have bv_35 : ((-2147483648) ≤ v_35.toInt ∧ v_35.toInt ≤ 2147483647) := ⟨i32_lo _, i32_hi _⟩
  have bv_41 : ((-2147483648) ≤ v_41.toInt ∧ v_41.toInt ≤ 2147483647) := ⟨i32_lo _, i32_hi _⟩
  have bv_56 : ((-2147483648) ≤ v_56.toInt ∧ v_56.toInt ≤ 2147483647) := ⟨i32_lo _, i32_hi _⟩
  refine tk_getP (D := (dC, dI)) (ci := 12) (v := .int v_41) (C := RX12) (T := TX12) (N := 56) hx hb hU inlX12 hown hK hP mo0 hfo_1 rfl 39 (by decide) (hU _ wd_189) (fun _ h9 => h9) rfl dX12_where_1 ?_
  exact W.iret (v := v_41) hx hb hr (fun t ht hW => ⟨⟨v_41, f, rfl, ⟨rfl, (by constructor <;> omega)⟩, by rw [ht]; exact hP, va_K.moved hW.alike hK, pl_in hD⟩, hS.F ht⟩) hS.2.2 dX12_where_4
set_option maxHeartbeats 8000000 in
set_option maxRecDepth 100000 in
theorem s_X12_age_k12 (l : Launch) (D : va_G) (cI cL cZ cR cG cH : ClassId) (Z : zT) (kd : Nat → Nat) (L : List Nat) (f : Nat → va_E) (hG : GI (okc cI cL cZ cR cG cH L kd) kd L f) (o0 : Nat) (mo0 : o0 ∈ L) (ko0 : kd o0 = 12) (p1 : Int32) (bp1 : (0 ≤ p1.toInt ∧ p1.toInt ≤ 7)) : mPV l D cI cL cZ cR cG cH Z yX12_age cX12_age 5 none 5 128 [.ref o0, .int p1] L f (fun (f9 : Nat → va_E) => GI (okc cI cL cZ cR cG cH L kd) kd L f9 ∧ (∀ b, kd b ≠ 12 → kd b ≠ 597 → kd b ≠ 598 → kd b ≠ 599 → f9 b = f b) ∧ (∀ b, kd b = 12 → ∀ j, fldR (f9 b) j = fldR (f b) j) ∧ (∀ b, kd b = 12 → ∀ j, j ≠ 43 → fldI (f9 b) j = fldI (f b) j) ∧ (∀ (w43 z43 : Int32), fldI (f o0) 43 = some w43 → fldI (f9 o0) 43 = some z43 → z43.toInt ≤ w43.toInt)) := by
  obtain ⟨dC, dI⟩ := D
  refine Met.ofW (cc := cX12_age) (maxL := 5) (ret := none) (by decide) rfl ?_
  intro p e s m args below meth c s₁ B hml hv
  obtain ⟨rfl, hP, hK, hD0, hN, hZ⟩ := hv
  have hx := B.exec
  have hb := B.bytes
  have hr := B.returns
  have hU : ∀ w ∈ wsU, w.before _ s = true := fun w h => atoms_spec (ws := wU yX12_age cX12_age 5 none) B.pre w (List.mem_cons_of_mem _ h)
  have hown : s.vm.findClass RX12 = some m.cls := findClass_of_methodNamed B.named
  have hlocks := B.notSynchronized
  have hD := pl_in hD0
  have hS : va_S (fun q => q ∈ L) s.heap s.heap [] := va_S.rf
  have hl := lv_entry ([.ref o0, .int p1]) (n := 5) (Nat.le_of_ble_eq_true rfl)
  rw [lg_entry_eq]
  generalize (lg_sl ([.ref o0, .int p1]) ++ List.replicate (5 - (lg_sl ([.ref o0, .int p1])).length) Slot.unset).toArray = ls at hl ⊢
  have hl : lv_has ls 5 [(0, .ref o0), (1, .int p1)] := hl
  have hfr0 : ∀ b, kd b ≠ 12 → kd b ≠ 597 → kd b ≠ 598 → kd b ≠ 599 → f b = f b := fun _ _ _ _ _ => rfl
  have hrA12 : ∀ b, kd b = 12 → ∀ j, fldR (f b) j = fldR (f b) j := fun _ _ _ => rfl
  have hfA12 : ∀ b, kd b = 12 → ∀ j, j ≠ 43 → fldI (f b) j = fldI (f b) j := fun _ _ _ _ => rfl
  obtain ⟨a_2, a_3, a_4, v_5, a_6, v_7, v_8, v_9, v_10, v_11, v_12, v_13, v_14, v_15, v_16, a_17, a_18, a_19, a_20, a_21, a_22, a_23, a_24, v_25, v_26, v_27, v_28, v_29, a_30, v_31, a_32, a_33, v_34, v_35, a_36, v_37, a_38, a_39, v_40, v_41, a_42, a_43, a_44, v_45, a_46, a_47, a_48, a_49, a_50, a_51, a_52, a_53, a_54, v_55, v_56, a_57, hfo_1, ⟨ma_2, ka_2⟩, ⟨ma_3, ka_3⟩, ⟨ma_4, ka_4⟩, bv_5, ⟨ma_6, ka_6⟩, bv_7, bv_8, bv_13, bv_14, bv_15, ⟨ma_17, ka_17⟩, ⟨ma_18, ka_18⟩, ⟨ma_19, ka_19⟩, ⟨ma_20, ka_20⟩, ⟨ma_21, ka_21⟩, ⟨ma_22, ka_22⟩, ⟨ma_23, ka_23⟩, ⟨ma_24, ka_24⟩, bv_25, bv_27, bv_29, ⟨ma_30, ka_30⟩, bv_31, ⟨ma_32, ka_32⟩, ⟨ma_33, ka_33⟩, bv_34, ⟨ma_36, ka_36⟩, bv_37, ⟨ma_38, ka_38⟩, ⟨ma_39, ka_39⟩, bv_40, ⟨ma_42, ka_42⟩, ⟨ma_43, ka_43⟩, ⟨ma_44, ka_44⟩, bv_45, ⟨ma_46, ka_46⟩, ⟨ma_47, ka_47⟩, ⟨ma_48, ka_48⟩, ⟨ma_49, ka_49⟩, ⟨ma_50, ka_50⟩, ⟨ma_51, ka_51⟩, ⟨ma_52, ka_52⟩, ⟨ma_53, ka_53⟩, ⟨ma_54, ka_54⟩, bv_55, ⟨ma_57, ka_57⟩⟩ := un_12 (hG _ mo0) ko0
  have bv_9 : ((-2147483648) ≤ v_9.toInt ∧ v_9.toInt ≤ 2147483647) := ⟨i32_lo _, i32_hi _⟩
  have bv_10 : ((-2147483648) ≤ v_10.toInt ∧ v_10.toInt ≤ 2147483647) := ⟨i32_lo _, i32_hi _⟩
  have bv_11 : ((-2147483648) ≤ v_11.toInt ∧ v_11.toInt ≤ 2147483647) := ⟨i32_lo _, i32_hi _⟩
  have bv_12 : ((-2147483648) ≤ v_12.toInt ∧ v_12.toInt ≤ 2147483647) := ⟨i32_lo _, i32_hi _⟩
  have bv_16 : ((-2147483648) ≤ v_16.toInt ∧ v_16.toInt ≤ 2147483647) := ⟨i32_lo _, i32_hi _⟩
  have bv_26 : ((-2147483648) ≤ v_26.toInt ∧ v_26.toInt ≤ 2147483647) := ⟨i32_lo _, i32_hi _⟩
  have bv_28 : ((-2147483648) ≤ v_28.toInt ∧ v_28.toInt ≤ 2147483647) := ⟨i32_lo _, i32_hi _⟩
  have bv_35 : ((-2147483648) ≤ v_35.toInt ∧ v_35.toInt ≤ 2147483647) := ⟨i32_lo _, i32_hi _⟩
  have bv_41 : ((-2147483648) ≤ v_41.toInt ∧ v_41.toInt ≤ 2147483647) := ⟨i32_lo _, i32_hi _⟩
  have bv_56 : ((-2147483648) ≤ v_56.toInt ∧ v_56.toInt ≤ 2147483647) := ⟨i32_lo _, i32_hi _⟩
  refine lv_aload_n hx hb dX12_age_0 rfl (lv_at hl 0 rfl) ?_
  refine lv_iload_n hx hb dX12_age_1 rfl (lv_at hl 1 rfl) ?_
  refine lv_iconst (v := 2) hx hb dX12_age_2 (by decide) ?_
  refine tk_ViP (As := [.int p1, .int 2]) (rest := []) (n := 2) hx hb hml hown hU hN hZ (s_X12_ofRule_k12_c2_2 l (dC, dI) cI cL cZ cR cG cH Z kd L f hG o0 mo0 ko0 p1 (by constructor <;> omega)) wd_894 wd_895 wd_896 wd_5 wd_897 (by decide +kernel) ⟨Nat.le_of_ble_eq_true rfl, Nat.le_of_ble_eq_true rfl⟩ hK hP hD hS mo0 hfo_1 12 rfl rfl rfl hl.1 rfl (Nat.le_of_ble_eq_true rfl) dX12_age_3 ⟨Nat.le_of_ble_eq_true rfl, Nat.le_of_ble_eq_true rfl⟩ (fun x_58 f_59 H locs hw hP hD hS => ?_)
  obtain ⟨rfl, bx_58⟩ := hw
  refine lv_iconst (v := 3) hx hb dX12_age_6 (by decide) ?_
  refine lv_icmp_eq (tgt := 19) hx hb dX12_age_7 (by decide) (fun c_61 => ?_) (fun c_61 => ?_)
  · skip
    rw [← Int32.toInt_inj, ti_3] at c_61
    exact W.vret hx hb hr (fun t ht hW => ⟨⟨f, rfl, ⟨hG, hfr0, hrA12, hfA12, (by intro w43 z43 e43 d43; rw [hfo_1] at e43; rw [hfo_1] at d43; obtain rfl := Option.some.inj e43; obtain rfl := Option.some.inj d43; omega)⟩, by rw [ht]; exact hP, va_K.moved hW.alike hK, pl_in hD⟩, hS.F ht⟩) hS.2.2 dX12_age_19
  · skip
    rw [← Int32.toInt_inj, ti_3] at c_61
    refine lv_aload_n hx hb dX12_age_10 rfl (lv_at hl 0 rfl) ?_
    refine lv_iload_n hx hb dX12_age_11 rfl (lv_at hl 1 rfl) ?_
    refine lv_iconst (v := 0) hx hb dX12_age_12 (by decide) ?_
    refine tk_ViP (As := [.int p1, .int 0]) (rest := []) (n := 2) hx hb hml hown hU hN hZ (s_X12_ofRule_k12 l (dC, dI) cI cL cZ cR cG cH Z kd L f hG o0 mo0 ko0 p1 (by constructor <;> omega) 0 (by decide)) wd_894 wd_895 wd_896 wd_5 wd_897 (by decide +kernel) ⟨Nat.le_of_ble_eq_true rfl, Nat.le_of_ble_eq_true rfl⟩ hK hP hD hS mo0 hfo_1 12 rfl rfl rfl hl.1 rfl (Nat.le_of_ble_eq_true rfl) dX12_age_13 ⟨Nat.le_of_ble_eq_true rfl, Nat.le_of_ble_eq_true rfl⟩ (fun x_62 f_63 H locs hw hP hD hS => ?_)
    obtain ⟨rfl, bx_62⟩ := hw
    refine lv_if_ne (tgt := 20) hx hb dX12_age_16 (by decide) (fun c_65 => ?_) (fun c_65 => ?_)
    · skip
      rw [← Int32.toInt_inj, ti_0] at c_65
      refine lv_iconst (v := 0) hx hb dX12_age_20 (by decide) ?_
      refine lv_istore_n (lv' := [(2, .int 0), (0, .ref o0), (1, .int p1)]) hx hb dX12_age_21 rfl hl (by decide) rfl (fun ls hl => ?_)
      have hloop_81 : ∀ (n : Nat), ∀ (y_82 : Int32), (0 ≤ y_82.toInt ∧ y_82.toInt ≤ 8) → ∀ (f_84 : Nat → va_E), GI (okc cI cL cZ cR cG cH L kd) kd L f_84 → ∀ (H : Heap) (locs : List Loc), va_P (dC, dI) vwCl (va_pl L f_84) H → va_S (fun q => q ∈ L) s.heap H locs → va_D (fun q => q ∈ L) (va_pl L f_84) → (∀ b, kd b ≠ 12 → kd b ≠ 597 → kd b ≠ 598 → kd b ≠ 599 → f_84 b = f b) → (∀ b, kd b = 12 → ∀ j, fldR (f_84 b) j = fldR (f b) j) → (∀ b, kd b = 12 → ∀ j, j ≠ 43 → fldI (f_84 b) j = fldI (f b) j) → (f_84 o0 = .inr (12, [.ref a_2, .ref a_3, .ref a_4, .int v_5, .ref a_6, .int v_7, .int v_8, .int v_9, .int v_10, .int v_11, .int v_12, .int v_13, .int v_14, .int v_15, .int v_16, .ref a_17, .ref a_18, .ref a_19, .ref a_20, .ref a_21, .ref a_22, .ref a_23, .ref a_24, .int v_25, .int v_26, .int v_27, .int v_28, .int v_29, .ref a_30, .int v_31, .ref a_32, .ref a_33, .int v_34, .int v_35, .ref a_36, .int v_37, .ref a_38, .ref a_39, .int v_40, .int v_41, .ref a_42, .ref a_43, .ref a_44, .int v_45, .ref a_46, .ref a_47, .ref a_48, .ref a_49, .ref a_50, .ref a_51, .ref a_52, .ref a_53, .ref a_54, .int v_55, .int v_56, .ref a_57])) → 8 - y_82.toInt < (n : Int) → ∀ (ls : Array Slot), lv_has ls 5 [(2, .int y_82), (0, .ref o0), (1, .int p1)] → W p l e (headSpec (wU yX12_age cX12_age 5 none) { frames := 5, cells := 0, slots := 0, locals := 128 }).room s m [.ref o0, .int p1].toArray below meth c H locs 0 0 (MQ below (va_Qv (fun (f9 : Nat → va_E) => GI (okc cI cL cZ cR cG cH L kd) kd L f9 ∧ (∀ b, kd b ≠ 12 → kd b ≠ 597 → kd b ≠ 598 → kd b ≠ 599 → f9 b = f b) ∧ (∀ b, kd b = 12 → ∀ j, fldR (f9 b) j = fldR (f b) j) ∧ (∀ b, kd b = 12 → ∀ j, j ≠ 43 → fldI (f9 b) j = fldI (f b) j) ∧ (∀ (w43 z43 : Int32), fldI (f o0) 43 = some w43 → fldI (f9 o0) 43 = some z43 → z43.toInt ≤ w43.toInt)) (qP (dC, dI) cI cL cZ cR cG cH L) (fun q => q ∈ L)) [.ref o0, .int p1].toArray s 0 0 (fun q => q ∈ L)) (F0 m 22 ls []) := by
        intro n
        induction n with
        | zero => intro y_82 by_82 f_84 hG H locs hP hS hD hfr0 hrA12 hfA12 hfo_85 hmuhloop_81 ls hl; exfalso; omega
        | succ n ih_hloop_81 =>
          intro y_82 by_82 f_84 hG H locs hP hS hD hfr0 hrA12 hfA12 hfo_85 hmuhloop_81 ls hl
          refine lv_iload_n hx hb dX12_age_22 rfl (lv_at hl 0 rfl) ?_
          refine lv_aload_n hx hb dX12_age_23 rfl (lv_at hl 1 rfl) ?_
          refine tk_getP (D := (dC, dI)) (ci := 12) (v := .int v_45) (C := RX12) (T := TX12) (N := 56) hx hb hU inlX12 hown hK hP mo0 hfo_85 rfl 43 (by decide) (hU _ wd_572) (fun _ h9 => h9) rfl dX12_age_24 ?_
          refine lv_icmp_ge (tgt := 51) hx hb dX12_age_27 (by decide) (fun c_86 => ?_) (fun c_86 => ?_)
          · skip
            rw [Int32.le_iff_toInt_le] at c_86
            refine lv_iconst (v := 0) hx hb dX12_age_51 (by decide) ?_
            refine lv_istore_n (lv' := [(2, .int 0), (0, .ref o0), (1, .int p1)]) hx hb dX12_age_52 rfl hl (by decide) rfl (fun ls hl => ?_)
            refine lv_iconst (v := 0) hx hb dX12_age_53 (by decide) ?_
            refine lv_istore_n (lv' := [(3, .int 0), (2, .int 0), (0, .ref o0), (1, .int p1)]) hx hb dX12_age_54 rfl hl (by decide) rfl (fun ls hl => ?_)
            have hloop_93 : ∀ (n : Nat), ∀ (y_94 : Int32), (0 ≤ y_94.toInt ∧ y_94.toInt ≤ 8) → ∀ (y_95 : Int32), (0 ≤ y_95.toInt ∧ y_95.toInt ≤ 8) → ∀ (f_97 : Nat → va_E), GI (okc cI cL cZ cR cG cH L kd) kd L f_97 → ∀ (H : Heap) (locs : List Loc), va_P (dC, dI) vwCl (va_pl L f_97) H → va_S (fun q => q ∈ L) s.heap H locs → va_D (fun q => q ∈ L) (va_pl L f_97) → (∀ b, kd b ≠ 12 → kd b ≠ 597 → kd b ≠ 598 → kd b ≠ 599 → f_97 b = f b) → (∀ b, kd b = 12 → ∀ j, fldR (f_97 b) j = fldR (f b) j) → (∀ b, kd b = 12 → ∀ j, j ≠ 43 → fldI (f_97 b) j = fldI (f b) j) → (f_97 o0 = .inr (12, [.ref a_2, .ref a_3, .ref a_4, .int v_5, .ref a_6, .int v_7, .int v_8, .int v_9, .int v_10, .int v_11, .int v_12, .int v_13, .int v_14, .int v_15, .int v_16, .ref a_17, .ref a_18, .ref a_19, .ref a_20, .ref a_21, .ref a_22, .ref a_23, .ref a_24, .int v_25, .int v_26, .int v_27, .int v_28, .int v_29, .ref a_30, .int v_31, .ref a_32, .ref a_33, .int v_34, .int v_35, .ref a_36, .int v_37, .ref a_38, .ref a_39, .int v_40, .int v_41, .ref a_42, .ref a_43, .ref a_44, .int v_45, .ref a_46, .ref a_47, .ref a_48, .ref a_49, .ref a_50, .ref a_51, .ref a_52, .ref a_53, .ref a_54, .int v_55, .int v_56, .ref a_57])) → (y_95.toInt ≤ y_94.toInt ∧ y_94.toInt ≤ v_45.toInt) → 8 - y_94.toInt < (n : Int) → ∀ (ls : Array Slot), lv_has ls 5 [(3, .int y_94), (2, .int y_95), (0, .ref o0), (1, .int p1)] → W p l e (headSpec (wU yX12_age cX12_age 5 none) { frames := 5, cells := 0, slots := 0, locals := 128 }).room s m [.ref o0, .int p1].toArray below meth c H locs 0 0 (MQ below (va_Qv (fun (f9 : Nat → va_E) => GI (okc cI cL cZ cR cG cH L kd) kd L f9 ∧ (∀ b, kd b ≠ 12 → kd b ≠ 597 → kd b ≠ 598 → kd b ≠ 599 → f9 b = f b) ∧ (∀ b, kd b = 12 → ∀ j, fldR (f9 b) j = fldR (f b) j) ∧ (∀ b, kd b = 12 → ∀ j, j ≠ 43 → fldI (f9 b) j = fldI (f b) j) ∧ (∀ (w43 z43 : Int32), fldI (f o0) 43 = some w43 → fldI (f9 o0) 43 = some z43 → z43.toInt ≤ w43.toInt)) (qP (dC, dI) cI cL cZ cR cG cH L) (fun q => q ∈ L)) [.ref o0, .int p1].toArray s 0 0 (fun q => q ∈ L)) (F0 m 55 ls []) := by
              intro n
              induction n with
              | zero => intro y_94 by_94 y_95 by_95 f_97 hG H locs hP hS hD hfr0 hrA12 hfA12 hfo_98 hrelhloop_93_0 hmuhloop_93 ls hl; exfalso; omega
              | succ n ih_hloop_93 =>
                intro y_94 by_94 y_95 by_95 f_97 hG H locs hP hS hD hfr0 hrA12 hfA12 hfo_98 hrelhloop_93_0 hmuhloop_93 ls hl
                refine lv_iload_n hx hb dX12_age_55 rfl (lv_at hl 0 rfl) ?_
                refine lv_aload_n hx hb dX12_age_56 rfl (lv_at hl 2 rfl) ?_
                refine tk_getP (D := (dC, dI)) (ci := 12) (v := .int v_45) (C := RX12) (T := TX12) (N := 56) hx hb hU inlX12 hown hK hP mo0 hfo_98 rfl 43 (by decide) (hU _ wd_572) (fun _ h9 => h9) rfl dX12_age_57 ?_
                refine lv_icmp_ge (tgt := 137) hx hb dX12_age_60 (by decide) (fun c_99 => ?_) (fun c_99 => ?_)
                · skip
                  rw [Int32.le_iff_toInt_le] at c_99
                  refine lv_aload_n hx hb dX12_age_137 rfl (lv_at hl 2 rfl) ?_
                  refine lv_iload_n hx hb dX12_age_138 rfl (lv_at hl 1 rfl) ?_
                  refine tk_putP (D := (dC, dI)) (ci := 12) (v := .int y_95) (ty := .int) (C := RX12) (T := TX12) (N := 56) hx hb hU inlX12 tyX12 tyX12_ok nmX12 hown hK hP hD hS mo0 hfo_98 rfl 43 (by decide) (hU _ wd_572) (fun _ h9 => h9) rfl (by decide +kernel) rfl rfl (Nat.le_of_ble_eq_true rfl) dX12_age_139 (fun H locs hP hD hS => ?_)
                  obtain ⟨f_101, ef_101⟩ : ∃ y : Nat → va_E, y = va_up f_97 o0 (.inr (12, [.ref a_2, .ref a_3, .ref a_4, .int v_5, .ref a_6, .int v_7, .int v_8, .int v_9, .int v_10, .int v_11, .int v_12, .int v_13, .int v_14, .int v_15, .int v_16, .ref a_17, .ref a_18, .ref a_19, .ref a_20, .ref a_21, .ref a_22, .ref a_23, .ref a_24, .int v_25, .int v_26, .int v_27, .int v_28, .int v_29, .ref a_30, .int v_31, .ref a_32, .ref a_33, .int v_34, .int v_35, .ref a_36, .int v_37, .ref a_38, .ref a_39, .int v_40, .int v_41, .ref a_42, .ref a_43, .ref a_44, .int y_95, .ref a_46, .ref a_47, .ref a_48, .ref a_49, .ref a_50, .ref a_51, .ref a_52, .ref a_53, .ref a_54, .int v_55, .int v_56, .ref a_57])) := ⟨_, rfl⟩
                  have hP : va_P (dC, dI) vwCl (va_pl L f_101) H := by rw [ef_101]; exact hP
                  have hD : va_D (fun q => q ∈ L) (va_pl L f_101) := by rw [ef_101]; exact hD
                  have hG : GI (okc cI cL cZ cR cG cH L kd) kd L f_101 := by rw [ef_101]; exact hG.set o0 (mk_12 ko0 ⟨a_2, a_3, a_4, v_5, a_6, v_7, v_8, v_9, v_10, v_11, v_12, v_13, v_14, v_15, v_16, a_17, a_18, a_19, a_20, a_21, a_22, a_23, a_24, v_25, v_26, v_27, v_28, v_29, a_30, v_31, a_32, a_33, v_34, v_35, a_36, v_37, a_38, a_39, v_40, v_41, a_42, a_43, a_44, y_95, a_46, a_47, a_48, a_49, a_50, a_51, a_52, a_53, a_54, v_55, v_56, a_57, rfl, ⟨ma_2, ka_2⟩, ⟨ma_3, ka_3⟩, ⟨ma_4, ka_4⟩, (by constructor <;> omega), ⟨ma_6, ka_6⟩, (by constructor <;> omega), (by constructor <;> omega), (by constructor <;> omega), (by constructor <;> omega), (by constructor <;> omega), ⟨ma_17, ka_17⟩, ⟨ma_18, ka_18⟩, ⟨ma_19, ka_19⟩, ⟨ma_20, ka_20⟩, ⟨ma_21, ka_21⟩, ⟨ma_22, ka_22⟩, ⟨ma_23, ka_23⟩, ⟨ma_24, ka_24⟩, (by constructor <;> omega), (by constructor <;> omega), (by constructor <;> omega), ⟨ma_30, ka_30⟩, (by constructor <;> omega), ⟨ma_32, ka_32⟩, ⟨ma_33, ka_33⟩, (by constructor <;> omega), ⟨ma_36, ka_36⟩, (by constructor <;> omega), ⟨ma_38, ka_38⟩, ⟨ma_39, ka_39⟩, (by constructor <;> omega), ⟨ma_42, ka_42⟩, ⟨ma_43, ka_43⟩, ⟨ma_44, ka_44⟩, (by constructor <;> omega), ⟨ma_46, ka_46⟩, ⟨ma_47, ka_47⟩, ⟨ma_48, ka_48⟩, ⟨ma_49, ka_49⟩, ⟨ma_50, ka_50⟩, ⟨ma_51, ka_51⟩, ⟨ma_52, ka_52⟩, ⟨ma_53, ka_53⟩, ⟨ma_54, ka_54⟩, (by constructor <;> omega), ⟨ma_57, ka_57⟩⟩)
                  have hfr0 : ∀ b, kd b ≠ 12 → kd b ≠ 597 → kd b ≠ 598 → kd b ≠ 599 → f_101 b = f b := fun b q12 q597 q598 q599 => (congrFun ef_101 b).trans ((up_ne (fun e9 => q12 (by rw [e9]; exact ko0))).trans (hfr0 b q12 q597 q598 q599))
                  have hrA12 : ∀ b, kd b = 12 → ∀ j, fldR (f_101 b) j = fldR (f b) j := fun b kb j => ((congrArg (fun x => fldR x j) (congrFun ef_101 b)).trans (fra_up (fun j => by rw [hfo_98]; exact fr_set (k := 43) rfl rfl j) j b)).trans (hrA12 b kb j)
                  have hfA12 : ∀ b, kd b = 12 → ∀ j, j ≠ 43 → fldI (f_101 b) j = fldI (f b) j := fun b kb j n43 => ((congrArg (fun x => fldI x j) (congrFun ef_101 b)).trans (fia_up (fun h9 => by rw [hfo_98]; exact fi_set (k := 43) rfl h9) n43 b)).trans (hfA12 b kb j n43)
                  have hfo_102 : f_101 o0 = .inr (12, [.ref a_2, .ref a_3, .ref a_4, .int v_5, .ref a_6, .int v_7, .int v_8, .int v_9, .int v_10, .int v_11, .int v_12, .int v_13, .int v_14, .int v_15, .int v_16, .ref a_17, .ref a_18, .ref a_19, .ref a_20, .ref a_21, .ref a_22, .ref a_23, .ref a_24, .int v_25, .int v_26, .int v_27, .int v_28, .int v_29, .ref a_30, .int v_31, .ref a_32, .ref a_33, .int v_34, .int v_35, .ref a_36, .int v_37, .ref a_38, .ref a_39, .int v_40, .int v_41, .ref a_42, .ref a_43, .ref a_44, .int y_95, .ref a_46, .ref a_47, .ref a_48, .ref a_49, .ref a_50, .ref a_51, .ref a_52, .ref a_53, .ref a_54, .int v_55, .int v_56, .ref a_57]) := by rw [ef_101]; exact up_self
                  refine lv_iconst (v := 0) hx hb dX12_age_142 (by decide) ?_
                  refine lv_istore_n (lv' := [(3, .int 0), (2, .int y_95), (0, .ref o0), (1, .int p1)]) hx hb dX12_age_143 rfl hl (by decide) rfl (fun ls hl => ?_)
                  have hloop_118 : ∀ (n : Nat), ∀ (y_119 : Int32), (0 ≤ y_119.toInt ∧ y_119.toInt ≤ 8) → ∀ (f_121 : Nat → va_E), GI (okc cI cL cZ cR cG cH L kd) kd L f_121 → ∀ (H : Heap) (locs : List Loc), va_P (dC, dI) vwCl (va_pl L f_121) H → va_S (fun q => q ∈ L) s.heap H locs → va_D (fun q => q ∈ L) (va_pl L f_121) → (∀ b, kd b ≠ 12 → kd b ≠ 597 → kd b ≠ 598 → kd b ≠ 599 → f_121 b = f b) → (∀ b, kd b = 12 → ∀ j, fldR (f_121 b) j = fldR (f b) j) → (∀ b, kd b = 12 → ∀ j, j ≠ 43 → fldI (f_121 b) j = fldI (f b) j) → (f_121 o0 = .inr (12, [.ref a_2, .ref a_3, .ref a_4, .int v_5, .ref a_6, .int v_7, .int v_8, .int v_9, .int v_10, .int v_11, .int v_12, .int v_13, .int v_14, .int v_15, .int v_16, .ref a_17, .ref a_18, .ref a_19, .ref a_20, .ref a_21, .ref a_22, .ref a_23, .ref a_24, .int v_25, .int v_26, .int v_27, .int v_28, .int v_29, .ref a_30, .int v_31, .ref a_32, .ref a_33, .int v_34, .int v_35, .ref a_36, .int v_37, .ref a_38, .ref a_39, .int v_40, .int v_41, .ref a_42, .ref a_43, .ref a_44, .int y_95, .ref a_46, .ref a_47, .ref a_48, .ref a_49, .ref a_50, .ref a_51, .ref a_52, .ref a_53, .ref a_54, .int v_55, .int v_56, .ref a_57])) → 8 - y_119.toInt < (n : Int) → ∀ (ls : Array Slot), lv_has ls 5 [(3, .int y_119), (2, .int y_95), (0, .ref o0), (1, .int p1)] → W p l e (headSpec (wU yX12_age cX12_age 5 none) { frames := 5, cells := 0, slots := 0, locals := 128 }).room s m [.ref o0, .int p1].toArray below meth c H locs 0 0 (MQ below (va_Qv (fun (f9 : Nat → va_E) => GI (okc cI cL cZ cR cG cH L kd) kd L f9 ∧ (∀ b, kd b ≠ 12 → kd b ≠ 597 → kd b ≠ 598 → kd b ≠ 599 → f9 b = f b) ∧ (∀ b, kd b = 12 → ∀ j, fldR (f9 b) j = fldR (f b) j) ∧ (∀ b, kd b = 12 → ∀ j, j ≠ 43 → fldI (f9 b) j = fldI (f b) j) ∧ (∀ (w43 z43 : Int32), fldI (f o0) 43 = some w43 → fldI (f9 o0) 43 = some z43 → z43.toInt ≤ w43.toInt)) (qP (dC, dI) cI cL cZ cR cG cH L) (fun q => q ∈ L)) [.ref o0, .int p1].toArray s 0 0 (fun q => q ∈ L)) (F0 m 144 ls []) := by
                    intro n
                    induction n with
                    | zero => intro y_119 by_119 f_121 hG H locs hP hS hD hfr0 hrA12 hfA12 hfo_122 hmuhloop_118 ls hl; exfalso; omega
                    | succ n ih_hloop_118 =>
                      intro y_119 by_119 f_121 hG H locs hP hS hD hfr0 hrA12 hfA12 hfo_122 hmuhloop_118 ls hl
                      refine lv_iload_n hx hb dX12_age_144 rfl (lv_at hl 0 rfl) ?_
                      refine lv_iload_n hx hb dX12_age_145 rfl (lv_at hl 1 rfl) ?_
                      refine lv_icmp_ge (tgt := 167) hx hb dX12_age_146 (by decide) (fun c_123 => ?_) (fun c_123 => ?_)
                      · skip
                        rw [Int32.le_iff_toInt_le] at c_123
                        exact W.vret hx hb hr (fun t ht hW => ⟨⟨f_121, rfl, ⟨hG, hfr0, hrA12, hfA12, (by intro w43 z43 e43 d43; rw [hfo_1] at e43; rw [hfo_122] at d43; obtain rfl := Option.some.inj e43; obtain rfl := Option.some.inj d43; omega)⟩, by rw [ht]; exact hP, va_K.moved hW.alike hK, pl_in hD⟩, hS.F ht⟩) hS.2.2 dX12_age_167
                      · skip
                        rw [Int32.le_iff_toInt_le] at c_123
                        refine lv_aload_n hx hb dX12_age_149 rfl (lv_at hl 2 rfl) ?_
                        refine tk_getP (D := (dC, dI)) (ci := 12) (v := .ref a_42) (C := RX12) (T := TX12) (N := 56) hx hb hU inlX12 hown hK hP mo0 hfo_122 rfl 40 (by decide) (hU _ wd_190) (fun _ h9 => h9) rfl dX12_age_150 ?_
                        refine lv_iload_n hx hb dX12_age_153 rfl (lv_at hl 0 rfl) ?_
                        refine lv_aload_n hx hb dX12_age_154 rfl (lv_at hl 2 rfl) ?_
                        refine tk_getP (D := (dC, dI)) (ci := 12) (v := .ref a_44) (C := RX12) (T := TX12) (N := 56) hx hb hU inlX12 hown hK hP mo0 hfo_122 rfl 42 (by decide) (hU _ wd_192) (fun _ h9 => h9) rfl dX12_age_155 ?_
                        refine lv_iload_n hx hb dX12_age_158 rfl (lv_at hl 0 rfl) ?_
                        obtain ⟨g_125, hfo_124, hbg_125⟩ := un_599 (hG _ ma_44) ka_44
                        refine tk_ildP hx hb hK hP 0 ma_44 hfo_124 rfl (vp_in_iff.mpr (by constructor <;> omega)) dX12_age_159 ?_
                        refine lv_topi (fun x_126 ex_126 => ?_)
                        have bx_126 : (0 ≤ x_126.toInt ∧ x_126.toInt ≤ 8) := by rw [ex_126]; exact hbg_125 _
                        obtain ⟨g_128, hfo_127, hbg_128⟩ := un_597 (hG _ ma_42) ka_42
                        refine tk_istP hx hb hK hP hD hS 0 ma_42 hfo_127 rfl (vp_in_iff.mpr (by constructor <;> omega)) dX12_age_160 (fun H locs hP hD hS => ?_)
                        obtain ⟨f_130, ef_130⟩ : ∃ y : Nat → va_E, y = va_up f_121 a_42 (.inl (cI, 16, .inl (upd g_128 (Int32.toNatClampNeg y_119) x_126))) := ⟨_, rfl⟩
                        have hP : va_P (dC, dI) vwCl (va_pl L f_130) H := by rw [ef_130]; exact hP
                        have hD : va_D (fun q => q ∈ L) (va_pl L f_130) := by rw [ef_130]; exact hD
                        have hG : GI (okc cI cL cZ cR cG cH L kd) kd L f_130 := by rw [ef_130]; exact hG.set a_42 (mk_597 ka_42 ⟨_, rfl, okI_up hbg_128 (by constructor <;> omega) _⟩)
                        have hfo_131 : f_130 o0 = .inr (12, [.ref a_2, .ref a_3, .ref a_4, .int v_5, .ref a_6, .int v_7, .int v_8, .int v_9, .int v_10, .int v_11, .int v_12, .int v_13, .int v_14, .int v_15, .int v_16, .ref a_17, .ref a_18, .ref a_19, .ref a_20, .ref a_21, .ref a_22, .ref a_23, .ref a_24, .int v_25, .int v_26, .int v_27, .int v_28, .int v_29, .ref a_30, .int v_31, .ref a_32, .ref a_33, .int v_34, .int v_35, .ref a_36, .int v_37, .ref a_38, .ref a_39, .int v_40, .int v_41, .ref a_42, .ref a_43, .ref a_44, .int y_95, .ref a_46, .ref a_47, .ref a_48, .ref a_49, .ref a_50, .ref a_51, .ref a_52, .ref a_53, .ref a_54, .int v_55, .int v_56, .ref a_57]) := by rw [ef_130, up_ne (kd_ne ka_42 ko0 (by decide))]; exact hfo_122
                        have hfo_132 : f_130 a_44 = .inl (cI, 16, .inl g_125) := by rw [ef_130, up_ne (kd_ne ka_42 ka_44 (by decide))]; exact hfo_124
                        have hfr0 : ∀ b, kd b ≠ 12 → kd b ≠ 597 → kd b ≠ 598 → kd b ≠ 599 → f_130 b = f b := fun b q12 q597 q598 q599 => (congrFun ef_130 b).trans ((up_ne (fun e9 => q597 (by rw [e9]; exact ka_42))).trans (hfr0 b q12 q597 q598 q599))
                        have hrA12 : ∀ b, kd b = 12 → ∀ j, fldR (f_130 b) j = fldR (f b) j := fun b kb j => (congrArg (fun x => fldR x j) ((congrFun ef_130 b).trans (up_ne (kd_ne ka_42 kb (by decide))))).trans (hrA12 b kb j)
                        have hfA12 : ∀ b, kd b = 12 → ∀ j, j ≠ 43 → fldI (f_130 b) j = fldI (f b) j := fun b kb j n43 => (congrArg (fun x => fldI x j) ((congrFun ef_130 b).trans (up_ne (kd_ne ka_42 kb (by decide))))).trans (hfA12 b kb j n43)
                        have hfo_133 : f_130 a_42 = .inl (cI, 16, .inl (upd g_128 (Int32.toNatClampNeg y_119) x_126)) := by rw [ef_130]; exact up_self
                        obtain ⟨x_134, ex_134⟩ : ∃ y : Int32, y_119 + 1 = y := ⟨_, rfl⟩
                        have hx_134 : x_134.toInt = y_119.toInt + 1 := by rw [← ex_134, ad_I (by rw [ti_1]; omega) (by rw [ti_1]; omega), ti_1]
                        have bx_134 : (1 ≤ x_134.toInt ∧ x_134.toInt ≤ 8) := by constructor <;> omega
                        refine lv_iinc (v := x_134) (lv' := [(3, .int x_134), (2, .int y_95), (0, .ref o0), (1, .int p1)]) hx hb dX12_age_161 hl (k := 0) rfl ex_134 (by decide) rfl (fun ls hl => ?_)
                        refine lv_goto (tgt := 144) hx hb dX12_age_164 (by decide) ?_
                        exact ih_hloop_118 x_134 (by constructor <;> omega) f_130 hG _ _ hP hS hD hfr0 hrA12 hfA12 hfo_131 (by omega) ls (lv_sub hl [0, 1, 2, 3] rfl)
                  exact hloop_118 9 0 (by decide) f_101 hG _ _ hP hS hD hfr0 hrA12 hfA12 hfo_102 (by (try rw [ti_0]) <;> omega) ls hl
                · skip
                  rw [Int32.le_iff_toInt_le] at c_99
                  refine lv_aload_n hx hb dX12_age_63 rfl (lv_at hl 2 rfl) ?_
                  refine tk_getP (D := (dC, dI)) (ci := 12) (v := .ref a_42) (C := RX12) (T := TX12) (N := 56) hx hb hU inlX12 hown hK hP mo0 hfo_98 rfl 40 (by decide) (hU _ wd_190) (fun _ h9 => h9) rfl dX12_age_64 ?_
                  refine lv_iload_n hx hb dX12_age_67 rfl (lv_at hl 0 rfl) ?_
                  obtain ⟨g_136, hfo_135, hbg_136⟩ := un_597 (hG _ ma_42) ka_42
                  refine tk_ildP hx hb hK hP 0 ma_42 hfo_135 rfl (vp_in_iff.mpr (by constructor <;> omega)) dX12_age_68 ?_
                  refine lv_topi (fun x_137 ex_137 => ?_)
                  have bx_137 : (0 ≤ x_137.toInt ∧ x_137.toInt ≤ 8) := by rw [ex_137]; exact hbg_136 _
                  refine lv_aload_n hx hb dX12_age_69 rfl (lv_at hl 2 rfl) ?_
                  refine lv_iload_n hx hb dX12_age_70 rfl (lv_at hl 3 rfl) ?_
                  refine lv_iconst (v := 0) hx hb dX12_age_71 (by decide) ?_
                  refine tk_ViP (As := [.int p1, .int 0]) (rest := [.int x_137]) (n := 2) hx hb hml hown hU hN hZ (s_X12_ofRule_k12 l (dC, dI) cI cL cZ cR cG cH Z kd L f_97 hG o0 mo0 ko0 p1 (by constructor <;> omega) 0 (by decide)) wd_894 wd_895 wd_896 wd_5 wd_897 (by decide +kernel) ⟨Nat.le_of_ble_eq_true rfl, Nat.le_of_ble_eq_true rfl⟩ hK hP hD hS mo0 hfo_98 12 rfl rfl rfl hl.1 rfl (Nat.le_of_ble_eq_true rfl) dX12_age_72 ⟨Nat.le_of_ble_eq_true rfl, Nat.le_of_ble_eq_true rfl⟩ (fun x_138 f_139 H locs hw hP hD hS => ?_)
                  obtain ⟨rfl, bx_138⟩ := hw
                  have hcut_143 : ∀ (y_141 : Int32), (0 ≤ y_141.toInt ∧ y_141.toInt ≤ 8) → ∀ (H : Heap) (locs : List Loc), va_P (dC, dI) vwCl (va_pl L f_97) H → va_S (fun q => q ∈ L) s.heap H locs → ∀ (ls : Array Slot), lv_has ls 5 [(3, .int y_94), (2, .int y_95), (0, .ref o0), (1, .int p1)] → W p l e (headSpec (wU yX12_age cX12_age 5 none) { frames := 5, cells := 0, slots := 0, locals := 128 }).room s m [.ref o0, .int p1].toArray below meth c H locs 0 0 (MQ below (va_Qv (fun (f9 : Nat → va_E) => GI (okc cI cL cZ cR cG cH L kd) kd L f9 ∧ (∀ b, kd b ≠ 12 → kd b ≠ 597 → kd b ≠ 598 → kd b ≠ 599 → f9 b = f b) ∧ (∀ b, kd b = 12 → ∀ j, fldR (f9 b) j = fldR (f b) j) ∧ (∀ b, kd b = 12 → ∀ j, j ≠ 43 → fldI (f9 b) j = fldI (f b) j) ∧ (∀ (w43 z43 : Int32), fldI (f o0) 43 = some w43 → fldI (f9 o0) 43 = some z43 → z43.toInt ≤ w43.toInt)) (qP (dC, dI) cI cL cZ cR cG cH L) (fun q => q ∈ L)) [.ref o0, .int p1].toArray s 0 0 (fun q => q ∈ L)) (F0 m 110 ls [.int y_141]) := by
                    intro y_141 by_141 H locs hP hS ls hl
                    refine lv_istore (lv' := [(4, .int y_141), (3, .int y_94), (2, .int y_95), (0, .ref o0), (1, .int p1)]) hx hb dX12_age_110 hl (by decide) rfl (fun ls hl => ?_)
                    refine lv_iload hx hb dX12_age_112 (lv_at hl 0 rfl) ?_
                    have hcut_149 : ∀ (y_144 : Int32), (0 ≤ y_144.toInt ∧ y_144.toInt ≤ 9) → ∀ (f_146 : Nat → va_E), GI (okc cI cL cZ cR cG cH L kd) kd L f_146 → ∀ (H : Heap) (locs : List Loc), va_P (dC, dI) vwCl (va_pl L f_146) H → va_S (fun q => q ∈ L) s.heap H locs → va_D (fun q => q ∈ L) (va_pl L f_146) → (∀ b, kd b ≠ 12 → kd b ≠ 597 → kd b ≠ 598 → kd b ≠ 599 → f_146 b = f b) → (∀ b, kd b = 12 → ∀ j, fldR (f_146 b) j = fldR (f b) j) → (∀ b, kd b = 12 → ∀ j, j ≠ 43 → fldI (f_146 b) j = fldI (f b) j) → (f_146 o0 = .inr (12, [.ref a_2, .ref a_3, .ref a_4, .int v_5, .ref a_6, .int v_7, .int v_8, .int v_9, .int v_10, .int v_11, .int v_12, .int v_13, .int v_14, .int v_15, .int v_16, .ref a_17, .ref a_18, .ref a_19, .ref a_20, .ref a_21, .ref a_22, .ref a_23, .ref a_24, .int v_25, .int v_26, .int v_27, .int v_28, .int v_29, .ref a_30, .int v_31, .ref a_32, .ref a_33, .int v_34, .int v_35, .ref a_36, .int v_37, .ref a_38, .ref a_39, .int v_40, .int v_41, .ref a_42, .ref a_43, .ref a_44, .int v_45, .ref a_46, .ref a_47, .ref a_48, .ref a_49, .ref a_50, .ref a_51, .ref a_52, .ref a_53, .ref a_54, .int v_55, .int v_56, .ref a_57])) → (f_146 a_42 = .inl (cI, 16, .inl g_136)) → (y_144.toInt ≤ y_94.toInt + 1) → ∀ (ls : Array Slot), lv_has ls 5 [(2, .int y_144), (4, .int y_141), (3, .int y_94), (0, .ref o0), (1, .int p1)] → W p l e (headSpec (wU yX12_age cX12_age 5 none) { frames := 5, cells := 0, slots := 0, locals := 128 }).room s m [.ref o0, .int p1].toArray below meth c H locs 0 0 (MQ below (va_Qv (fun (f9 : Nat → va_E) => GI (okc cI cL cZ cR cG cH L kd) kd L f9 ∧ (∀ b, kd b ≠ 12 → kd b ≠ 597 → kd b ≠ 598 → kd b ≠ 599 → f9 b = f b) ∧ (∀ b, kd b = 12 → ∀ j, fldR (f9 b) j = fldR (f b) j) ∧ (∀ b, kd b = 12 → ∀ j, j ≠ 43 → fldI (f9 b) j = fldI (f b) j) ∧ (∀ (w43 z43 : Int32), fldI (f o0) 43 = some w43 → fldI (f9 o0) 43 = some z43 → z43.toInt ≤ w43.toInt)) (qP (dC, dI) cI cL cZ cR cG cH L) (fun q => q ∈ L)) [.ref o0, .int p1].toArray s 0 0 (fun q => q ∈ L)) (F0 m 131 ls []) := by
                      intro y_144 by_144 f_146 hG H locs hP hS hD hfr0 hrA12 hfA12 hfo_147 hfo_148 hjhcut_149_0 ls hl
                      obtain ⟨x_150, ex_150⟩ : ∃ y : Int32, y_94 + 1 = y := ⟨_, rfl⟩
                      have hx_150 : x_150.toInt = y_94.toInt + 1 := by rw [← ex_150, ad_I (by rw [ti_1]; omega) (by rw [ti_1]; omega), ti_1]
                      have bx_150 : (1 ≤ x_150.toInt ∧ x_150.toInt ≤ 8) := by constructor <;> omega
                      refine lv_iinc (v := x_150) (lv' := [(3, .int x_150), (2, .int y_144), (4, .int y_141), (0, .ref o0), (1, .int p1)]) hx hb dX12_age_131 hl (k := 2) rfl ex_150 (by decide) rfl (fun ls hl => ?_)
                      refine lv_goto (tgt := 55) hx hb dX12_age_134 (by decide) ?_
                      exact ih_hloop_93 x_150 (by constructor <;> omega) y_144 (by constructor <;> omega) f_146 hG _ _ hP hS hD hfr0 hrA12 hfA12 hfo_147 (by omega) (by omega) ls (lv_sub hl [0, 1, 3, 4] rfl)
                    refine lv_if_ne (tgt := 120) hx hb dX12_age_114 (by decide) (fun c_151 => ?_) (fun c_151 => ?_)
                    · skip
                      rw [← Int32.toInt_inj, ti_0] at c_151
                      refine lv_aload_n hx hb dX12_age_120 rfl (lv_at hl 3 rfl) ?_
                      refine tk_getP (D := (dC, dI)) (ci := 12) (v := .ref a_44) (C := RX12) (T := TX12) (N := 56) hx hb hU inlX12 hown hK hP mo0 hfo_98 rfl 42 (by decide) (hU _ wd_192) (fun _ h9 => h9) rfl dX12_age_121 ?_
                      refine lv_iload_n hx hb dX12_age_124 rfl (lv_at hl 2 rfl) ?_
                      refine lv_iload hx hb dX12_age_125 (lv_at hl 0 rfl) ?_
                      obtain ⟨g_153, hfo_152, hbg_153⟩ := un_599 (hG _ ma_44) ka_44
                      refine tk_istP hx hb hK hP hD hS 0 ma_44 hfo_152 rfl (vp_in_iff.mpr (by constructor <;> omega)) dX12_age_127 (fun H locs hP hD hS => ?_)
                      obtain ⟨f_155, ef_155⟩ : ∃ y : Nat → va_E, y = va_up f_97 a_44 (.inl (cI, 16, .inl (upd g_153 (Int32.toNatClampNeg y_95) y_141))) := ⟨_, rfl⟩
                      have hP : va_P (dC, dI) vwCl (va_pl L f_155) H := by rw [ef_155]; exact hP
                      have hD : va_D (fun q => q ∈ L) (va_pl L f_155) := by rw [ef_155]; exact hD
                      have hG : GI (okc cI cL cZ cR cG cH L kd) kd L f_155 := by rw [ef_155]; exact hG.set a_44 (mk_599 ka_44 ⟨_, rfl, okI_up hbg_153 (by constructor <;> omega) _⟩)
                      have hfo_156 : f_155 o0 = .inr (12, [.ref a_2, .ref a_3, .ref a_4, .int v_5, .ref a_6, .int v_7, .int v_8, .int v_9, .int v_10, .int v_11, .int v_12, .int v_13, .int v_14, .int v_15, .int v_16, .ref a_17, .ref a_18, .ref a_19, .ref a_20, .ref a_21, .ref a_22, .ref a_23, .ref a_24, .int v_25, .int v_26, .int v_27, .int v_28, .int v_29, .ref a_30, .int v_31, .ref a_32, .ref a_33, .int v_34, .int v_35, .ref a_36, .int v_37, .ref a_38, .ref a_39, .int v_40, .int v_41, .ref a_42, .ref a_43, .ref a_44, .int v_45, .ref a_46, .ref a_47, .ref a_48, .ref a_49, .ref a_50, .ref a_51, .ref a_52, .ref a_53, .ref a_54, .int v_55, .int v_56, .ref a_57]) := by rw [ef_155, up_ne (kd_ne ka_44 ko0 (by decide))]; exact hfo_98
                      have hfo_157 : f_155 a_42 = .inl (cI, 16, .inl g_136) := by rw [ef_155, up_ne (kd_ne ka_44 ka_42 (by decide))]; exact hfo_135
                      have hfr0 : ∀ b, kd b ≠ 12 → kd b ≠ 597 → kd b ≠ 598 → kd b ≠ 599 → f_155 b = f b := fun b q12 q597 q598 q599 => (congrFun ef_155 b).trans ((up_ne (fun e9 => q599 (by rw [e9]; exact ka_44))).trans (hfr0 b q12 q597 q598 q599))
                      have hrA12 : ∀ b, kd b = 12 → ∀ j, fldR (f_155 b) j = fldR (f b) j := fun b kb j => (congrArg (fun x => fldR x j) ((congrFun ef_155 b).trans (up_ne (kd_ne ka_44 kb (by decide))))).trans (hrA12 b kb j)
                      have hfA12 : ∀ b, kd b = 12 → ∀ j, j ≠ 43 → fldI (f_155 b) j = fldI (f b) j := fun b kb j n43 => (congrArg (fun x => fldI x j) ((congrFun ef_155 b).trans (up_ne (kd_ne ka_44 kb (by decide))))).trans (hfA12 b kb j n43)
                      have hfo_158 : f_155 a_44 = .inl (cI, 16, .inl (upd g_153 (Int32.toNatClampNeg y_95) y_141)) := by rw [ef_155]; exact up_self
                      obtain ⟨x_159, ex_159⟩ : ∃ y : Int32, y_95 + 1 = y := ⟨_, rfl⟩
                      have hx_159 : x_159.toInt = y_95.toInt + 1 := by rw [← ex_159, ad_I (by rw [ti_1]; omega) (by rw [ti_1]; omega), ti_1]
                      have bx_159 : (1 ≤ x_159.toInt ∧ x_159.toInt ≤ 9) := by constructor <;> omega
                      refine lv_iinc (v := x_159) (lv' := [(2, .int x_159), (4, .int y_141), (3, .int y_94), (0, .ref o0), (1, .int p1)]) hx hb dX12_age_128 hl (k := 2) rfl ex_159 (by decide) rfl (fun ls hl => ?_)
                      exact hcut_149 x_159 (by constructor <;> omega) f_155 hG _ _ hP hS hD hfr0 hrA12 hfA12 hfo_156 hfo_157 (by omega) ls (lv_sub hl [0, 1, 2, 3, 4] rfl)
                    · skip
                      rw [← Int32.toInt_inj, ti_0] at c_151
                      refine lv_goto (tgt := 131) hx hb dX12_age_117 (by decide) ?_
                      exact hcut_149 y_95 (by constructor <;> omega) f_97 hG _ _ hP hS hD hfr0 hrA12 hfA12 hfo_98 hfo_135 (by omega) ls (lv_sub hl [2, 0, 1, 3, 4] rfl)
                  refine lv_icmp_ne (tgt := 104) hx hb dX12_age_75 (by decide) (fun c_160 => ?_) (fun c_160 => ?_)
                  · skip
                    rw [← Int32.toInt_inj] at c_160
                    refine lv_aload_n hx hb dX12_age_104 rfl (lv_at hl 2 rfl) ?_
                    refine tk_getP (D := (dC, dI)) (ci := 12) (v := .ref a_42) (C := RX12) (T := TX12) (N := 56) hx hb hU inlX12 hown hK hP mo0 hfo_98 rfl 40 (by decide) (hU _ wd_190) (fun _ h9 => h9) rfl dX12_age_105 ?_
                    refine lv_iload_n hx hb dX12_age_108 rfl (lv_at hl 0 rfl) ?_
                    refine tk_ildP hx hb hK hP 0 ma_42 hfo_135 rfl (vp_in_iff.mpr (by constructor <;> omega)) dX12_age_109 ?_
                    refine tk_topi (y := x_137) ex_137.symm ?_
                    exact hcut_143 x_137 (by constructor <;> omega) _ _ hP hS ls (lv_sub hl [0, 1, 2, 3] rfl)
                  · skip
                    rw [← Int32.toInt_inj] at c_160
                    refine lv_aload_n hx hb dX12_age_78 rfl (lv_at hl 2 rfl) ?_
                    refine lv_iload_n hx hb dX12_age_79 rfl (lv_at hl 3 rfl) ?_
                    refine lv_iload_n hx hb dX12_age_80 rfl (lv_at hl 0 rfl) ?_
                    refine lv_aload_n hx hb dX12_age_81 rfl (lv_at hl 2 rfl) ?_
                    refine tk_getP (D := (dC, dI)) (ci := 12) (v := .ref a_43) (C := RX12) (T := TX12) (N := 56) hx hb hU inlX12 hown hK hP mo0 hfo_98 rfl 41 (by decide) (hU _ wd_191) (fun _ h9 => h9) rfl dX12_age_82 ?_
                    refine lv_aload_n hx hb dX12_age_85 rfl (lv_at hl 2 rfl) ?_
                    refine tk_getP (D := (dC, dI)) (ci := 12) (v := .int v_45) (C := RX12) (T := TX12) (N := 56) hx hb hU inlX12 hown hK hP mo0 hfo_98 rfl 43 (by decide) (hU _ wd_572) (fun _ h9 => h9) rfl dX12_age_86 ?_
                    refine tk_ViP (As := [.int p1, .int y_94, .ref a_43, .int v_45]) (rest := []) (n := 4) hx hb hml hown hU hN hZ (s_X12_someHolds_k12_a598 l (dC, dI) cI cL cZ cR cG cH Z kd L f_97 hG o0 mo0 ko0 p1 (by constructor <;> omega) y_94 (by constructor <;> omega) a_43 ma_43 ka_43 v_45 (by constructor <;> omega)) wd_934 wd_935 wd_936 wd_5 wd_937 (by decide +kernel) ⟨Nat.le_of_ble_eq_true rfl, Nat.le_of_ble_eq_true rfl⟩ hK hP hD hS mo0 hfo_98 12 rfl rfl rfl hl.1 rfl (Nat.le_of_ble_eq_true rfl) dX12_age_89 ⟨Nat.le_of_ble_eq_true rfl, Nat.le_of_ble_eq_true rfl⟩ (fun x_161 f_162 H locs hw hP hD hS => ?_)
                    obtain ⟨rfl, bx_161⟩ := hw
                    refine lv_if_eq (tgt := 104) hx hb dX12_age_92 (by decide) (fun c_164 => ?_) (fun c_164 => ?_)
                    · skip
                      rw [← Int32.toInt_inj, ti_0] at c_164
                      refine lv_aload_n hx hb dX12_age_104 rfl (lv_at hl 2 rfl) ?_
                      refine tk_getP (D := (dC, dI)) (ci := 12) (v := .ref a_42) (C := RX12) (T := TX12) (N := 56) hx hb hU inlX12 hown hK hP mo0 hfo_98 rfl 40 (by decide) (hU _ wd_190) (fun _ h9 => h9) rfl dX12_age_105 ?_
                      refine lv_iload_n hx hb dX12_age_108 rfl (lv_at hl 0 rfl) ?_
                      refine tk_ildP hx hb hK hP 0 ma_42 hfo_135 rfl (vp_in_iff.mpr (by constructor <;> omega)) dX12_age_109 ?_
                      refine tk_topi (y := x_137) ex_137.symm ?_
                      exact hcut_143 x_137 (by constructor <;> omega) _ _ hP hS ls (lv_sub hl [0, 1, 2, 3] rfl)
                    · skip
                      rw [← Int32.toInt_inj, ti_0] at c_164
                      refine lv_aload_n hx hb dX12_age_95 rfl (lv_at hl 2 rfl) ?_
                      refine lv_iload_n hx hb dX12_age_96 rfl (lv_at hl 3 rfl) ?_
                      refine lv_iconst (v := 1) hx hb dX12_age_97 (by decide) ?_
                      refine tk_ViP (As := [.int p1, .int 1]) (rest := []) (n := 2) hx hb hml hown hU hN hZ (s_X12_ofRule_k12 l (dC, dI) cI cL cZ cR cG cH Z kd L f_97 hG o0 mo0 ko0 p1 (by constructor <;> omega) 1 (by decide)) wd_894 wd_895 wd_896 wd_5 wd_897 (by decide +kernel) ⟨Nat.le_of_ble_eq_true rfl, Nat.le_of_ble_eq_true rfl⟩ hK hP hD hS mo0 hfo_98 12 rfl rfl rfl hl.1 rfl (Nat.le_of_ble_eq_true rfl) dX12_age_98 ⟨Nat.le_of_ble_eq_true rfl, Nat.le_of_ble_eq_true rfl⟩ (fun x_165 f_166 H locs hw hP hD hS => ?_)
                      obtain ⟨rfl, bx_165⟩ := hw
                      refine lv_goto (tgt := 110) hx hb dX12_age_101 (by decide) ?_
                      exact hcut_143 x_165 (by constructor <;> omega) _ _ hP hS ls (lv_sub hl [0, 1, 2, 3] rfl)
            exact hloop_93 9 0 (by decide) 0 (by decide) f_84 hG _ _ hP hS hD hfr0 hrA12 hfA12 hfo_85 (by (try rw [ti_0]) <;> omega) (by (try rw [ti_0]) <;> omega) ls hl
          · skip
            rw [Int32.le_iff_toInt_le] at c_86
            refine lv_aload_n hx hb dX12_age_30 rfl (lv_at hl 1 rfl) ?_
            refine tk_getP (D := (dC, dI)) (ci := 12) (v := .ref a_43) (C := RX12) (T := TX12) (N := 56) hx hb hU inlX12 hown hK hP mo0 hfo_85 rfl 41 (by decide) (hU _ wd_191) (fun _ h9 => h9) rfl dX12_age_31 ?_
            refine lv_iload_n hx hb dX12_age_34 rfl (lv_at hl 0 rfl) ?_
            refine lv_bipush (v := 10) hx hb dX12_age_35 (by decide) ?_
            refine lv_aload_n hx hb dX12_age_37 rfl (lv_at hl 1 rfl) ?_
            refine tk_getP (D := (dC, dI)) (ci := 12) (v := .ref a_42) (C := RX12) (T := TX12) (N := 56) hx hb hU inlX12 hown hK hP mo0 hfo_85 rfl 40 (by decide) (hU _ wd_190) (fun _ h9 => h9) rfl dX12_age_38 ?_
            refine lv_iload_n hx hb dX12_age_41 rfl (lv_at hl 0 rfl) ?_
            obtain ⟨g_169, hfo_168, hbg_169⟩ := un_597 (hG _ ma_42) ka_42
            refine tk_ildP hx hb hK hP 0 ma_42 hfo_168 rfl (vp_in_iff.mpr (by constructor <;> omega)) dX12_age_42 ?_
            refine lv_topi (fun x_170 ex_170 => ?_)
            have bx_170 : (0 ≤ x_170.toInt ∧ x_170.toInt ≤ 8) := by rw [ex_170]; exact hbg_169 _
            refine lv_imul hx hb dX12_age_43 ?_
            refine lv_topi (fun x_171 ex_171 => ?_)
            have hx_171 : x_171.toInt = 10 * x_170.toInt := by rw [ex_171, ml_I (by rw [ti_10]; omega) (by rw [ti_10]; omega), ti_10]
            have bx_171 : (0 ≤ x_171.toInt ∧ x_171.toInt ≤ 80) := by constructor <;> omega
            obtain ⟨g_173, hfo_172, hbg_173⟩ := un_598 (hG _ ma_43) ka_43
            refine tk_istP hx hb hK hP hD hS 0 ma_43 hfo_172 rfl (vp_in_iff.mpr (by constructor <;> omega)) dX12_age_44 (fun H locs hP hD hS => ?_)
            obtain ⟨f_175, ef_175⟩ : ∃ y : Nat → va_E, y = va_up f_84 a_43 (.inl (cI, 16, .inl (upd g_173 (Int32.toNatClampNeg y_82) x_171))) := ⟨_, rfl⟩
            have hP : va_P (dC, dI) vwCl (va_pl L f_175) H := by rw [ef_175]; exact hP
            have hD : va_D (fun q => q ∈ L) (va_pl L f_175) := by rw [ef_175]; exact hD
            have hG : GI (okc cI cL cZ cR cG cH L kd) kd L f_175 := by rw [ef_175]; exact hG.set a_43 (mk_598 ka_43 ⟨_, rfl, okI_up hbg_173 ⟨i32_lo _, i32_hi _⟩ _⟩)
            have hfo_176 : f_175 o0 = .inr (12, [.ref a_2, .ref a_3, .ref a_4, .int v_5, .ref a_6, .int v_7, .int v_8, .int v_9, .int v_10, .int v_11, .int v_12, .int v_13, .int v_14, .int v_15, .int v_16, .ref a_17, .ref a_18, .ref a_19, .ref a_20, .ref a_21, .ref a_22, .ref a_23, .ref a_24, .int v_25, .int v_26, .int v_27, .int v_28, .int v_29, .ref a_30, .int v_31, .ref a_32, .ref a_33, .int v_34, .int v_35, .ref a_36, .int v_37, .ref a_38, .ref a_39, .int v_40, .int v_41, .ref a_42, .ref a_43, .ref a_44, .int v_45, .ref a_46, .ref a_47, .ref a_48, .ref a_49, .ref a_50, .ref a_51, .ref a_52, .ref a_53, .ref a_54, .int v_55, .int v_56, .ref a_57]) := by rw [ef_175, up_ne (kd_ne ka_43 ko0 (by decide))]; exact hfo_85
            have hfo_177 : f_175 a_42 = .inl (cI, 16, .inl g_169) := by rw [ef_175, up_ne (kd_ne ka_43 ka_42 (by decide))]; exact hfo_168
            have hfr0 : ∀ b, kd b ≠ 12 → kd b ≠ 597 → kd b ≠ 598 → kd b ≠ 599 → f_175 b = f b := fun b q12 q597 q598 q599 => (congrFun ef_175 b).trans ((up_ne (fun e9 => q598 (by rw [e9]; exact ka_43))).trans (hfr0 b q12 q597 q598 q599))
            have hrA12 : ∀ b, kd b = 12 → ∀ j, fldR (f_175 b) j = fldR (f b) j := fun b kb j => (congrArg (fun x => fldR x j) ((congrFun ef_175 b).trans (up_ne (kd_ne ka_43 kb (by decide))))).trans (hrA12 b kb j)
            have hfA12 : ∀ b, kd b = 12 → ∀ j, j ≠ 43 → fldI (f_175 b) j = fldI (f b) j := fun b kb j n43 => (congrArg (fun x => fldI x j) ((congrFun ef_175 b).trans (up_ne (kd_ne ka_43 kb (by decide))))).trans (hfA12 b kb j n43)
            have hfo_178 : f_175 a_43 = .inl (cI, 16, .inl (upd g_173 (Int32.toNatClampNeg y_82) x_171)) := by rw [ef_175]; exact up_self
            obtain ⟨x_179, ex_179⟩ : ∃ y : Int32, y_82 + 1 = y := ⟨_, rfl⟩
            have hx_179 : x_179.toInt = y_82.toInt + 1 := by rw [← ex_179, ad_I (by rw [ti_1]; omega) (by rw [ti_1]; omega), ti_1]
            have bx_179 : (1 ≤ x_179.toInt ∧ x_179.toInt ≤ 8) := by constructor <;> omega
            refine lv_iinc (v := x_179) (lv' := [(2, .int x_179), (0, .ref o0), (1, .int p1)]) hx hb dX12_age_45 hl (k := 0) rfl ex_179 (by decide) rfl (fun ls hl => ?_)
            refine lv_goto (tgt := 22) hx hb dX12_age_48 (by decide) ?_
            exact ih_hloop_81 x_179 (by constructor <;> omega) f_175 hG _ _ hP hS hD hfr0 hrA12 hfA12 hfo_176 (by omega) ls (lv_sub hl [0, 1, 2] rfl)
      exact hloop_81 9 0 (by decide) f hG _ _ hP hS hD hfr0 hrA12 hfA12 hfo_1 (by (try rw [ti_0]) <;> omega) ls hl
    · skip
      rw [← Int32.toInt_inj, ti_0] at c_65
      exact W.vret hx hb hr (fun t ht hW => ⟨⟨f, rfl, ⟨hG, hfr0, hrA12, hfA12, (by intro w43 z43 e43 d43; rw [hfo_1] at e43; rw [hfo_1] at d43; obtain rfl := Option.some.inj e43; obtain rfl := Option.some.inj d43; omega)⟩, by rw [ht]; exact hP, va_K.moved hW.alike hK, pl_in hD⟩, hS.F ht⟩) hS.2.2 dX12_age_19
