set_option maxHeartbeats 8000000 in
set_option maxRecDepth 100000 in
theorem s_X12_ages_k12 (l : Launch) (D : va_G) (cI cL cZ cR cG cH : ClassId) (Z : zT) (kd : Nat → Nat) (L : List Nat) (f : Nat → va_E) (hG : GI (okc cI cL cZ cR cG cH L kd) kd L f) (o0 : Nat) (mo0 : o0 ∈ L) (ko0 : kd o0 = 12) : mPI l D cI cL cZ cR cG cH Z yX12_ages cX12_ages 2 (some .int) 6 152 [.ref o0] L f (fun (r : Int32) (f9 : Nat → va_E) => GI (okc cI cL cZ cR cG cH L kd) kd L f9 ∧ ((-2147483648) ≤ r.toInt ∧ r.toInt ≤ 2147483647) ∧ (∀ b, kd b ≠ 12 → kd b ≠ 589 → kd b ≠ 597 → kd b ≠ 598 → kd b ≠ 599 → f9 b = f b) ∧ (∀ b, kd b = 12 → ∀ j, fldR (f9 b) j = fldR (f b) j) ∧ (∀ b, kd b = 12 → ∀ j, j ≠ 5 → j ≠ 23 → j ≠ 43 → fldI (f9 b) j = fldI (f b) j) ∧ (∀ (w5 z5 : Int32), fldI (f o0) 5 = some w5 → fldI (f9 o0) 5 = some z5 → z5.toInt = 0)) := by
  obtain ⟨dC, dI⟩ := D
  refine Met.ofW (cc := cX12_ages) (maxL := 2) (ret := (some .int)) (by decide) rfl ?_
  intro p e s m args below meth c s₁ B hml hv
  obtain ⟨rfl, hP, hK, hD0, hN, hZ⟩ := hv
  have hx := B.exec
  have hb := B.bytes
  have hr := B.returns
  have hU : ∀ w ∈ wsU, w.before _ s = true := fun w h => atoms_spec (ws := wU yX12_ages cX12_ages 2 (some .int)) B.pre w (List.mem_cons_of_mem _ h)
  have hown : s.vm.findClass RX12 = some m.cls := findClass_of_methodNamed B.named
  have hlocks := B.notSynchronized
  have hD := pl_in hD0
  have hS : va_S (fun q => q ∈ L) s.heap s.heap [] := va_S.rf
  have hl := lv_entry ([.ref o0]) (n := 2) (Nat.le_of_ble_eq_true rfl)
  rw [lg_entry_eq]
  generalize (lg_sl ([.ref o0]) ++ List.replicate (2 - (lg_sl ([.ref o0])).length) Slot.unset).toArray = ls at hl ⊢
  have hl : lv_has ls 2 [(0, .ref o0)] := hl
  have hfr0 : ∀ b, kd b ≠ 12 → kd b ≠ 589 → kd b ≠ 597 → kd b ≠ 598 → kd b ≠ 599 → f b = f b := fun _ _ _ _ _ _ => rfl
  have hrA12 : ∀ b, kd b = 12 → ∀ j, fldR (f b) j = fldR (f b) j := fun _ _ _ => rfl
  have hfA12 : ∀ b, kd b = 12 → ∀ j, j ≠ 5 → j ≠ 23 → j ≠ 43 → fldI (f b) j = fldI (f b) j := fun _ _ _ _ _ _ => rfl
  obtain ⟨a_2, a_3, a_4, v_5, a_6, v_7, v_8, v_9, v_10, v_11, v_12, v_13, v_14, v_15, v_16, a_17, a_18, a_19, a_20, a_21, a_22, a_23, a_24, v_25, v_26, v_27, v_28, v_29, a_30, v_31, a_32, a_33, v_34, v_35, a_36, v_37, a_38, a_39, v_40, v_41, a_42, a_43, a_44, v_45, a_46, a_47, a_48, a_49, a_50, a_51, a_52, a_53, a_54, v_55, v_56, a_57, hfo_1, ⟨ma_2, ka_2⟩, ⟨ma_3, ka_3⟩, ⟨ma_4, ka_4⟩, bv_5, ⟨ma_6, ka_6⟩, bv_7, bv_8, bv_13, bv_14, bv_15, ⟨ma_17, ka_17⟩, ⟨ma_18, ka_18⟩, ⟨ma_19, ka_19⟩, ⟨ma_20, ka_20⟩, ⟨ma_21, ka_21⟩, ⟨ma_22, ka_22⟩, ⟨ma_23, ka_23⟩, ⟨ma_24, ka_24⟩, bv_25, bv_27, bv_29, ⟨ma_30, ka_30⟩, bv_31, ⟨ma_32, ka_32⟩, ⟨ma_33, ka_33⟩, bv_34, ⟨ma_36, ka_36⟩, bv_37, ⟨ma_38, ka_38⟩, ⟨ma_39, ka_39⟩, bv_40, ⟨ma_42, ka_42⟩, ⟨ma_43, ka_43⟩, ⟨ma_44, ka_44⟩, bv_45, ⟨ma_46, ka_46⟩, ⟨ma_47, ka_47⟩, ⟨ma_48, ka_48⟩, ⟨ma_49, ka_49⟩, ⟨ma_50, ka_50⟩, ⟨ma_51, ka_51⟩, ⟨ma_52, ka_52⟩, ⟨ma_53, ka_53⟩, ⟨ma_54, ka_54⟩, bv_55, ⟨ma_57, ka_57⟩⟩ := un_12 (hG _ mo0) ko0
  have bv_9 : ((-2147483648) ≤ v_9.toInt ∧ v_9.toInt ≤ 2147483647) := ⟨i32_lo _, i32_hi _⟩
  have bv_10 : ((-2147483648) ≤ v_10.toInt ∧ v_10.toInt ≤ 2147483647) := ⟨i32_lo _, i32_hi _⟩
  have bv_11 : ((-2147483648) ≤ v_11.toInt ∧ v_11.toInt ≤ 2147483647) := ⟨i32_lo _, i32_hi _⟩
  have bv_12 : ((-2147483648) ≤ v_12.toInt ∧ v_12.toInt ≤ 2147483647) := ⟨i32_lo _, i32_hi _⟩
  have bv_16 : ((-2147483648) ≤ v_16.toInt ∧ v_16.toInt ≤ 2147483647) := ⟨i32_lo _, i32_hi _⟩
  have bv_26 : ((-2147483648) ≤ v_26.toInt ∧ v_26.toInt ≤ 2147483647) := ⟨i32_lo _, i32_hi _⟩
  have bv_28 : ((-2147483648) ≤ v_28.toInt ∧ v_28.toInt ≤ 2147483647) := ⟨i32_lo _, i32_hi _⟩
  have bv_35 : ((-2147483648) ≤ v_35.toInt ∧ v_35.toInt ≤ 2147483647) := ⟨i32_lo _, i32_hi _⟩
  have bv_41 : ((-2147483648) ≤ v_41.toInt ∧ v_41.toInt ≤ 2147483647) := ⟨i32_lo _, i32_hi _⟩
  have bv_56 : ((-2147483648) ≤ v_56.toInt ∧ v_56.toInt ≤ 2147483647) := ⟨i32_lo _, i32_hi _⟩
  refine lv_aload_n hx hb dX12_ages_0 rfl (lv_at hl 0 rfl) ?_
  refine lv_iconst (v := 0) hx hb dX12_ages_1 (by decide) ?_
  refine tk_putP (D := (dC, dI)) (ci := 12) (v := .int 0) (ty := .int) (C := RX12) (T := TX12) (N := 56) hx hb hU inlX12 tyX12 tyX12_ok nmX12 hown hK hP hD hS mo0 hfo_1 rfl 43 (by decide) (hU _ wd_572) (fun _ h9 => h9) rfl (by decide +kernel) rfl rfl (Nat.le_of_ble_eq_true rfl) dX12_ages_2 (fun H locs hP hD hS => ?_)
  obtain ⟨f_59, ef_59⟩ : ∃ y : Nat → va_E, y = va_up f o0 (.inr (12, [.ref a_2, .ref a_3, .ref a_4, .int v_5, .ref a_6, .int v_7, .int v_8, .int v_9, .int v_10, .int v_11, .int v_12, .int v_13, .int v_14, .int v_15, .int v_16, .ref a_17, .ref a_18, .ref a_19, .ref a_20, .ref a_21, .ref a_22, .ref a_23, .ref a_24, .int v_25, .int v_26, .int v_27, .int v_28, .int v_29, .ref a_30, .int v_31, .ref a_32, .ref a_33, .int v_34, .int v_35, .ref a_36, .int v_37, .ref a_38, .ref a_39, .int v_40, .int v_41, .ref a_42, .ref a_43, .ref a_44, .int 0, .ref a_46, .ref a_47, .ref a_48, .ref a_49, .ref a_50, .ref a_51, .ref a_52, .ref a_53, .ref a_54, .int v_55, .int v_56, .ref a_57])) := ⟨_, rfl⟩
  have hP : va_P (dC, dI) vwCl (va_pl L f_59) H := by rw [ef_59]; exact hP
  have hD : va_D (fun q => q ∈ L) (va_pl L f_59) := by rw [ef_59]; exact hD
  have hG : GI (okc cI cL cZ cR cG cH L kd) kd L f_59 := by rw [ef_59]; exact hG.set o0 (mk_12 ko0 ⟨a_2, a_3, a_4, v_5, a_6, v_7, v_8, v_9, v_10, v_11, v_12, v_13, v_14, v_15, v_16, a_17, a_18, a_19, a_20, a_21, a_22, a_23, a_24, v_25, v_26, v_27, v_28, v_29, a_30, v_31, a_32, a_33, v_34, v_35, a_36, v_37, a_38, a_39, v_40, v_41, a_42, a_43, a_44, 0, a_46, a_47, a_48, a_49, a_50, a_51, a_52, a_53, a_54, v_55, v_56, a_57, rfl, ⟨ma_2, ka_2⟩, ⟨ma_3, ka_3⟩, ⟨ma_4, ka_4⟩, (by constructor <;> omega), ⟨ma_6, ka_6⟩, (by constructor <;> omega), (by constructor <;> omega), (by constructor <;> omega), (by constructor <;> omega), (by constructor <;> omega), ⟨ma_17, ka_17⟩, ⟨ma_18, ka_18⟩, ⟨ma_19, ka_19⟩, ⟨ma_20, ka_20⟩, ⟨ma_21, ka_21⟩, ⟨ma_22, ka_22⟩, ⟨ma_23, ka_23⟩, ⟨ma_24, ka_24⟩, (by constructor <;> omega), (by constructor <;> omega), (by constructor <;> omega), ⟨ma_30, ka_30⟩, (by constructor <;> omega), ⟨ma_32, ka_32⟩, ⟨ma_33, ka_33⟩, (by constructor <;> omega), ⟨ma_36, ka_36⟩, (by constructor <;> omega), ⟨ma_38, ka_38⟩, ⟨ma_39, ka_39⟩, (by constructor <;> omega), ⟨ma_42, ka_42⟩, ⟨ma_43, ka_43⟩, ⟨ma_44, ka_44⟩, (by decide), ⟨ma_46, ka_46⟩, ⟨ma_47, ka_47⟩, ⟨ma_48, ka_48⟩, ⟨ma_49, ka_49⟩, ⟨ma_50, ka_50⟩, ⟨ma_51, ka_51⟩, ⟨ma_52, ka_52⟩, ⟨ma_53, ka_53⟩, ⟨ma_54, ka_54⟩, (by constructor <;> omega), ⟨ma_57, ka_57⟩⟩)
  have hfr0 : ∀ b, kd b ≠ 12 → kd b ≠ 589 → kd b ≠ 597 → kd b ≠ 598 → kd b ≠ 599 → f_59 b = f b := fun b q12 q589 q597 q598 q599 => (congrFun ef_59 b).trans ((up_ne (fun e9 => q12 (by rw [e9]; exact ko0))).trans (hfr0 b q12 q589 q597 q598 q599))
  have hrA12 : ∀ b, kd b = 12 → ∀ j, fldR (f_59 b) j = fldR (f b) j := fun b kb j => ((congrArg (fun x => fldR x j) (congrFun ef_59 b)).trans (fra_up (fun j => by rw [hfo_1]; exact fr_set (k := 43) rfl rfl j) j b)).trans (hrA12 b kb j)
  have hfA12 : ∀ b, kd b = 12 → ∀ j, j ≠ 5 → j ≠ 23 → j ≠ 43 → fldI (f_59 b) j = fldI (f b) j := fun b kb j n5 n23 n43 => ((congrArg (fun x => fldI x j) (congrFun ef_59 b)).trans (fia_up (fun h9 => by rw [hfo_1]; exact fi_set (k := 43) rfl h9) n43 b)).trans (hfA12 b kb j n5 n23 n43)
  have hfo_60 : f_59 o0 = .inr (12, [.ref a_2, .ref a_3, .ref a_4, .int v_5, .ref a_6, .int v_7, .int v_8, .int v_9, .int v_10, .int v_11, .int v_12, .int v_13, .int v_14, .int v_15, .int v_16, .ref a_17, .ref a_18, .ref a_19, .ref a_20, .ref a_21, .ref a_22, .ref a_23, .ref a_24, .int v_25, .int v_26, .int v_27, .int v_28, .int v_29, .ref a_30, .int v_31, .ref a_32, .ref a_33, .int v_34, .int v_35, .ref a_36, .int v_37, .ref a_38, .ref a_39, .int v_40, .int v_41, .ref a_42, .ref a_43, .ref a_44, .int 0, .ref a_46, .ref a_47, .ref a_48, .ref a_49, .ref a_50, .ref a_51, .ref a_52, .ref a_53, .ref a_54, .int v_55, .int v_56, .ref a_57]) := by rw [ef_59]; exact up_self
  refine lv_aload_n hx hb dX12_ages_5 rfl (lv_at hl 0 rfl) ?_
  refine lv_iconst (v := 1) hx hb dX12_ages_6 (by decide) ?_
  refine lv_bipush (v := 8) hx hb dX12_ages_7 (by decide) ?_
  refine tk_ViP (As := [.int 1, .int 8]) (rest := []) (n := 2) hx hb hml hown hU hN hZ (s_X12_takesWord_k12_c1_c8 l (dC, dI) cI cL cZ cR cG cH Z kd L f_59 hG o0 mo0 ko0) wd_863 wd_864 wd_865 wd_5 wd_866 (by decide +kernel) ⟨Nat.le_of_ble_eq_true rfl, Nat.le_of_ble_eq_true rfl⟩ hK hP hD hS mo0 hfo_60 12 rfl rfl rfl hl.1 rfl (Nat.le_of_ble_eq_true rfl) dX12_ages_9 ⟨Nat.le_of_ble_eq_true rfl, Nat.le_of_ble_eq_true rfl⟩ (fun x_61 f_62 H locs hw hP hD hS => ?_)
  obtain ⟨hG, bx_61, hkc_63, hra_64, hfa_65, hpost_66⟩ := hw
  have hfr0 : ∀ b, kd b ≠ 12 → kd b ≠ 589 → kd b ≠ 597 → kd b ≠ 598 → kd b ≠ 599 → f_62 b = f b := fun b q12 q589 q597 q598 q599 => (hkc_63 b q12 q589).trans (hfr0 b q12 q589 q597 q598 q599)
  have hrA12 : ∀ b, kd b = 12 → ∀ j, fldR (f_62 b) j = fldR (f b) j := fun b kb j => (hra_64 b kb j).trans (hrA12 b kb j)
  have hfA12 : ∀ b, kd b = 12 → ∀ j, j ≠ 5 → j ≠ 23 → j ≠ 43 → fldI (f_62 b) j = fldI (f b) j := fun b kb j n5 n23 n43 => (hfa_65 b kb j n5 n23).trans (hfA12 b kb j n5 n23 n43)
  obtain ⟨a_69, a_70, a_71, v_72, a_73, v_74, v_75, v_76, v_77, v_78, v_79, v_80, v_81, v_82, v_83, a_84, a_85, a_86, a_87, a_88, a_89, a_90, a_91, v_92, v_93, v_94, v_95, v_96, a_97, v_98, a_99, a_100, v_101, v_102, a_103, v_104, a_105, a_106, v_107, v_108, a_109, a_110, a_111, v_112, a_113, a_114, a_115, a_116, a_117, a_118, a_119, a_120, a_121, v_122, v_123, a_124, hfo_68, ⟨ma_69, ka_69⟩, ⟨ma_70, ka_70⟩, ⟨ma_71, ka_71⟩, bv_72, ⟨ma_73, ka_73⟩, bv_74, bv_75, bv_80, bv_81, bv_82, ⟨ma_84, ka_84⟩, ⟨ma_85, ka_85⟩, ⟨ma_86, ka_86⟩, ⟨ma_87, ka_87⟩, ⟨ma_88, ka_88⟩, ⟨ma_89, ka_89⟩, ⟨ma_90, ka_90⟩, ⟨ma_91, ka_91⟩, bv_92, bv_94, bv_96, ⟨ma_97, ka_97⟩, bv_98, ⟨ma_99, ka_99⟩, ⟨ma_100, ka_100⟩, bv_101, ⟨ma_103, ka_103⟩, bv_104, ⟨ma_105, ka_105⟩, ⟨ma_106, ka_106⟩, bv_107, ⟨ma_109, ka_109⟩, ⟨ma_110, ka_110⟩, ⟨ma_111, ka_111⟩, bv_112, ⟨ma_113, ka_113⟩, ⟨ma_114, ka_114⟩, ⟨ma_115, ka_115⟩, ⟨ma_116, ka_116⟩, ⟨ma_117, ka_117⟩, ⟨ma_118, ka_118⟩, ⟨ma_119, ka_119⟩, ⟨ma_120, ka_120⟩, ⟨ma_121, ka_121⟩, bv_122, ⟨ma_124, ka_124⟩⟩ := un_12 (hG _ mo0) ko0
  have bv_76 : ((-2147483648) ≤ v_76.toInt ∧ v_76.toInt ≤ 2147483647) := ⟨i32_lo _, i32_hi _⟩
  have bv_77 : ((-2147483648) ≤ v_77.toInt ∧ v_77.toInt ≤ 2147483647) := ⟨i32_lo _, i32_hi _⟩
  have bv_78 : ((-2147483648) ≤ v_78.toInt ∧ v_78.toInt ≤ 2147483647) := ⟨i32_lo _, i32_hi _⟩
  have bv_79 : ((-2147483648) ≤ v_79.toInt ∧ v_79.toInt ≤ 2147483647) := ⟨i32_lo _, i32_hi _⟩
  have bv_83 : ((-2147483648) ≤ v_83.toInt ∧ v_83.toInt ≤ 2147483647) := ⟨i32_lo _, i32_hi _⟩
  have bv_93 : ((-2147483648) ≤ v_93.toInt ∧ v_93.toInt ≤ 2147483647) := ⟨i32_lo _, i32_hi _⟩
  have bv_95 : ((-2147483648) ≤ v_95.toInt ∧ v_95.toInt ≤ 2147483647) := ⟨i32_lo _, i32_hi _⟩
  have bv_102 : ((-2147483648) ≤ v_102.toInt ∧ v_102.toInt ≤ 2147483647) := ⟨i32_lo _, i32_hi _⟩
  have bv_108 : ((-2147483648) ≤ v_108.toInt ∧ v_108.toInt ≤ 2147483647) := ⟨i32_lo _, i32_hi _⟩
  have bv_123 : ((-2147483648) ≤ v_123.toInt ∧ v_123.toInt ≤ 2147483647) := ⟨i32_lo _, i32_hi _⟩
  obtain ⟨rfl, rfl, rfl, rfl, rfl, rfl, rfl, rfl, rfl, rfl, rfl, rfl, rfl, rfl, rfl, rfl, rfl, rfl, rfl, rfl, rfl, rfl, rfl, rfl, rfl, rfl, rfl, rfl, rfl, rfl, rfl⟩ := re_12 hfo_1 hfo_68 (hrA12 o0 ko0)
  obtain rfl := ri_12_3 hfo_1 hfo_68 (hfA12 o0 ko0 3 (by decide) (by decide) (by decide))
  obtain rfl := ri_12_6 hfo_1 hfo_68 (hfA12 o0 ko0 6 (by decide) (by decide) (by decide))
  obtain rfl := ri_12_11 hfo_1 hfo_68 (hfA12 o0 ko0 11 (by decide) (by decide) (by decide))
  obtain rfl := ri_12_12 hfo_1 hfo_68 (hfA12 o0 ko0 12 (by decide) (by decide) (by decide))
  obtain rfl := ri_12_13 hfo_1 hfo_68 (hfA12 o0 ko0 13 (by decide) (by decide) (by decide))
  obtain rfl := ri_12_14 hfo_1 hfo_68 (hfA12 o0 ko0 14 (by decide) (by decide) (by decide))
  obtain rfl := ri_12_25 hfo_1 hfo_68 (hfA12 o0 ko0 25 (by decide) (by decide) (by decide))
  obtain rfl := ri_12_27 hfo_1 hfo_68 (hfA12 o0 ko0 27 (by decide) (by decide) (by decide))
  obtain rfl := ri_12_29 hfo_1 hfo_68 (hfA12 o0 ko0 29 (by decide) (by decide) (by decide))
  obtain rfl := ri_12_32 hfo_1 hfo_68 (hfA12 o0 ko0 32 (by decide) (by decide) (by decide))
  obtain rfl := ri_12_33 hfo_1 hfo_68 (hfA12 o0 ko0 33 (by decide) (by decide) (by decide))
  obtain rfl := ri_12_35 hfo_1 hfo_68 (hfA12 o0 ko0 35 (by decide) (by decide) (by decide))
  obtain rfl := ri_12_38 hfo_1 hfo_68 (hfA12 o0 ko0 38 (by decide) (by decide) (by decide))
  obtain rfl := ri_12_53 hfo_1 hfo_68 (hfA12 o0 ko0 53 (by decide) (by decide) (by decide))
  obtain rfl := ri_12_43 hfo_60 hfo_68 (hfa_65 o0 ko0 43 (by decide) (by decide))
  have hqhpost_66 := hpost_66 v_7 v_74 v_25 v_92 (by rw [hfo_60]; rfl) (by rw [hfo_60]; rfl) (by rw [hfo_68]; rfl) (by rw [hfo_68]; rfl)
  try rw [ti_1] at hqhpost_66
  try rw [ti_8] at hqhpost_66
  refine lv_if_ne (tgt := 17) hx hb dX12_ages_12 (by decide) (fun c_125 => ?_) (fun c_125 => ?_)
  · skip
    rw [← Int32.toInt_inj, ti_0] at c_125
    have hclc_126 : (0 ≤ v_92.toInt ∧ v_92.toInt ≤ 8) := by constructor <;> omega
    refine lv_aload_n hx hb dX12_ages_17 rfl (lv_at hl 0 rfl) ?_
    refine lv_aload_n hx hb dX12_ages_18 rfl (lv_at hl 0 rfl) ?_
    refine tk_getP (D := (dC, dI)) (ci := 12) (v := .int v_92) (C := RX12) (T := TX12) (N := 56) hx hb hU inlX12 hown hK hP mo0 hfo_68 rfl 23 (by decide) (hU _ wd_867) (fun _ h9 => h9) rfl dX12_ages_19 ?_
    refine tk_putP (D := (dC, dI)) (ci := 12) (v := .int v_92) (ty := .int) (C := RX12) (T := TX12) (N := 56) hx hb hU inlX12 tyX12 tyX12_ok nmX12 hown hK hP hD hS mo0 hfo_68 rfl 43 (by decide) (hU _ wd_572) (fun _ h9 => h9) rfl (by decide +kernel) rfl rfl (Nat.le_of_ble_eq_true rfl) dX12_ages_22 (fun H locs hP hD hS => ?_)
    obtain ⟨f_128, ef_128⟩ : ∃ y : Nat → va_E, y = va_up f_62 o0 (.inr (12, [.ref a_2, .ref a_3, .ref a_4, .int v_5, .ref a_6, .int v_74, .int v_8, .int v_76, .int v_77, .int v_78, .int v_79, .int v_13, .int v_14, .int v_15, .int v_16, .ref a_17, .ref a_18, .ref a_19, .ref a_20, .ref a_21, .ref a_22, .ref a_23, .ref a_24, .int v_92, .int v_93, .int v_27, .int v_95, .int v_29, .ref a_30, .int v_31, .ref a_32, .ref a_33, .int v_34, .int v_35, .ref a_36, .int v_37, .ref a_38, .ref a_39, .int v_40, .int v_108, .ref a_42, .ref a_43, .ref a_44, .int v_92, .ref a_46, .ref a_47, .ref a_48, .ref a_49, .ref a_50, .ref a_51, .ref a_52, .ref a_53, .ref a_54, .int v_55, .int v_123, .ref a_57])) := ⟨_, rfl⟩
    have hP : va_P (dC, dI) vwCl (va_pl L f_128) H := by rw [ef_128]; exact hP
    have hD : va_D (fun q => q ∈ L) (va_pl L f_128) := by rw [ef_128]; exact hD
    have hG : GI (okc cI cL cZ cR cG cH L kd) kd L f_128 := by rw [ef_128]; exact hG.set o0 (mk_12 ko0 ⟨a_2, a_3, a_4, v_5, a_6, v_74, v_8, v_76, v_77, v_78, v_79, v_13, v_14, v_15, v_16, a_17, a_18, a_19, a_20, a_21, a_22, a_23, a_24, v_92, v_93, v_27, v_95, v_29, a_30, v_31, a_32, a_33, v_34, v_35, a_36, v_37, a_38, a_39, v_40, v_108, a_42, a_43, a_44, v_92, a_46, a_47, a_48, a_49, a_50, a_51, a_52, a_53, a_54, v_55, v_123, a_57, rfl, ⟨ma_2, ka_2⟩, ⟨ma_3, ka_3⟩, ⟨ma_4, ka_4⟩, (by constructor <;> omega), ⟨ma_6, ka_6⟩, (by constructor <;> omega), (by constructor <;> omega), (by constructor <;> omega), (by constructor <;> omega), (by constructor <;> omega), ⟨ma_17, ka_17⟩, ⟨ma_18, ka_18⟩, ⟨ma_19, ka_19⟩, ⟨ma_20, ka_20⟩, ⟨ma_21, ka_21⟩, ⟨ma_22, ka_22⟩, ⟨ma_23, ka_23⟩, ⟨ma_24, ka_24⟩, (by constructor <;> omega), (by constructor <;> omega), (by constructor <;> omega), ⟨ma_30, ka_30⟩, (by constructor <;> omega), ⟨ma_32, ka_32⟩, ⟨ma_33, ka_33⟩, (by constructor <;> omega), ⟨ma_36, ka_36⟩, (by constructor <;> omega), ⟨ma_38, ka_38⟩, ⟨ma_39, ka_39⟩, (by constructor <;> omega), ⟨ma_42, ka_42⟩, ⟨ma_43, ka_43⟩, ⟨ma_44, ka_44⟩, (by constructor <;> omega), ⟨ma_46, ka_46⟩, ⟨ma_47, ka_47⟩, ⟨ma_48, ka_48⟩, ⟨ma_49, ka_49⟩, ⟨ma_50, ka_50⟩, ⟨ma_51, ka_51⟩, ⟨ma_52, ka_52⟩, ⟨ma_53, ka_53⟩, ⟨ma_54, ka_54⟩, (by constructor <;> omega), ⟨ma_57, ka_57⟩⟩)
    have hfr0 : ∀ b, kd b ≠ 12 → kd b ≠ 589 → kd b ≠ 597 → kd b ≠ 598 → kd b ≠ 599 → f_128 b = f b := fun b q12 q589 q597 q598 q599 => (congrFun ef_128 b).trans ((up_ne (fun e9 => q12 (by rw [e9]; exact ko0))).trans (hfr0 b q12 q589 q597 q598 q599))
    have hrA12 : ∀ b, kd b = 12 → ∀ j, fldR (f_128 b) j = fldR (f b) j := fun b kb j => ((congrArg (fun x => fldR x j) (congrFun ef_128 b)).trans (fra_up (fun j => by rw [hfo_68]; exact fr_set (k := 43) rfl rfl j) j b)).trans (hrA12 b kb j)
    have hfA12 : ∀ b, kd b = 12 → ∀ j, j ≠ 5 → j ≠ 23 → j ≠ 43 → fldI (f_128 b) j = fldI (f b) j := fun b kb j n5 n23 n43 => ((congrArg (fun x => fldI x j) (congrFun ef_128 b)).trans (fia_up (fun h9 => by rw [hfo_68]; exact fi_set (k := 43) rfl h9) n43 b)).trans (hfA12 b kb j n5 n23 n43)
    have hfo_129 : f_128 o0 = .inr (12, [.ref a_2, .ref a_3, .ref a_4, .int v_5, .ref a_6, .int v_74, .int v_8, .int v_76, .int v_77, .int v_78, .int v_79, .int v_13, .int v_14, .int v_15, .int v_16, .ref a_17, .ref a_18, .ref a_19, .ref a_20, .ref a_21, .ref a_22, .ref a_23, .ref a_24, .int v_92, .int v_93, .int v_27, .int v_95, .int v_29, .ref a_30, .int v_31, .ref a_32, .ref a_33, .int v_34, .int v_35, .ref a_36, .int v_37, .ref a_38, .ref a_39, .int v_40, .int v_108, .ref a_42, .ref a_43, .ref a_44, .int v_92, .ref a_46, .ref a_47, .ref a_48, .ref a_49, .ref a_50, .ref a_51, .ref a_52, .ref a_53, .ref a_54, .int v_55, .int v_123, .ref a_57]) := by rw [ef_128]; exact up_self
    refine lv_iconst (v := 0) hx hb dX12_ages_25 (by decide) ?_
    refine lv_istore_n (lv' := [(1, .int 0), (0, .ref o0)]) hx hb dX12_ages_26 rfl hl (by decide) rfl (fun ls hl => ?_)
    have hloop_145 : ∀ (n : Nat), ∀ (y_146 : Int32), (0 ≤ y_146.toInt ∧ y_146.toInt ≤ 8) → ∀ (f_148 : Nat → va_E), GI (okc cI cL cZ cR cG cH L kd) kd L f_148 → ∀ (H : Heap) (locs : List Loc), va_P (dC, dI) vwCl (va_pl L f_148) H → va_S (fun q => q ∈ L) s.heap H locs → va_D (fun q => q ∈ L) (va_pl L f_148) → (∀ b, kd b ≠ 12 → kd b ≠ 589 → kd b ≠ 597 → kd b ≠ 598 → kd b ≠ 599 → f_148 b = f b) → (∀ b, kd b = 12 → ∀ j, fldR (f_148 b) j = fldR (f b) j) → (∀ b, kd b = 12 → ∀ j, j ≠ 5 → j ≠ 23 → j ≠ 43 → fldI (f_148 b) j = fldI (f b) j) → (f_148 o0 = .inr (12, [.ref a_2, .ref a_3, .ref a_4, .int v_5, .ref a_6, .int v_74, .int v_8, .int v_76, .int v_77, .int v_78, .int v_79, .int v_13, .int v_14, .int v_15, .int v_16, .ref a_17, .ref a_18, .ref a_19, .ref a_20, .ref a_21, .ref a_22, .ref a_23, .ref a_24, .int v_92, .int v_93, .int v_27, .int v_95, .int v_29, .ref a_30, .int v_31, .ref a_32, .ref a_33, .int v_34, .int v_35, .ref a_36, .int v_37, .ref a_38, .ref a_39, .int v_40, .int v_108, .ref a_42, .ref a_43, .ref a_44, .int v_92, .ref a_46, .ref a_47, .ref a_48, .ref a_49, .ref a_50, .ref a_51, .ref a_52, .ref a_53, .ref a_54, .int v_55, .int v_123, .ref a_57])) → 8 - y_146.toInt < (n : Int) → ∀ (ls : Array Slot), lv_has ls 2 [(1, .int y_146), (0, .ref o0)] → W p l e (headSpec (wU yX12_ages cX12_ages 2 (some .int)) { frames := 6, cells := 0, slots := 0, locals := 152 }).room s m [.ref o0].toArray below meth c H locs 0 0 (MQ below (va_Qi (fun (r : Int32) (f9 : Nat → va_E) => GI (okc cI cL cZ cR cG cH L kd) kd L f9 ∧ ((-2147483648) ≤ r.toInt ∧ r.toInt ≤ 2147483647) ∧ (∀ b, kd b ≠ 12 → kd b ≠ 589 → kd b ≠ 597 → kd b ≠ 598 → kd b ≠ 599 → f9 b = f b) ∧ (∀ b, kd b = 12 → ∀ j, fldR (f9 b) j = fldR (f b) j) ∧ (∀ b, kd b = 12 → ∀ j, j ≠ 5 → j ≠ 23 → j ≠ 43 → fldI (f9 b) j = fldI (f b) j) ∧ (∀ (w5 z5 : Int32), fldI (f o0) 5 = some w5 → fldI (f9 o0) 5 = some z5 → z5.toInt = 0)) (qP (dC, dI) cI cL cZ cR cG cH L) (fun q => q ∈ L)) [.ref o0].toArray s 0 0 (fun q => q ∈ L)) (F0 m 27 ls []) := by
      intro n
      induction n with
      | zero => intro y_146 by_146 f_148 hG H locs hP hS hD hfr0 hrA12 hfA12 hfo_149 hmuhloop_145 ls hl; exfalso; omega
      | succ n ih_hloop_145 =>
        intro y_146 by_146 f_148 hG H locs hP hS hD hfr0 hrA12 hfA12 hfo_149 hmuhloop_145 ls hl
        refine lv_iload_n hx hb dX12_ages_27 rfl (lv_at hl 0 rfl) ?_
        refine lv_aload_n hx hb dX12_ages_28 rfl (lv_at hl 1 rfl) ?_
        refine tk_getP (D := (dC, dI)) (ci := 12) (v := .int v_92) (C := RX12) (T := TX12) (N := 56) hx hb hU inlX12 hown hK hP mo0 hfo_149 rfl 23 (by decide) (hU _ wd_867) (fun _ h9 => h9) rfl dX12_ages_29 ?_
        refine lv_icmp_ge (tgt := 53) hx hb dX12_ages_32 (by decide) (fun c_150 => ?_) (fun c_150 => ?_)
        · skip
          rw [Int32.le_iff_toInt_le] at c_150
          refine lv_iconst (v := 0) hx hb dX12_ages_53 (by decide) ?_
          refine lv_istore_n (lv' := [(1, .int 0), (0, .ref o0)]) hx hb dX12_ages_54 rfl hl (by decide) rfl (fun ls hl => ?_)
          have hloop_334 : ∀ (n : Nat), ∀ (y_335 : Int32), (0 ≤ y_335.toInt ∧ y_335.toInt ≤ 8) → ∀ (f_337 : Nat → va_E), GI (okc cI cL cZ cR cG cH L kd) kd L f_337 → ∀ (H : Heap) (locs : List Loc), va_P (dC, dI) vwCl (va_pl L f_337) H → va_S (fun q => q ∈ L) s.heap H locs → va_D (fun q => q ∈ L) (va_pl L f_337) → (∀ b, kd b ≠ 12 → kd b ≠ 589 → kd b ≠ 597 → kd b ≠ 598 → kd b ≠ 599 → f_337 b = f b) → (∀ b, kd b = 12 → ∀ j, fldR (f_337 b) j = fldR (f b) j) → (∀ b, kd b = 12 → ∀ j, j ≠ 5 → j ≠ 23 → j ≠ 43 → fldI (f_337 b) j = fldI (f b) j) → ∀ (whloop_334_0_5 : Int32), fldI (f_337 o0) 5 = some whloop_334_0_5 → (0 ≤ whloop_334_0_5.toInt ∧ whloop_334_0_5.toInt ≤ 0) → 8 - y_335.toInt < (n : Int) → ∀ (ls : Array Slot), lv_has ls 2 [(1, .int y_335), (0, .ref o0)] → W p l e (headSpec (wU yX12_ages cX12_ages 2 (some .int)) { frames := 6, cells := 0, slots := 0, locals := 152 }).room s m [.ref o0].toArray below meth c H locs 0 0 (MQ below (va_Qi (fun (r : Int32) (f9 : Nat → va_E) => GI (okc cI cL cZ cR cG cH L kd) kd L f9 ∧ ((-2147483648) ≤ r.toInt ∧ r.toInt ≤ 2147483647) ∧ (∀ b, kd b ≠ 12 → kd b ≠ 589 → kd b ≠ 597 → kd b ≠ 598 → kd b ≠ 599 → f9 b = f b) ∧ (∀ b, kd b = 12 → ∀ j, fldR (f9 b) j = fldR (f b) j) ∧ (∀ b, kd b = 12 → ∀ j, j ≠ 5 → j ≠ 23 → j ≠ 43 → fldI (f9 b) j = fldI (f b) j) ∧ (∀ (w5 z5 : Int32), fldI (f o0) 5 = some w5 → fldI (f9 o0) 5 = some z5 → z5.toInt = 0)) (qP (dC, dI) cI cL cZ cR cG cH L) (fun q => q ∈ L)) [.ref o0].toArray s 0 0 (fun q => q ∈ L)) (F0 m 55 ls []) := by
            intro n
            induction n with
            | zero => intro y_335 by_335 f_337 hG H locs hP hS hD hfr0 hrA12 hfA12 whloop_334_0_5 hghloop_334_0_5 hrelhloop_334_0 hmuhloop_334 ls hl; exfalso; omega
            | succ n ih_hloop_334 =>
              intro y_335 by_335 f_337 hG H locs hP hS hD hfr0 hrA12 hfA12 whloop_334_0_5 hghloop_334_0_5 hrelhloop_334_0 hmuhloop_334 ls hl
              obtain ⟨a_339, a_340, a_341, v_342, a_343, v_344, v_345, v_346, v_347, v_348, v_349, v_350, v_351, v_352, v_353, a_354, a_355, a_356, a_357, a_358, a_359, a_360, a_361, v_362, v_363, v_364, v_365, v_366, a_367, v_368, a_369, a_370, v_371, v_372, a_373, v_374, a_375, a_376, v_377, v_378, a_379, a_380, a_381, v_382, a_383, a_384, a_385, a_386, a_387, a_388, a_389, a_390, a_391, v_392, v_393, a_394, hfo_338, ⟨ma_339, ka_339⟩, ⟨ma_340, ka_340⟩, ⟨ma_341, ka_341⟩, bv_342, ⟨ma_343, ka_343⟩, bv_344, bv_345, bv_350, bv_351, bv_352, ⟨ma_354, ka_354⟩, ⟨ma_355, ka_355⟩, ⟨ma_356, ka_356⟩, ⟨ma_357, ka_357⟩, ⟨ma_358, ka_358⟩, ⟨ma_359, ka_359⟩, ⟨ma_360, ka_360⟩, ⟨ma_361, ka_361⟩, bv_362, bv_364, bv_366, ⟨ma_367, ka_367⟩, bv_368, ⟨ma_369, ka_369⟩, ⟨ma_370, ka_370⟩, bv_371, ⟨ma_373, ka_373⟩, bv_374, ⟨ma_375, ka_375⟩, ⟨ma_376, ka_376⟩, bv_377, ⟨ma_379, ka_379⟩, ⟨ma_380, ka_380⟩, ⟨ma_381, ka_381⟩, bv_382, ⟨ma_383, ka_383⟩, ⟨ma_384, ka_384⟩, ⟨ma_385, ka_385⟩, ⟨ma_386, ka_386⟩, ⟨ma_387, ka_387⟩, ⟨ma_388, ka_388⟩, ⟨ma_389, ka_389⟩, ⟨ma_390, ka_390⟩, ⟨ma_391, ka_391⟩, bv_392, ⟨ma_394, ka_394⟩⟩ := un_12 (hG _ mo0) ko0
              have bv_346 : ((-2147483648) ≤ v_346.toInt ∧ v_346.toInt ≤ 2147483647) := ⟨i32_lo _, i32_hi _⟩
              have bv_347 : ((-2147483648) ≤ v_347.toInt ∧ v_347.toInt ≤ 2147483647) := ⟨i32_lo _, i32_hi _⟩
              have bv_348 : ((-2147483648) ≤ v_348.toInt ∧ v_348.toInt ≤ 2147483647) := ⟨i32_lo _, i32_hi _⟩
              have bv_349 : ((-2147483648) ≤ v_349.toInt ∧ v_349.toInt ≤ 2147483647) := ⟨i32_lo _, i32_hi _⟩
              have bv_353 : ((-2147483648) ≤ v_353.toInt ∧ v_353.toInt ≤ 2147483647) := ⟨i32_lo _, i32_hi _⟩
              have bv_363 : ((-2147483648) ≤ v_363.toInt ∧ v_363.toInt ≤ 2147483647) := ⟨i32_lo _, i32_hi _⟩
              have bv_365 : ((-2147483648) ≤ v_365.toInt ∧ v_365.toInt ≤ 2147483647) := ⟨i32_lo _, i32_hi _⟩
              have bv_372 : ((-2147483648) ≤ v_372.toInt ∧ v_372.toInt ≤ 2147483647) := ⟨i32_lo _, i32_hi _⟩
              have bv_378 : ((-2147483648) ≤ v_378.toInt ∧ v_378.toInt ≤ 2147483647) := ⟨i32_lo _, i32_hi _⟩
              have bv_393 : ((-2147483648) ≤ v_393.toInt ∧ v_393.toInt ≤ 2147483647) := ⟨i32_lo _, i32_hi _⟩
              obtain ⟨rfl, rfl, rfl, rfl, rfl, rfl, rfl, rfl, rfl, rfl, rfl, rfl, rfl, rfl, rfl, rfl, rfl, rfl, rfl, rfl, rfl, rfl, rfl, rfl, rfl, rfl, rfl, rfl, rfl, rfl, rfl⟩ := re_12 hfo_1 hfo_338 (hrA12 o0 ko0)
              obtain rfl := ri_12_3 hfo_1 hfo_338 (hfA12 o0 ko0 3 (by decide) (by decide) (by decide))
              obtain rfl := ri_12_6 hfo_1 hfo_338 (hfA12 o0 ko0 6 (by decide) (by decide) (by decide))
              obtain rfl := ri_12_11 hfo_1 hfo_338 (hfA12 o0 ko0 11 (by decide) (by decide) (by decide))
              obtain rfl := ri_12_12 hfo_1 hfo_338 (hfA12 o0 ko0 12 (by decide) (by decide) (by decide))
              obtain rfl := ri_12_13 hfo_1 hfo_338 (hfA12 o0 ko0 13 (by decide) (by decide) (by decide))
              obtain rfl := ri_12_14 hfo_1 hfo_338 (hfA12 o0 ko0 14 (by decide) (by decide) (by decide))
              obtain rfl := ri_12_25 hfo_1 hfo_338 (hfA12 o0 ko0 25 (by decide) (by decide) (by decide))
              obtain rfl := ri_12_27 hfo_1 hfo_338 (hfA12 o0 ko0 27 (by decide) (by decide) (by decide))
              obtain rfl := ri_12_29 hfo_1 hfo_338 (hfA12 o0 ko0 29 (by decide) (by decide) (by decide))
              obtain rfl := ri_12_32 hfo_1 hfo_338 (hfA12 o0 ko0 32 (by decide) (by decide) (by decide))
              obtain rfl := ri_12_33 hfo_1 hfo_338 (hfA12 o0 ko0 33 (by decide) (by decide) (by decide))
              obtain rfl := ri_12_35 hfo_1 hfo_338 (hfA12 o0 ko0 35 (by decide) (by decide) (by decide))
              obtain rfl := ri_12_38 hfo_1 hfo_338 (hfA12 o0 ko0 38 (by decide) (by decide) (by decide))
              obtain rfl := ri_12_53 hfo_1 hfo_338 (hfA12 o0 ko0 53 (by decide) (by decide) (by decide))
              obtain rfl : v_344 = whloop_334_0_5 := by rw [hfo_338] at hghloop_334_0_5; exact Option.some.inj hghloop_334_0_5
              refine lv_iload_n hx hb dX12_ages_55 rfl (lv_at hl 0 rfl) ?_
              refine lv_aload_n hx hb dX12_ages_56 rfl (lv_at hl 1 rfl) ?_
              refine tk_getP (D := (dC, dI)) (ci := 12) (v := .ref a_2) (C := RX12) (T := TX12) (N := 56) hx hb hU inlX12 hown hK hP mo0 hfo_338 rfl 0 (by decide) (hU _ wd_169) (fun _ h9 => h9) rfl dX12_ages_57 ?_
              refine lv_bipush (v := 17) hx hb dX12_ages_60 (by decide) ?_
              obtain ⟨g_396, hfo_395, hbg_396⟩ := un_575 (hG _ ma_2) ka_2
              refine tk_ildP hx hb hK hP 0 ma_2 hfo_395 rfl (vp_in_nI (n := 17) (by decide) (by decide)) dX12_ages_62 ?_
              refine lv_topi (fun x_397 ex_397 => ?_)
              have bx_397 : (0 ≤ x_397.toInt ∧ x_397.toInt ≤ 8) := by rw [ex_397]; exact hbg_396.2.2.1 _ (by decide) (by decide) (by decide)
              refine lv_icmp_ge (tgt := 108) hx hb dX12_ages_63 (by decide) (fun c_398 => ?_) (fun c_398 => ?_)
              · skip
                rw [Int32.le_iff_toInt_le] at c_398
                refine lv_aload_n hx hb dX12_ages_108 rfl (lv_at hl 1 rfl) ?_
                refine tk_getP (D := (dC, dI)) (ci := 12) (v := .int v_382) (C := RX12) (T := TX12) (N := 56) hx hb hU inlX12 hown hK hP mo0 hfo_338 rfl 43 (by decide) (hU _ wd_572) (fun _ h9 => h9) rfl dX12_ages_109 ?_
                exact W.iret (v := v_382) hx hb hr (fun t ht hW => ⟨⟨v_382, f_337, rfl, ⟨hG, (by constructor <;> omega), hfr0, hrA12, hfA12, (by intro w5 z5 e5 d5; rw [hfo_1] at e5; rw [hfo_338] at d5; obtain rfl := Option.some.inj e5; obtain rfl := Option.some.inj d5; omega)⟩, by rw [ht]; exact hP, va_K.moved hW.alike hK, pl_in hD⟩, hS.F ht⟩) hS.2.2 dX12_ages_112
              · skip
                rw [Int32.le_iff_toInt_le] at c_398
                refine lv_aload_n hx hb dX12_ages_66 rfl (lv_at hl 1 rfl) ?_
                refine tk_getP (D := (dC, dI)) (ci := 12) (v := .ref a_2) (C := RX12) (T := TX12) (N := 56) hx hb hU inlX12 hown hK hP mo0 hfo_338 rfl 0 (by decide) (hU _ wd_169) (fun _ h9 => h9) rfl dX12_ages_67 ?_
                refine lv_bipush (v := 40) hx hb dX12_ages_70 (by decide) ?_
                refine tk_ildP hx hb hK hP 0 ma_2 hfo_395 rfl (vp_in_nI (n := 40) (by decide) (by decide)) dX12_ages_72 ?_
                refine lv_topi (fun x_399 ex_399 => ?_)
                have bx_399 : (0 ≤ x_399.toInt ∧ x_399.toInt ≤ 255) := by rw [ex_399]; exact hbg_396.2.2.2.2.2.2.1 _ (by decide) (by decide) (by decide)
                refine lv_aload_n hx hb dX12_ages_73 rfl (lv_at hl 1 rfl) ?_
                refine tk_getP (D := (dC, dI)) (ci := 12) (v := .ref a_2) (C := RX12) (T := TX12) (N := 56) hx hb hU inlX12 hown hK hP mo0 hfo_338 rfl 0 (by decide) (hU _ wd_169) (fun _ h9 => h9) rfl dX12_ages_74 ?_
                refine lv_bipush (v := 43) hx hb dX12_ages_77 (by decide) ?_
                refine lv_iload_n hx hb dX12_ages_79 rfl (lv_at hl 0 rfl) ?_
                refine lv_iadd hx hb dX12_ages_80 ?_
                refine lv_topi (fun x_400 ex_400 => ?_)
                have hx_400 : x_400.toInt = 43 + y_335.toInt := by rw [ex_400, ad_I (by rw [ti_43]; omega) (by rw [ti_43]; omega), ti_43]
                have bx_400 : (43 ≤ x_400.toInt ∧ x_400.toInt ≤ 50) := by constructor <;> omega
                refine tk_ildP hx hb hK hP 0 ma_2 hfo_395 rfl (vp_in_iff.mpr (by constructor <;> omega)) dX12_ages_81 ?_
                refine lv_topi (fun x_401 ex_401 => ?_)
                have bx_401 : (0 ≤ x_401.toInt ∧ x_401.toInt ≤ 7) := by have hc9 := cl_I (i := x_400) (by omega); rw [ex_401]; exact hbg_396.2.2.2.2.2.2.2.2.2.1 _ (by omega) (by omega) (by omega)
                refine lv_ishr hx hb dX12_ages_82 ?_
                refine lv_topi (fun x_402 ex_402 => ?_)
                have bx_402 : ((-2147483648) ≤ x_402.toInt ∧ x_402.toInt ≤ 2147483647) := ⟨i32_lo _, i32_hi _⟩
                refine lv_iconst (v := 1) hx hb dX12_ages_83 (by decide) ?_
                refine lv_iand hx hb dX12_ages_84 ?_
                refine lv_topi (fun x_403 ex_403 => ?_)
                have bx_403 : (0 ≤ x_403.toInt ∧ x_403.toInt ≤ 1) := by rw [ex_403]; have h8 := an_C x_402 (m := 1) (by decide); rw [ti_1] at h8; exact h8
                refine lv_iconst (v := 1) hx hb dX12_ages_85 (by decide) ?_
                have hcut_407 : ∀ (f_405 : Nat → va_E), GI (okc cI cL cZ cR cG cH L kd) kd L f_405 → ∀ (H : Heap) (locs : List Loc), va_P (dC, dI) vwCl (va_pl L f_405) H → va_S (fun q => q ∈ L) s.heap H locs → va_D (fun q => q ∈ L) (va_pl L f_405) → (∀ b, kd b ≠ 12 → kd b ≠ 589 → kd b ≠ 597 → kd b ≠ 598 → kd b ≠ 599 → f_405 b = f b) → (∀ b, kd b = 12 → ∀ j, fldR (f_405 b) j = fldR (f b) j) → (∀ b, kd b = 12 → ∀ j, j ≠ 5 → j ≠ 23 → j ≠ 43 → fldI (f_405 b) j = fldI (f b) j) → (f_405 a_2 = .inl (cI, 1560, .inl g_396)) → ∀ (ls : Array Slot), lv_has ls 2 [(1, .int y_335), (0, .ref o0)] → W p l e (headSpec (wU yX12_ages cX12_ages 2 (some .int)) { frames := 6, cells := 0, slots := 0, locals := 152 }).room s m [.ref o0].toArray below meth c H locs 0 0 (MQ below (va_Qi (fun (r : Int32) (f9 : Nat → va_E) => GI (okc cI cL cZ cR cG cH L kd) kd L f9 ∧ ((-2147483648) ≤ r.toInt ∧ r.toInt ≤ 2147483647) ∧ (∀ b, kd b ≠ 12 → kd b ≠ 589 → kd b ≠ 597 → kd b ≠ 598 → kd b ≠ 599 → f9 b = f b) ∧ (∀ b, kd b = 12 → ∀ j, fldR (f9 b) j = fldR (f b) j) ∧ (∀ b, kd b = 12 → ∀ j, j ≠ 5 → j ≠ 23 → j ≠ 43 → fldI (f9 b) j = fldI (f b) j) ∧ (∀ (w5 z5 : Int32), fldI (f o0) 5 = some w5 → fldI (f9 o0) 5 = some z5 → z5.toInt = 0)) (qP (dC, dI) cI cL cZ cR cG cH L) (fun q => q ∈ L)) [.ref o0].toArray s 0 0 (fun q => q ∈ L)) (F0 m 102 ls []) := by
                  intro f_405 hG H locs hP hS hD hfr0 hrA12 hfA12 hfo_406 ls hl
                  obtain ⟨x_408, ex_408⟩ : ∃ y : Int32, y_335 + 1 = y := ⟨_, rfl⟩
                  have hx_408 : x_408.toInt = y_335.toInt + 1 := by rw [← ex_408, ad_I (by rw [ti_1]; omega) (by rw [ti_1]; omega), ti_1]
                  have bx_408 : (1 ≤ x_408.toInt ∧ x_408.toInt ≤ 8) := by constructor <;> omega
                  refine lv_iinc (v := x_408) (lv' := [(1, .int x_408), (0, .ref o0)]) hx hb dX12_ages_102 hl (k := 0) rfl ex_408 (by decide) rfl (fun ls hl => ?_)
                  refine lv_goto (tgt := 55) hx hb dX12_ages_105 (by decide) ?_
                  obtain ⟨a_410, a_411, a_412, v_413, a_414, v_415, v_416, v_417, v_418, v_419, v_420, v_421, v_422, v_423, v_424, a_425, a_426, a_427, a_428, a_429, a_430, a_431, a_432, v_433, v_434, v_435, v_436, v_437, a_438, v_439, a_440, a_441, v_442, v_443, a_444, v_445, a_446, a_447, v_448, v_449, a_450, a_451, a_452, v_453, a_454, a_455, a_456, a_457, a_458, a_459, a_460, a_461, a_462, v_463, v_464, a_465, hfo_409, ⟨ma_410, ka_410⟩, ⟨ma_411, ka_411⟩, ⟨ma_412, ka_412⟩, bv_413, ⟨ma_414, ka_414⟩, bv_415, bv_416, bv_421, bv_422, bv_423, ⟨ma_425, ka_425⟩, ⟨ma_426, ka_426⟩, ⟨ma_427, ka_427⟩, ⟨ma_428, ka_428⟩, ⟨ma_429, ka_429⟩, ⟨ma_430, ka_430⟩, ⟨ma_431, ka_431⟩, ⟨ma_432, ka_432⟩, bv_433, bv_435, bv_437, ⟨ma_438, ka_438⟩, bv_439, ⟨ma_440, ka_440⟩, ⟨ma_441, ka_441⟩, bv_442, ⟨ma_444, ka_444⟩, bv_445, ⟨ma_446, ka_446⟩, ⟨ma_447, ka_447⟩, bv_448, ⟨ma_450, ka_450⟩, ⟨ma_451, ka_451⟩, ⟨ma_452, ka_452⟩, bv_453, ⟨ma_454, ka_454⟩, ⟨ma_455, ka_455⟩, ⟨ma_456, ka_456⟩, ⟨ma_457, ka_457⟩, ⟨ma_458, ka_458⟩, ⟨ma_459, ka_459⟩, ⟨ma_460, ka_460⟩, ⟨ma_461, ka_461⟩, ⟨ma_462, ka_462⟩, bv_463, ⟨ma_465, ka_465⟩⟩ := un_12 (hG _ mo0) ko0
                  have bv_417 : ((-2147483648) ≤ v_417.toInt ∧ v_417.toInt ≤ 2147483647) := ⟨i32_lo _, i32_hi _⟩
                  have bv_418 : ((-2147483648) ≤ v_418.toInt ∧ v_418.toInt ≤ 2147483647) := ⟨i32_lo _, i32_hi _⟩
                  have bv_419 : ((-2147483648) ≤ v_419.toInt ∧ v_419.toInt ≤ 2147483647) := ⟨i32_lo _, i32_hi _⟩
                  have bv_420 : ((-2147483648) ≤ v_420.toInt ∧ v_420.toInt ≤ 2147483647) := ⟨i32_lo _, i32_hi _⟩
                  have bv_424 : ((-2147483648) ≤ v_424.toInt ∧ v_424.toInt ≤ 2147483647) := ⟨i32_lo _, i32_hi _⟩
                  have bv_434 : ((-2147483648) ≤ v_434.toInt ∧ v_434.toInt ≤ 2147483647) := ⟨i32_lo _, i32_hi _⟩
                  have bv_436 : ((-2147483648) ≤ v_436.toInt ∧ v_436.toInt ≤ 2147483647) := ⟨i32_lo _, i32_hi _⟩
                  have bv_443 : ((-2147483648) ≤ v_443.toInt ∧ v_443.toInt ≤ 2147483647) := ⟨i32_lo _, i32_hi _⟩
                  have bv_449 : ((-2147483648) ≤ v_449.toInt ∧ v_449.toInt ≤ 2147483647) := ⟨i32_lo _, i32_hi _⟩
                  have bv_464 : ((-2147483648) ≤ v_464.toInt ∧ v_464.toInt ≤ 2147483647) := ⟨i32_lo _, i32_hi _⟩
                  obtain ⟨rfl, rfl, rfl, rfl, rfl, rfl, rfl, rfl, rfl, rfl, rfl, rfl, rfl, rfl, rfl, rfl, rfl, rfl, rfl, rfl, rfl, rfl, rfl, rfl, rfl, rfl, rfl, rfl, rfl, rfl, rfl⟩ := re_12 hfo_1 hfo_409 (hrA12 o0 ko0)
                  obtain rfl := ri_12_3 hfo_1 hfo_409 (hfA12 o0 ko0 3 (by decide) (by decide) (by decide))
                  obtain rfl := ri_12_6 hfo_1 hfo_409 (hfA12 o0 ko0 6 (by decide) (by decide) (by decide))
                  obtain rfl := ri_12_11 hfo_1 hfo_409 (hfA12 o0 ko0 11 (by decide) (by decide) (by decide))
                  obtain rfl := ri_12_12 hfo_1 hfo_409 (hfA12 o0 ko0 12 (by decide) (by decide) (by decide))
                  obtain rfl := ri_12_13 hfo_1 hfo_409 (hfA12 o0 ko0 13 (by decide) (by decide) (by decide))
                  obtain rfl := ri_12_14 hfo_1 hfo_409 (hfA12 o0 ko0 14 (by decide) (by decide) (by decide))
                  obtain rfl := ri_12_25 hfo_1 hfo_409 (hfA12 o0 ko0 25 (by decide) (by decide) (by decide))
                  obtain rfl := ri_12_27 hfo_1 hfo_409 (hfA12 o0 ko0 27 (by decide) (by decide) (by decide))
                  obtain rfl := ri_12_29 hfo_1 hfo_409 (hfA12 o0 ko0 29 (by decide) (by decide) (by decide))
                  obtain rfl := ri_12_32 hfo_1 hfo_409 (hfA12 o0 ko0 32 (by decide) (by decide) (by decide))
                  obtain rfl := ri_12_33 hfo_1 hfo_409 (hfA12 o0 ko0 33 (by decide) (by decide) (by decide))
                  obtain rfl := ri_12_35 hfo_1 hfo_409 (hfA12 o0 ko0 35 (by decide) (by decide) (by decide))
                  obtain rfl := ri_12_38 hfo_1 hfo_409 (hfA12 o0 ko0 38 (by decide) (by decide) (by decide))
                  obtain rfl := ri_12_53 hfo_1 hfo_409 (hfA12 o0 ko0 53 (by decide) (by decide) (by decide))
                  exact ih_hloop_334 x_408 (by constructor <;> omega) f_405 hG _ _ hP hS hD hfr0 hrA12 hfA12 v_415 (by rw [hfo_409]; rfl) (by omega) (by omega) ls (lv_sub hl [0, 1] rfl)
                refine lv_icmp_ne (tgt := 102) hx hb dX12_ages_86 (by decide) (fun c_466 => ?_) (fun c_466 => ?_)
                · skip
                  rw [← Int32.toInt_inj, ti_1] at c_466
                  exact hcut_407 f_337 hG _ _ hP hS hD hfr0 hrA12 hfA12 hfo_395 ls (lv_sub hl [0, 1] rfl)
                · skip
                  rw [← Int32.toInt_inj, ti_1] at c_466
                  refine lv_aload_n hx hb dX12_ages_89 rfl (lv_at hl 1 rfl) ?_
                  refine lv_aload_n hx hb dX12_ages_90 rfl (lv_at hl 1 rfl) ?_
                  refine tk_getP (D := (dC, dI)) (ci := 12) (v := .ref a_2) (C := RX12) (T := TX12) (N := 56) hx hb hU inlX12 hown hK hP mo0 hfo_338 rfl 0 (by decide) (hU _ wd_169) (fun _ h9 => h9) rfl dX12_ages_91 ?_
                  refine lv_bipush (v := 43) hx hb dX12_ages_94 (by decide) ?_
                  refine lv_iload_n hx hb dX12_ages_96 rfl (lv_at hl 0 rfl) ?_
                  refine lv_iadd hx hb dX12_ages_97 ?_
                  refine lv_topi (fun x_467 ex_467 => ?_)
                  have hx_467 : x_467.toInt = 43 + y_335.toInt := by rw [ex_467, ad_I (by rw [ti_43]; omega) (by rw [ti_43]; omega), ti_43]
                  have bx_467 : (43 ≤ x_467.toInt ∧ x_467.toInt ≤ 50) := by constructor <;> omega
                  refine tk_ildP hx hb hK hP 0 ma_2 hfo_395 rfl (vp_in_iff.mpr (by constructor <;> omega)) dX12_ages_98 ?_
                  refine lv_topi (fun x_468 ex_468 => ?_)
                  have bx_468 : (0 ≤ x_468.toInt ∧ x_468.toInt ≤ 7) := by have hc9 := cl_I (i := x_467) (by omega); rw [ex_468]; exact hbg_396.2.2.2.2.2.2.2.2.2.1 _ (by omega) (by omega) (by omega)
                  refine tk_VvP (As := [.int x_468]) (rest := []) (n := 1) hx hb hml hown hU hN hZ (s_X12_age_k12 l (dC, dI) cI cL cZ cR cG cH Z kd L f_337 hG o0 mo0 ko0 x_468 (by constructor <;> omega)) wd_1119 wd_1120 wd_1121 wd_5 wd_1122 (by decide +kernel) ⟨Nat.le_of_ble_eq_true rfl, Nat.le_of_ble_eq_true rfl⟩ hK hP hD hS mo0 hfo_338 12 rfl rfl rfl hl.1 rfl (Nat.le_of_ble_eq_true rfl) dX12_ages_99 ⟨Nat.le_of_ble_eq_true rfl, Nat.le_of_ble_eq_true rfl⟩ (fun f_470 H locs hw hP hD hS => ?_)
                  obtain ⟨hG, hkc_471, hra_472, hfa_473, hpost_474⟩ := hw
                  have hfo_476 : f_470 a_2 = .inl (cI, 1560, .inl g_396) := by rw [hkc_471 a_2 (by rw [ka_2]; decide) (by rw [ka_2]; decide) (by rw [ka_2]; decide) (by rw [ka_2]; decide)]; exact hfo_395
                  have hfr0 : ∀ b, kd b ≠ 12 → kd b ≠ 589 → kd b ≠ 597 → kd b ≠ 598 → kd b ≠ 599 → f_470 b = f b := fun b q12 q589 q597 q598 q599 => (hkc_471 b q12 q597 q598 q599).trans (hfr0 b q12 q589 q597 q598 q599)
                  have hrA12 : ∀ b, kd b = 12 → ∀ j, fldR (f_470 b) j = fldR (f b) j := fun b kb j => (hra_472 b kb j).trans (hrA12 b kb j)
                  have hfA12 : ∀ b, kd b = 12 → ∀ j, j ≠ 5 → j ≠ 23 → j ≠ 43 → fldI (f_470 b) j = fldI (f b) j := fun b kb j n5 n23 n43 => (hfa_473 b kb j n43).trans (hfA12 b kb j n5 n23 n43)
                  obtain ⟨a_478, a_479, a_480, v_481, a_482, v_483, v_484, v_485, v_486, v_487, v_488, v_489, v_490, v_491, v_492, a_493, a_494, a_495, a_496, a_497, a_498, a_499, a_500, v_501, v_502, v_503, v_504, v_505, a_506, v_507, a_508, a_509, v_510, v_511, a_512, v_513, a_514, a_515, v_516, v_517, a_518, a_519, a_520, v_521, a_522, a_523, a_524, a_525, a_526, a_527, a_528, a_529, a_530, v_531, v_532, a_533, hfo_477, ⟨ma_478, ka_478⟩, ⟨ma_479, ka_479⟩, ⟨ma_480, ka_480⟩, bv_481, ⟨ma_482, ka_482⟩, bv_483, bv_484, bv_489, bv_490, bv_491, ⟨ma_493, ka_493⟩, ⟨ma_494, ka_494⟩, ⟨ma_495, ka_495⟩, ⟨ma_496, ka_496⟩, ⟨ma_497, ka_497⟩, ⟨ma_498, ka_498⟩, ⟨ma_499, ka_499⟩, ⟨ma_500, ka_500⟩, bv_501, bv_503, bv_505, ⟨ma_506, ka_506⟩, bv_507, ⟨ma_508, ka_508⟩, ⟨ma_509, ka_509⟩, bv_510, ⟨ma_512, ka_512⟩, bv_513, ⟨ma_514, ka_514⟩, ⟨ma_515, ka_515⟩, bv_516, ⟨ma_518, ka_518⟩, ⟨ma_519, ka_519⟩, ⟨ma_520, ka_520⟩, bv_521, ⟨ma_522, ka_522⟩, ⟨ma_523, ka_523⟩, ⟨ma_524, ka_524⟩, ⟨ma_525, ka_525⟩, ⟨ma_526, ka_526⟩, ⟨ma_527, ka_527⟩, ⟨ma_528, ka_528⟩, ⟨ma_529, ka_529⟩, ⟨ma_530, ka_530⟩, bv_531, ⟨ma_533, ka_533⟩⟩ := un_12 (hG _ mo0) ko0
                  have bv_485 : ((-2147483648) ≤ v_485.toInt ∧ v_485.toInt ≤ 2147483647) := ⟨i32_lo _, i32_hi _⟩
                  have bv_486 : ((-2147483648) ≤ v_486.toInt ∧ v_486.toInt ≤ 2147483647) := ⟨i32_lo _, i32_hi _⟩
                  have bv_487 : ((-2147483648) ≤ v_487.toInt ∧ v_487.toInt ≤ 2147483647) := ⟨i32_lo _, i32_hi _⟩
                  have bv_488 : ((-2147483648) ≤ v_488.toInt ∧ v_488.toInt ≤ 2147483647) := ⟨i32_lo _, i32_hi _⟩
                  have bv_492 : ((-2147483648) ≤ v_492.toInt ∧ v_492.toInt ≤ 2147483647) := ⟨i32_lo _, i32_hi _⟩
                  have bv_502 : ((-2147483648) ≤ v_502.toInt ∧ v_502.toInt ≤ 2147483647) := ⟨i32_lo _, i32_hi _⟩
                  have bv_504 : ((-2147483648) ≤ v_504.toInt ∧ v_504.toInt ≤ 2147483647) := ⟨i32_lo _, i32_hi _⟩
                  have bv_511 : ((-2147483648) ≤ v_511.toInt ∧ v_511.toInt ≤ 2147483647) := ⟨i32_lo _, i32_hi _⟩
                  have bv_517 : ((-2147483648) ≤ v_517.toInt ∧ v_517.toInt ≤ 2147483647) := ⟨i32_lo _, i32_hi _⟩
                  have bv_532 : ((-2147483648) ≤ v_532.toInt ∧ v_532.toInt ≤ 2147483647) := ⟨i32_lo _, i32_hi _⟩
                  obtain ⟨rfl, rfl, rfl, rfl, rfl, rfl, rfl, rfl, rfl, rfl, rfl, rfl, rfl, rfl, rfl, rfl, rfl, rfl, rfl, rfl, rfl, rfl, rfl, rfl, rfl, rfl, rfl, rfl, rfl, rfl, rfl⟩ := re_12 hfo_1 hfo_477 (hrA12 o0 ko0)
                  obtain rfl := ri_12_3 hfo_1 hfo_477 (hfA12 o0 ko0 3 (by decide) (by decide) (by decide))
                  obtain rfl := ri_12_6 hfo_1 hfo_477 (hfA12 o0 ko0 6 (by decide) (by decide) (by decide))
                  obtain rfl := ri_12_11 hfo_1 hfo_477 (hfA12 o0 ko0 11 (by decide) (by decide) (by decide))
                  obtain rfl := ri_12_12 hfo_1 hfo_477 (hfA12 o0 ko0 12 (by decide) (by decide) (by decide))
                  obtain rfl := ri_12_13 hfo_1 hfo_477 (hfA12 o0 ko0 13 (by decide) (by decide) (by decide))
                  obtain rfl := ri_12_14 hfo_1 hfo_477 (hfA12 o0 ko0 14 (by decide) (by decide) (by decide))
                  obtain rfl := ri_12_25 hfo_1 hfo_477 (hfA12 o0 ko0 25 (by decide) (by decide) (by decide))
                  obtain rfl := ri_12_27 hfo_1 hfo_477 (hfA12 o0 ko0 27 (by decide) (by decide) (by decide))
                  obtain rfl := ri_12_29 hfo_1 hfo_477 (hfA12 o0 ko0 29 (by decide) (by decide) (by decide))
                  obtain rfl := ri_12_32 hfo_1 hfo_477 (hfA12 o0 ko0 32 (by decide) (by decide) (by decide))
                  obtain rfl := ri_12_33 hfo_1 hfo_477 (hfA12 o0 ko0 33 (by decide) (by decide) (by decide))
                  obtain rfl := ri_12_35 hfo_1 hfo_477 (hfA12 o0 ko0 35 (by decide) (by decide) (by decide))
                  obtain rfl := ri_12_38 hfo_1 hfo_477 (hfA12 o0 ko0 38 (by decide) (by decide) (by decide))
                  obtain rfl := ri_12_53 hfo_1 hfo_477 (hfA12 o0 ko0 53 (by decide) (by decide) (by decide))
                  obtain rfl := ri_12_5 hfo_338 hfo_477 (hfa_473 o0 ko0 5 (by decide))
                  obtain rfl := ri_12_23 hfo_338 hfo_477 (hfa_473 o0 ko0 23 (by decide))
                  have hqhpost_474 := hpost_474 v_382 v_521 (by rw [hfo_338]; rfl) (by rw [hfo_477]; rfl)
                  exact hcut_407 f_470 hG _ _ hP hS hD hfr0 hrA12 hfA12 hfo_476 ls (lv_sub hl [0, 1] rfl)
          exact hloop_334 9 0 (by decide) f_148 hG _ _ hP hS hD hfr0 hrA12 hfA12 v_74 (by rw [hfo_149]; rfl) (by (try rw [ti_0]) <;> omega) (by (try rw [ti_0]) <;> omega) ls hl
        · skip
          rw [Int32.le_iff_toInt_le] at c_150
          refine lv_aload_n hx hb dX12_ages_35 rfl (lv_at hl 1 rfl) ?_
          refine tk_getP (D := (dC, dI)) (ci := 12) (v := .ref a_42) (C := RX12) (T := TX12) (N := 56) hx hb hU inlX12 hown hK hP mo0 hfo_149 rfl 40 (by decide) (hU _ wd_190) (fun _ h9 => h9) rfl dX12_ages_36 ?_
          refine lv_iload_n hx hb dX12_ages_39 rfl (lv_at hl 0 rfl) ?_
          refine lv_aload_n hx hb dX12_ages_40 rfl (lv_at hl 1 rfl) ?_
          refine tk_getP (D := (dC, dI)) (ci := 12) (v := .ref a_23) (C := RX12) (T := TX12) (N := 56) hx hb hU inlX12 hown hK hP mo0 hfo_149 rfl 21 (by decide) (hU _ wd_181) (fun _ h9 => h9) rfl dX12_ages_41 ?_
          refine lv_iload_n hx hb dX12_ages_44 rfl (lv_at hl 0 rfl) ?_
          obtain ⟨g_535, hfo_534, hbg_535⟩ := un_589 (hG _ ma_23) ka_23
          refine tk_ildP hx hb hK hP 0 ma_23 hfo_534 rfl (vp_in_iff.mpr (by constructor <;> omega)) dX12_ages_45 ?_
          refine lv_topi (fun x_536 ex_536 => ?_)
          have bx_536 : (0 ≤ x_536.toInt ∧ x_536.toInt ≤ 8) := by rw [ex_536]; exact hbg_535 _
          obtain ⟨g_538, hfo_537, hbg_538⟩ := un_597 (hG _ ma_42) ka_42
          refine tk_istP hx hb hK hP hD hS 0 ma_42 hfo_537 rfl (vp_in_iff.mpr (by constructor <;> omega)) dX12_ages_46 (fun H locs hP hD hS => ?_)
          obtain ⟨f_540, ef_540⟩ : ∃ y : Nat → va_E, y = va_up f_148 a_42 (.inl (cI, 16, .inl (upd g_538 (Int32.toNatClampNeg y_146) x_536))) := ⟨_, rfl⟩
          have hP : va_P (dC, dI) vwCl (va_pl L f_540) H := by rw [ef_540]; exact hP
          have hD : va_D (fun q => q ∈ L) (va_pl L f_540) := by rw [ef_540]; exact hD
          have hG : GI (okc cI cL cZ cR cG cH L kd) kd L f_540 := by rw [ef_540]; exact hG.set a_42 (mk_597 ka_42 ⟨_, rfl, okI_up hbg_538 (by constructor <;> omega) _⟩)
          have hfo_541 : f_540 o0 = .inr (12, [.ref a_2, .ref a_3, .ref a_4, .int v_5, .ref a_6, .int v_74, .int v_8, .int v_76, .int v_77, .int v_78, .int v_79, .int v_13, .int v_14, .int v_15, .int v_16, .ref a_17, .ref a_18, .ref a_19, .ref a_20, .ref a_21, .ref a_22, .ref a_23, .ref a_24, .int v_92, .int v_93, .int v_27, .int v_95, .int v_29, .ref a_30, .int v_31, .ref a_32, .ref a_33, .int v_34, .int v_35, .ref a_36, .int v_37, .ref a_38, .ref a_39, .int v_40, .int v_108, .ref a_42, .ref a_43, .ref a_44, .int v_92, .ref a_46, .ref a_47, .ref a_48, .ref a_49, .ref a_50, .ref a_51, .ref a_52, .ref a_53, .ref a_54, .int v_55, .int v_123, .ref a_57]) := by rw [ef_540, up_ne (kd_ne ka_42 ko0 (by decide))]; exact hfo_149
          have hfo_542 : f_540 a_23 = .inl (cI, 16, .inl g_535) := by rw [ef_540, up_ne (kd_ne ka_42 ka_23 (by decide))]; exact hfo_534
          have hfr0 : ∀ b, kd b ≠ 12 → kd b ≠ 589 → kd b ≠ 597 → kd b ≠ 598 → kd b ≠ 599 → f_540 b = f b := fun b q12 q589 q597 q598 q599 => (congrFun ef_540 b).trans ((up_ne (fun e9 => q597 (by rw [e9]; exact ka_42))).trans (hfr0 b q12 q589 q597 q598 q599))
          have hrA12 : ∀ b, kd b = 12 → ∀ j, fldR (f_540 b) j = fldR (f b) j := fun b kb j => (congrArg (fun x => fldR x j) ((congrFun ef_540 b).trans (up_ne (kd_ne ka_42 kb (by decide))))).trans (hrA12 b kb j)
          have hfA12 : ∀ b, kd b = 12 → ∀ j, j ≠ 5 → j ≠ 23 → j ≠ 43 → fldI (f_540 b) j = fldI (f b) j := fun b kb j n5 n23 n43 => (congrArg (fun x => fldI x j) ((congrFun ef_540 b).trans (up_ne (kd_ne ka_42 kb (by decide))))).trans (hfA12 b kb j n5 n23 n43)
          have hfo_543 : f_540 a_42 = .inl (cI, 16, .inl (upd g_538 (Int32.toNatClampNeg y_146) x_536)) := by rw [ef_540]; exact up_self
          obtain ⟨x_544, ex_544⟩ : ∃ y : Int32, y_146 + 1 = y := ⟨_, rfl⟩
          have hx_544 : x_544.toInt = y_146.toInt + 1 := by rw [← ex_544, ad_I (by rw [ti_1]; omega) (by rw [ti_1]; omega), ti_1]
          have bx_544 : (1 ≤ x_544.toInt ∧ x_544.toInt ≤ 8) := by constructor <;> omega
          refine lv_iinc (v := x_544) (lv' := [(1, .int x_544), (0, .ref o0)]) hx hb dX12_ages_47 hl (k := 0) rfl ex_544 (by decide) rfl (fun ls hl => ?_)
          refine lv_goto (tgt := 27) hx hb dX12_ages_50 (by decide) ?_
          exact ih_hloop_145 x_544 (by constructor <;> omega) f_540 hG _ _ hP hS hD hfr0 hrA12 hfA12 hfo_541 (by omega) ls (lv_sub hl [0, 1] rfl)
    exact hloop_145 9 0 (by decide) f_128 hG _ _ hP hS hD hfr0 hrA12 hfA12 hfo_129 (by (try rw [ti_0]) <;> omega) ls hl
  · skip
    rw [← Int32.toInt_inj, ti_0] at c_125
    refine lv_iconst (v := (-1)) hx hb dX12_ages_15 (by decide) ?_
    exact W.iret (v := (-1)) hx hb hr (fun t ht hW => ⟨⟨(-1), f_62, rfl, ⟨hG, (by decide), hfr0, hrA12, hfA12, (by intro w5 z5 e5 d5; rw [hfo_1] at e5; rw [hfo_68] at d5; obtain rfl := Option.some.inj e5; obtain rfl := Option.some.inj d5; (try rw [ti_m1]) <;> omega)⟩, by rw [ht]; exact hP, va_K.moved hW.alike hK, pl_in hD⟩, hS.F ht⟩) hS.2.2 dX12_ages_16
set_option maxHeartbeats 8000000 in
set_option maxRecDepth 100000 in
theorem s_X12_aged_k12 (l : Launch) (D : va_G) (cI cL cZ cR cG cH : ClassId) (Z : zT) (kd : Nat → Nat) (L : List Nat) (f : Nat → va_E) (hG : GI (okc cI cL cZ cR cG cH L kd) kd L f) (o0 : Nat) (mo0 : o0 ∈ L) (ko0 : kd o0 = 12) (p1 : Int32) : mPI l D cI cL cZ cR cG cH Z yX12_aged cX12_aged 2 (some .int) 1 22 [.ref o0, .int p1] L f (fun (r : Int32) (f9 : Nat → va_E) => f = f9 ∧ ((-2147483648) ≤ r.toInt ∧ r.toInt ≤ 2147483647)) := by
  obtain ⟨dC, dI⟩ := D
  refine Met.ofW (cc := cX12_aged) (maxL := 2) (ret := (some .int)) (by decide) rfl ?_
  intro p e s m args below meth c s₁ B hml hv
  obtain ⟨rfl, hP, hK, hD0, hN, hZ⟩ := hv
  have hx := B.exec
  have hb := B.bytes
  have hr := B.returns
  have hU : ∀ w ∈ wsU, w.before _ s = true := fun w h => atoms_spec (ws := wU yX12_aged cX12_aged 2 (some .int)) B.pre w (List.mem_cons_of_mem _ h)
  have hown : s.vm.findClass RX12 = some m.cls := findClass_of_methodNamed B.named
  have hlocks := B.notSynchronized
  have hD := pl_in hD0
  have hS : va_S (fun q => q ∈ L) s.heap s.heap [] := va_S.rf
  have hl := lv_entry ([.ref o0, .int p1]) (n := 2) (Nat.le_of_ble_eq_true rfl)
  rw [lg_entry_eq]
  generalize (lg_sl ([.ref o0, .int p1]) ++ List.replicate (2 - (lg_sl ([.ref o0, .int p1])).length) Slot.unset).toArray = ls at hl ⊢
  have hl : lv_has ls 2 [(0, .ref o0), (1, .int p1)] := hl
  have bp1 : ((-2147483648) ≤ p1.toInt ∧ p1.toInt ≤ 2147483647) := ⟨i32_lo _, i32_hi _⟩
  refine lv_iload_n hx hb dX12_aged_0 rfl (lv_at hl 1 rfl) ?_
  refine lv_iconst (v := 0) hx hb dX12_aged_1 (by decide) ?_
  refine lv_aload_n hx hb dX12_aged_2 rfl (lv_at hl 0 rfl) ?_
  obtain ⟨a_2, a_3, a_4, v_5, a_6, v_7, v_8, v_9, v_10, v_11, v_12, v_13, v_14, v_15, v_16, a_17, a_18, a_19, a_20, a_21, a_22, a_23, a_24, v_25, v_26, v_27, v_28, v_29, a_30, v_31, a_32, a_33, v_34, v_35, a_36, v_37, a_38, a_39, v_40, v_41, a_42, a_43, a_44, v_45, a_46, a_47, a_48, a_49, a_50, a_51, a_52, a_53, a_54, v_55, v_56, a_57, hfo_1, ⟨ma_2, ka_2⟩, ⟨ma_3, ka_3⟩, ⟨ma_4, ka_4⟩, bv_5, ⟨ma_6, ka_6⟩, bv_7, bv_8, bv_13, bv_14, bv_15, ⟨ma_17, ka_17⟩, ⟨ma_18, ka_18⟩, ⟨ma_19, ka_19⟩, ⟨ma_20, ka_20⟩, ⟨ma_21, ka_21⟩, ⟨ma_22, ka_22⟩, ⟨ma_23, ka_23⟩, ⟨ma_24, ka_24⟩, bv_25, bv_27, bv_29, ⟨ma_30, ka_30⟩, bv_31, ⟨ma_32, ka_32⟩, ⟨ma_33, ka_33⟩, bv_34, ⟨ma_36, ka_36⟩, bv_37, ⟨ma_38, ka_38⟩, ⟨ma_39, ka_39⟩, bv_40, ⟨ma_42, ka_42⟩, ⟨ma_43, ka_43⟩, ⟨ma_44, ka_44⟩, bv_45, ⟨ma_46, ka_46⟩, ⟨ma_47, ka_47⟩, ⟨ma_48, ka_48⟩, ⟨ma_49, ka_49⟩, ⟨ma_50, ka_50⟩, ⟨ma_51, ka_51⟩, ⟨ma_52, ka_52⟩, ⟨ma_53, ka_53⟩, ⟨ma_54, ka_54⟩, bv_55, ⟨ma_57, ka_57⟩⟩ := un_12 (hG _ mo0) ko0
  have bv_9 : ((-2147483648) ≤ v_9.toInt ∧ v_9.toInt ≤ 2147483647) := ⟨i32_lo _, i32_hi _⟩
  have bv_10 : ((-2147483648) ≤ v_10.toInt ∧ v_10.toInt ≤ 2147483647) := ⟨i32_lo _, i32_hi _⟩
  have bv_11 : ((-2147483648) ≤ v_11.toInt ∧ v_11.toInt ≤ 2147483647) := ⟨i32_lo _, i32_hi _⟩
  have bv_12 : ((-2147483648) ≤ v_12.toInt ∧ v_12.toInt ≤ 2147483647) := ⟨i32_lo _, i32_hi _⟩
  have bv_16 : ((-2147483648) ≤ v_16.toInt ∧ v_16.toInt ≤ 2147483647) := ⟨i32_lo _, i32_hi _⟩
  have bv_26 : ((-2147483648) ≤ v_26.toInt ∧ v_26.toInt ≤ 2147483647) := ⟨i32_lo _, i32_hi _⟩
  have bv_28 : ((-2147483648) ≤ v_28.toInt ∧ v_28.toInt ≤ 2147483647) := ⟨i32_lo _, i32_hi _⟩
  have bv_35 : ((-2147483648) ≤ v_35.toInt ∧ v_35.toInt ≤ 2147483647) := ⟨i32_lo _, i32_hi _⟩
  have bv_41 : ((-2147483648) ≤ v_41.toInt ∧ v_41.toInt ≤ 2147483647) := ⟨i32_lo _, i32_hi _⟩
  have bv_56 : ((-2147483648) ≤ v_56.toInt ∧ v_56.toInt ≤ 2147483647) := ⟨i32_lo _, i32_hi _⟩
  refine tk_getP (D := (dC, dI)) (ci := 12) (v := .int v_45) (C := RX12) (T := TX12) (N := 56) hx hb hU inlX12 hown hK hP mo0 hfo_1 rfl 43 (by decide) (hU _ wd_572) (fun _ h9 => h9) rfl dX12_aged_3 ?_
  refine lv_iconst (v := 1) hx hb dX12_aged_6 (by decide) ?_
  refine lv_isub hx hb dX12_aged_7 ?_
  refine lv_topi (fun x_58 ex_58 => ?_)
  have hx_58 : x_58.toInt = v_45.toInt - 1 := by rw [ex_58, sb_I (by rw [ti_1]; omega) (by rw [ti_1]; omega), ti_1]
  have bx_58 : ((-1) ≤ x_58.toInt ∧ x_58.toInt ≤ 7) := by constructor <;> omega
  refine tk_SiP (As := [.int p1, .int 0, .int x_58]) (rest := []) (n := 3) hx hb hml hown hU hN hZ (s_X12_isIn l (dC, dI) cI cL cZ cR cG cH Z kd L f hG p1 0 x_58) wd_227 wd_228 wd_5 wd_229 (by decide +kernel) ⟨Nat.le_of_ble_eq_true rfl, Nat.le_of_ble_eq_true rfl⟩ hK hP hD hS rfl hl.1 rfl (Nat.le_of_ble_eq_true rfl) dX12_aged_8 ⟨Nat.le_of_ble_eq_true rfl, Nat.le_of_ble_eq_true rfl⟩ (fun x_59 f_60 H locs hw hP hD hS => ?_)
  obtain ⟨rfl, bx_59, relx_59⟩ := hw
  try rw [ti_0] at relx_59
  refine lv_if_eq (tgt := 25) hx hb dX12_aged_11 (by decide) (fun c_62 => ?_) (fun c_62 => ?_)
  · skip
    rw [← Int32.toInt_inj, ti_0] at c_62
    refine lv_iconst (v := (-1)) hx hb dX12_aged_25 (by decide) ?_
    exact W.iret (v := (-1)) hx hb hr (fun t ht hW => ⟨⟨(-1), f, rfl, ⟨rfl, (by decide)⟩, by rw [ht]; exact hP, va_K.moved hW.alike hK, pl_in hD⟩, hS.F ht⟩) hS.2.2 dX12_aged_26
  · skip
    rw [← Int32.toInt_inj, ti_0] at c_62
    refine lv_aload_n hx hb dX12_aged_14 rfl (lv_at hl 0 rfl) ?_
    refine tk_getP (D := (dC, dI)) (ci := 12) (v := .ref a_42) (C := RX12) (T := TX12) (N := 56) hx hb hU inlX12 hown hK hP mo0 hfo_1 rfl 40 (by decide) (hU _ wd_190) (fun _ h9 => h9) rfl dX12_aged_15 ?_
    refine lv_iload_n hx hb dX12_aged_18 rfl (lv_at hl 1 rfl) ?_
    obtain ⟨g_64, hfo_63, hbg_64⟩ := un_597 (hG _ ma_42) ka_42
    refine tk_ildP hx hb hK hP 0 ma_42 hfo_63 rfl (vp_in_iff.mpr (by constructor <;> omega)) dX12_aged_19 ?_
    refine lv_topi (fun x_65 ex_65 => ?_)
    have bx_65 : (0 ≤ x_65.toInt ∧ x_65.toInt ≤ 8) := by rw [ex_65]; exact hbg_64 _
    refine lv_iconst (v := 1) hx hb dX12_aged_20 (by decide) ?_
    refine lv_isub hx hb dX12_aged_21 ?_
    refine lv_topi (fun x_66 ex_66 => ?_)
    have hx_66 : x_66.toInt = x_65.toInt - 1 := by rw [ex_66, sb_I (by rw [ti_1]; omega) (by rw [ti_1]; omega), ti_1]
    have bx_66 : ((-1) ≤ x_66.toInt ∧ x_66.toInt ≤ 7) := by constructor <;> omega
    refine lv_goto (tgt := 26) hx hb dX12_aged_22 (by decide) ?_
    exact W.iret (v := x_66) hx hb hr (fun t ht hW => ⟨⟨x_66, f, rfl, ⟨rfl, (by constructor <;> omega)⟩, by rw [ht]; exact hP, va_K.moved hW.alike hK, pl_in hD⟩, hS.F ht⟩) hS.2.2 dX12_aged_26
set_option maxHeartbeats 8000000 in
set_option maxRecDepth 100000 in
theorem s_X12_sideGoes_k12 (l : Launch) (D : va_G) (cI cL cZ cR cG cH : ClassId) (Z : zT) (kd : Nat → Nat) (L : List Nat) (f : Nat → va_E) (hG : GI (okc cI cL cZ cR cG cH L kd) kd L f) (o0 : Nat) (mo0 : o0 ∈ L) (ko0 : kd o0 = 12) (p1 : Int32) (bp1 : (0 ≤ p1.toInt ∧ p1.toInt ≤ 23)) (p2 : Int32) (bp2 : (0 ≤ p2.toInt ∧ p2.toInt ≤ 1)) (p3 : Int32) (p4 : Int32) : mPI l D cI cL cZ cR cG cH Z yX12_sideGoes cX12_sideGoes 5 (some .int) 3 76 [.ref o0, .int p1, .int p2, .int p3, .int p4] L f (fun (r : Int32) (f9 : Nat → va_E) => f = f9 ∧ (0 ≤ r.toInt ∧ r.toInt ≤ 63)) := by
  obtain ⟨dC, dI⟩ := D
  refine Met.ofW (cc := cX12_sideGoes) (maxL := 5) (ret := (some .int)) (by decide) rfl ?_
  intro p e s m args below meth c s₁ B hml hv
  obtain ⟨rfl, hP, hK, hD0, hN, hZ⟩ := hv
  have hx := B.exec
  have hb := B.bytes
  have hr := B.returns
  have hU : ∀ w ∈ wsU, w.before _ s = true := fun w h => atoms_spec (ws := wU yX12_sideGoes cX12_sideGoes 5 (some .int)) B.pre w (List.mem_cons_of_mem _ h)
  have hown : s.vm.findClass RX12 = some m.cls := findClass_of_methodNamed B.named
  have hlocks := B.notSynchronized
  have hD := pl_in hD0
  have hS : va_S (fun q => q ∈ L) s.heap s.heap [] := va_S.rf
  have hl := lv_entry ([.ref o0, .int p1, .int p2, .int p3, .int p4]) (n := 5) (Nat.le_of_ble_eq_true rfl)
  rw [lg_entry_eq]
  generalize (lg_sl ([.ref o0, .int p1, .int p2, .int p3, .int p4]) ++ List.replicate (5 - (lg_sl ([.ref o0, .int p1, .int p2, .int p3, .int p4])).length) Slot.unset).toArray = ls at hl ⊢
  have hl : lv_has ls 5 [(0, .ref o0), (1, .int p1), (2, .int p2), (3, .int p3), (4, .int p4)] := hl
  have bp3 : ((-2147483648) ≤ p3.toInt ∧ p3.toInt ≤ 2147483647) := ⟨i32_lo _, i32_hi _⟩
  have bp4 : ((-2147483648) ≤ p4.toInt ∧ p4.toInt ≤ 2147483647) := ⟨i32_lo _, i32_hi _⟩
  refine lv_iload_n hx hb dX12_sideGoes_0 rfl (lv_at hl 2 rfl) ?_
  refine lv_iconst (v := 1) hx hb dX12_sideGoes_1 (by decide) ?_
  refine lv_icmp_ne (tgt := 23) hx hb dX12_sideGoes_2 (by decide) (fun c_1 => ?_) (fun c_1 => ?_)
  · skip
    rw [← Int32.toInt_inj, ti_1] at c_1
    refine lv_aload_n hx hb dX12_sideGoes_23 rfl (lv_at hl 0 rfl) ?_
    refine lv_iload_n hx hb dX12_sideGoes_24 rfl (lv_at hl 1 rfl) ?_
    refine lv_iload_n hx hb dX12_sideGoes_25 rfl (lv_at hl 2 rfl) ?_
    refine lv_iload_n hx hb dX12_sideGoes_26 rfl (lv_at hl 3 rfl) ?_
    refine lv_iload hx hb dX12_sideGoes_27 (lv_at hl 4 rfl) ?_
    obtain ⟨a_3, a_4, a_5, v_6, a_7, v_8, v_9, v_10, v_11, v_12, v_13, v_14, v_15, v_16, v_17, a_18, a_19, a_20, a_21, a_22, a_23, a_24, a_25, v_26, v_27, v_28, v_29, v_30, a_31, v_32, a_33, a_34, v_35, v_36, a_37, v_38, a_39, a_40, v_41, v_42, a_43, a_44, a_45, v_46, a_47, a_48, a_49, a_50, a_51, a_52, a_53, a_54, a_55, v_56, v_57, a_58, hfo_2, ⟨ma_3, ka_3⟩, ⟨ma_4, ka_4⟩, ⟨ma_5, ka_5⟩, bv_6, ⟨ma_7, ka_7⟩, bv_8, bv_9, bv_14, bv_15, bv_16, ⟨ma_18, ka_18⟩, ⟨ma_19, ka_19⟩, ⟨ma_20, ka_20⟩, ⟨ma_21, ka_21⟩, ⟨ma_22, ka_22⟩, ⟨ma_23, ka_23⟩, ⟨ma_24, ka_24⟩, ⟨ma_25, ka_25⟩, bv_26, bv_28, bv_30, ⟨ma_31, ka_31⟩, bv_32, ⟨ma_33, ka_33⟩, ⟨ma_34, ka_34⟩, bv_35, ⟨ma_37, ka_37⟩, bv_38, ⟨ma_39, ka_39⟩, ⟨ma_40, ka_40⟩, bv_41, ⟨ma_43, ka_43⟩, ⟨ma_44, ka_44⟩, ⟨ma_45, ka_45⟩, bv_46, ⟨ma_47, ka_47⟩, ⟨ma_48, ka_48⟩, ⟨ma_49, ka_49⟩, ⟨ma_50, ka_50⟩, ⟨ma_51, ka_51⟩, ⟨ma_52, ka_52⟩, ⟨ma_53, ka_53⟩, ⟨ma_54, ka_54⟩, ⟨ma_55, ka_55⟩, bv_56, ⟨ma_58, ka_58⟩⟩ := un_12 (hG _ mo0) ko0
    have bv_10 : ((-2147483648) ≤ v_10.toInt ∧ v_10.toInt ≤ 2147483647) := ⟨i32_lo _, i32_hi _⟩
    have bv_11 : ((-2147483648) ≤ v_11.toInt ∧ v_11.toInt ≤ 2147483647) := ⟨i32_lo _, i32_hi _⟩
    have bv_12 : ((-2147483648) ≤ v_12.toInt ∧ v_12.toInt ≤ 2147483647) := ⟨i32_lo _, i32_hi _⟩
    have bv_13 : ((-2147483648) ≤ v_13.toInt ∧ v_13.toInt ≤ 2147483647) := ⟨i32_lo _, i32_hi _⟩
    have bv_17 : ((-2147483648) ≤ v_17.toInt ∧ v_17.toInt ≤ 2147483647) := ⟨i32_lo _, i32_hi _⟩
    have bv_27 : ((-2147483648) ≤ v_27.toInt ∧ v_27.toInt ≤ 2147483647) := ⟨i32_lo _, i32_hi _⟩
    have bv_29 : ((-2147483648) ≤ v_29.toInt ∧ v_29.toInt ≤ 2147483647) := ⟨i32_lo _, i32_hi _⟩
    have bv_36 : ((-2147483648) ≤ v_36.toInt ∧ v_36.toInt ≤ 2147483647) := ⟨i32_lo _, i32_hi _⟩
    have bv_42 : ((-2147483648) ≤ v_42.toInt ∧ v_42.toInt ≤ 2147483647) := ⟨i32_lo _, i32_hi _⟩
    have bv_57 : ((-2147483648) ≤ v_57.toInt ∧ v_57.toInt ≤ 2147483647) := ⟨i32_lo _, i32_hi _⟩
    refine tk_ViP (As := [.int p1, .int p2, .int p3, .int p4]) (rest := []) (n := 4) hx hb hml hown hU hN hZ (s_X12_goesOn_k12 l (dC, dI) cI cL cZ cR cG cH Z kd L f hG o0 mo0 ko0 p1 (by constructor <;> omega) p2 (by constructor <;> omega) p3 p4) wd_942 wd_943 wd_944 wd_5 wd_945 (by decide +kernel) ⟨Nat.le_of_ble_eq_true rfl, Nat.le_of_ble_eq_true rfl⟩ hK hP hD hS mo0 hfo_2 12 rfl rfl rfl hl.1 rfl (Nat.le_of_ble_eq_true rfl) dX12_sideGoes_29 ⟨Nat.le_of_ble_eq_true rfl, Nat.le_of_ble_eq_true rfl⟩ (fun x_59 f_60 H locs hw hP hD hS => ?_)
    obtain ⟨rfl, bx_59⟩ := hw
    refine lv_iload_n hx hb dX12_sideGoes_32 rfl (lv_at hl 2 rfl) ?_
    refine lv_iconst (v := 1) hx hb dX12_sideGoes_33 (by decide) ?_
    have hcut_64 : ∀ (y_62 : Int32), (0 ≤ y_62.toInt ∧ y_62.toInt ≤ 63) → ∀ (H : Heap) (locs : List Loc), va_P (dC, dI) vwCl (va_pl L f) H → va_S (fun q => q ∈ L) s.heap H locs → ∀ (ls : Array Slot), lv_has ls 5 [(0, .ref o0), (1, .int p1), (2, .int p2), (3, .int p3), (4, .int p4)] → W p l e (headSpec (wU yX12_sideGoes cX12_sideGoes 5 (some .int)) { frames := 3, cells := 0, slots := 0, locals := 76 }).room s m [.ref o0, .int p1, .int p2, .int p3, .int p4].toArray below meth c H locs 0 0 (MQ below (va_Qi (fun (r : Int32) (f9 : Nat → va_E) => f = f9 ∧ (0 ≤ r.toInt ∧ r.toInt ≤ 63)) (qP (dC, dI) cI cL cZ cR cG cH L) (fun q => q ∈ L)) [.ref o0, .int p1, .int p2, .int p3, .int p4].toArray s 0 0 (fun q => q ∈ L)) (F0 m 57 ls [.int y_62, .int x_59]) := by
      intro y_62 by_62 H locs hP hS ls hl
      refine lv_ior hx hb dX12_sideGoes_57 ?_
      refine lv_topi (fun x_65 ex_65 => ?_)
      have bx_65 : (0 ≤ x_65.toInt ∧ x_65.toInt ≤ 63) := by rw [ex_65]; exact or_K 6 (by decide) (by constructor <;> omega) (by constructor <;> omega)
      exact W.iret (v := x_65) hx hb hr (fun t ht hW => ⟨⟨x_65, f, rfl, ⟨rfl, (by constructor <;> omega)⟩, by rw [ht]; exact hP, va_K.moved hW.alike hK, pl_in hD⟩, hS.F ht⟩) hS.2.2 dX12_sideGoes_58
    refine lv_icmp_eq (tgt := 46) hx hb dX12_sideGoes_34 (by decide) (fun c_66 => ?_) (fun c_66 => ?_)
    · skip
      rw [← Int32.toInt_inj, ti_1] at c_66
      exfalso
      omega
    · skip
      rw [← Int32.toInt_inj, ti_1] at c_66
      refine lv_aload_n hx hb dX12_sideGoes_37 rfl (lv_at hl 0 rfl) ?_
      refine lv_iload_n hx hb dX12_sideGoes_38 rfl (lv_at hl 1 rfl) ?_
      refine lv_iconst (v := 0) hx hb dX12_sideGoes_39 (by decide) ?_
      refine tk_ViP (As := [.int p1, .int 0]) (rest := [.int x_59]) (n := 2) hx hb hml hown hU hN hZ (s_X12_isAnchored_k12 l (dC, dI) cI cL cZ cR cG cH Z kd L f hG o0 mo0 ko0 p1 (by constructor <;> omega) 0 (by decide)) wd_946 wd_947 wd_948 wd_5 wd_949 (by decide +kernel) ⟨Nat.le_of_ble_eq_true rfl, Nat.le_of_ble_eq_true rfl⟩ hK hP hD hS mo0 hfo_2 12 rfl rfl rfl hl.1 rfl (Nat.le_of_ble_eq_true rfl) dX12_sideGoes_40 ⟨Nat.le_of_ble_eq_true rfl, Nat.le_of_ble_eq_true rfl⟩ (fun x_67 f_68 H locs hw hP hD hS => ?_)
      obtain ⟨rfl, bx_67⟩ := hw
      refine lv_if_eq (tgt := 50) hx hb dX12_sideGoes_43 (by decide) (fun c_70 => ?_) (fun c_70 => ?_)
      · skip
        rw [← Int32.toInt_inj, ti_0] at c_70
        refine lv_aload_n hx hb dX12_sideGoes_50 rfl (lv_at hl 0 rfl) ?_
        refine lv_iload_n hx hb dX12_sideGoes_51 rfl (lv_at hl 1 rfl) ?_
        refine lv_iconst (v := 0) hx hb dX12_sideGoes_52 (by decide) ?_
        refine lv_iconst (v := 1) hx hb dX12_sideGoes_53 (by decide) ?_
        refine tk_ViP (As := [.int p1, .int 0, .int 1]) (rest := [.int x_59]) (n := 3) hx hb hml hown hU hN hZ (s_X12_closed_k12 l (dC, dI) cI cL cZ cR cG cH Z kd L f hG o0 mo0 ko0 p1 (by constructor <;> omega) 0 (by decide) 1 (by decide)) wd_878 wd_879 wd_880 wd_5 wd_881 (by decide +kernel) ⟨Nat.le_of_ble_eq_true rfl, Nat.le_of_ble_eq_true rfl⟩ hK hP hD hS mo0 hfo_2 12 rfl rfl rfl hl.1 rfl (Nat.le_of_ble_eq_true rfl) dX12_sideGoes_54 ⟨Nat.le_of_ble_eq_true rfl, Nat.le_of_ble_eq_true rfl⟩ (fun x_71 f_72 H locs hw hP hD hS => ?_)
        obtain ⟨rfl, bx_71⟩ := hw
        exact hcut_64 x_71 (by constructor <;> omega) _ _ hP hS ls (lv_sub hl [0, 1, 2, 3, 4] rfl)
      · skip
        rw [← Int32.toInt_inj, ti_0] at c_70
        refine lv_iconst (v := 0) hx hb dX12_sideGoes_46 (by decide) ?_
        refine lv_goto (tgt := 57) hx hb dX12_sideGoes_47 (by decide) ?_
        exact hcut_64 0 (by decide) _ _ hP hS ls (lv_sub hl [0, 1, 2, 3, 4] rfl)
  · skip
    rw [← Int32.toInt_inj, ti_1] at c_1
    refine lv_aload_n hx hb dX12_sideGoes_5 rfl (lv_at hl 0 rfl) ?_
    refine lv_iload_n hx hb dX12_sideGoes_6 rfl (lv_at hl 1 rfl) ?_
    refine lv_iload_n hx hb dX12_sideGoes_7 rfl (lv_at hl 3 rfl) ?_
    obtain ⟨a_75, a_76, a_77, v_78, a_79, v_80, v_81, v_82, v_83, v_84, v_85, v_86, v_87, v_88, v_89, a_90, a_91, a_92, a_93, a_94, a_95, a_96, a_97, v_98, v_99, v_100, v_101, v_102, a_103, v_104, a_105, a_106, v_107, v_108, a_109, v_110, a_111, a_112, v_113, v_114, a_115, a_116, a_117, v_118, a_119, a_120, a_121, a_122, a_123, a_124, a_125, a_126, a_127, v_128, v_129, a_130, hfo_74, ⟨ma_75, ka_75⟩, ⟨ma_76, ka_76⟩, ⟨ma_77, ka_77⟩, bv_78, ⟨ma_79, ka_79⟩, bv_80, bv_81, bv_86, bv_87, bv_88, ⟨ma_90, ka_90⟩, ⟨ma_91, ka_91⟩, ⟨ma_92, ka_92⟩, ⟨ma_93, ka_93⟩, ⟨ma_94, ka_94⟩, ⟨ma_95, ka_95⟩, ⟨ma_96, ka_96⟩, ⟨ma_97, ka_97⟩, bv_98, bv_100, bv_102, ⟨ma_103, ka_103⟩, bv_104, ⟨ma_105, ka_105⟩, ⟨ma_106, ka_106⟩, bv_107, ⟨ma_109, ka_109⟩, bv_110, ⟨ma_111, ka_111⟩, ⟨ma_112, ka_112⟩, bv_113, ⟨ma_115, ka_115⟩, ⟨ma_116, ka_116⟩, ⟨ma_117, ka_117⟩, bv_118, ⟨ma_119, ka_119⟩, ⟨ma_120, ka_120⟩, ⟨ma_121, ka_121⟩, ⟨ma_122, ka_122⟩, ⟨ma_123, ka_123⟩, ⟨ma_124, ka_124⟩, ⟨ma_125, ka_125⟩, ⟨ma_126, ka_126⟩, ⟨ma_127, ka_127⟩, bv_128, ⟨ma_130, ka_130⟩⟩ := un_12 (hG _ mo0) ko0
    have bv_82 : ((-2147483648) ≤ v_82.toInt ∧ v_82.toInt ≤ 2147483647) := ⟨i32_lo _, i32_hi _⟩
    have bv_83 : ((-2147483648) ≤ v_83.toInt ∧ v_83.toInt ≤ 2147483647) := ⟨i32_lo _, i32_hi _⟩
    have bv_84 : ((-2147483648) ≤ v_84.toInt ∧ v_84.toInt ≤ 2147483647) := ⟨i32_lo _, i32_hi _⟩
    have bv_85 : ((-2147483648) ≤ v_85.toInt ∧ v_85.toInt ≤ 2147483647) := ⟨i32_lo _, i32_hi _⟩
    have bv_89 : ((-2147483648) ≤ v_89.toInt ∧ v_89.toInt ≤ 2147483647) := ⟨i32_lo _, i32_hi _⟩
    have bv_99 : ((-2147483648) ≤ v_99.toInt ∧ v_99.toInt ≤ 2147483647) := ⟨i32_lo _, i32_hi _⟩
    have bv_101 : ((-2147483648) ≤ v_101.toInt ∧ v_101.toInt ≤ 2147483647) := ⟨i32_lo _, i32_hi _⟩
    have bv_108 : ((-2147483648) ≤ v_108.toInt ∧ v_108.toInt ≤ 2147483647) := ⟨i32_lo _, i32_hi _⟩
    have bv_114 : ((-2147483648) ≤ v_114.toInt ∧ v_114.toInt ≤ 2147483647) := ⟨i32_lo _, i32_hi _⟩
    have bv_129 : ((-2147483648) ≤ v_129.toInt ∧ v_129.toInt ≤ 2147483647) := ⟨i32_lo _, i32_hi _⟩
    refine tk_ViP (As := [.int p1, .int p3]) (rest := []) (n := 2) hx hb hml hown hU hN hZ (s_X12_isMet_k12 l (dC, dI) cI cL cZ cR cG cH Z kd L f hG o0 mo0 ko0 p1 (by constructor <;> omega) p3) wd_954 wd_955 wd_956 wd_5 wd_957 (by decide +kernel) ⟨Nat.le_of_ble_eq_true rfl, Nat.le_of_ble_eq_true rfl⟩ hK hP hD hS mo0 hfo_74 12 rfl rfl rfl hl.1 rfl (Nat.le_of_ble_eq_true rfl) dX12_sideGoes_8 ⟨Nat.le_of_ble_eq_true rfl, Nat.le_of_ble_eq_true rfl⟩ (fun x_131 f_132 H locs hw hP hD hS => ?_)
    obtain ⟨rfl, bx_131⟩ := hw
    refine lv_if_eq (tgt := 23) hx hb dX12_sideGoes_11 (by decide) (fun c_134 => ?_) (fun c_134 => ?_)
    · skip
      rw [← Int32.toInt_inj, ti_0] at c_134
      refine lv_aload_n hx hb dX12_sideGoes_23 rfl (lv_at hl 0 rfl) ?_
      refine lv_iload_n hx hb dX12_sideGoes_24 rfl (lv_at hl 1 rfl) ?_
      refine lv_iload_n hx hb dX12_sideGoes_25 rfl (lv_at hl 2 rfl) ?_
      refine lv_iload_n hx hb dX12_sideGoes_26 rfl (lv_at hl 3 rfl) ?_
      refine lv_iload hx hb dX12_sideGoes_27 (lv_at hl 4 rfl) ?_
      refine tk_ViP (As := [.int p1, .int p2, .int p3, .int p4]) (rest := []) (n := 4) hx hb hml hown hU hN hZ (s_X12_goesOn_k12 l (dC, dI) cI cL cZ cR cG cH Z kd L f hG o0 mo0 ko0 p1 (by constructor <;> omega) p2 (by constructor <;> omega) p3 p4) wd_942 wd_943 wd_944 wd_5 wd_945 (by decide +kernel) ⟨Nat.le_of_ble_eq_true rfl, Nat.le_of_ble_eq_true rfl⟩ hK hP hD hS mo0 hfo_74 12 rfl rfl rfl hl.1 rfl (Nat.le_of_ble_eq_true rfl) dX12_sideGoes_29 ⟨Nat.le_of_ble_eq_true rfl, Nat.le_of_ble_eq_true rfl⟩ (fun x_135 f_136 H locs hw hP hD hS => ?_)
      obtain ⟨rfl, bx_135⟩ := hw
      refine lv_iload_n hx hb dX12_sideGoes_32 rfl (lv_at hl 2 rfl) ?_
      refine lv_iconst (v := 1) hx hb dX12_sideGoes_33 (by decide) ?_
      refine lv_icmp_eq (tgt := 46) hx hb dX12_sideGoes_34 (by decide) (fun c_138 => ?_) (fun c_138 => ?_)
      · skip
        rw [← Int32.toInt_inj, ti_1] at c_138
        refine lv_iconst (v := 0) hx hb dX12_sideGoes_46 (by decide) ?_
        refine lv_goto (tgt := 57) hx hb dX12_sideGoes_47 (by decide) ?_
        refine lv_ior hx hb dX12_sideGoes_57 ?_
        refine lv_topi (fun x_139 ex_139 => ?_)
        have bx_139 : (0 ≤ x_139.toInt ∧ x_139.toInt ≤ 63) := by rw [ex_139]; exact or_K 6 (by decide) (by constructor <;> omega) (by decide)
        exact W.iret (v := x_139) hx hb hr (fun t ht hW => ⟨⟨x_139, f, rfl, ⟨rfl, (by constructor <;> omega)⟩, by rw [ht]; exact hP, va_K.moved hW.alike hK, pl_in hD⟩, hS.F ht⟩) hS.2.2 dX12_sideGoes_58
      · skip
        rw [← Int32.toInt_inj, ti_1] at c_138
        exfalso
        omega
    · skip
      rw [← Int32.toInt_inj, ti_0] at c_134
      refine lv_iconst (v := 1) hx hb dX12_sideGoes_14 (by decide) ?_
      refine lv_aload_n hx hb dX12_sideGoes_15 rfl (lv_at hl 0 rfl) ?_
      refine lv_iload_n hx hb dX12_sideGoes_16 rfl (lv_at hl 1 rfl) ?_
      refine lv_iconst (v := 1) hx hb dX12_sideGoes_17 (by decide) ?_
      refine tk_ViP (As := [.int p1, .int 1]) (rest := [.int 1]) (n := 2) hx hb hml hown hU hN hZ (s_X12_itemsOf_k12 l (dC, dI) cI cL cZ cR cG cH Z kd L f hG o0 mo0 ko0 p1 (by constructor <;> omega) 1 (by decide)) wd_882 wd_883 wd_884 wd_5 wd_885 (by decide +kernel) ⟨Nat.le_of_ble_eq_true rfl, Nat.le_of_ble_eq_true rfl⟩ hK hP hD hS mo0 hfo_74 12 rfl rfl rfl hl.1 rfl (Nat.le_of_ble_eq_true rfl) dX12_sideGoes_18 ⟨Nat.le_of_ble_eq_true rfl, Nat.le_of_ble_eq_true rfl⟩ (fun x_140 f_141 H locs hw hP hD hS => ?_)
      obtain ⟨rfl, bx_140⟩ := hw
      refine lv_ishl hx hb dX12_sideGoes_21 ?_
      refine lv_topi (fun x_143 ex_143 => ?_)
      have bx_143 : (1 ≤ x_143.toInt ∧ x_143.toInt ≤ 32) := by rw [ex_143]; exact sl_1_5 (by constructor <;> omega)
      exact W.iret (v := x_143) hx hb hr (fun t ht hW => ⟨⟨x_143, f, rfl, ⟨rfl, (by constructor <;> omega)⟩, by rw [ht]; exact hP, va_K.moved hW.alike hK, pl_in hD⟩, hS.F ht⟩) hS.2.2 dX12_sideGoes_22
