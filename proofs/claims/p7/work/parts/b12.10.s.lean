set_option maxHeartbeats 8000000 in
set_option maxRecDepth 100000 in
theorem s_X12_words_k12 (l : Launch) (D : va_G) (cI cL cZ cR cG cH : ClassId) (Z : zT) (kd : Nat → Nat) (L : List Nat) (f : Nat → va_E) (hG : GI (okc cI cL cZ cR cG cH L kd) kd L f) (o0 : Nat) (mo0 : o0 ∈ L) (ko0 : kd o0 = 12) (p1 : Int32) (bp1 : (0 ≤ p1.toInt ∧ p1.toInt ≤ 1)) (hxtr0 : srel kd 592 f o0) : mPI l D cI cL cZ cR cG cH Z yX12_words cX12_words 2 (some .int) 23 655 [.ref o0, .int p1] L f (fun (r : Int32) (f9 : Nat → va_E) => GI (okc cI cL cZ cR cG cH L kd) kd L f9 ∧ ((-2147483648) ≤ r.toInt ∧ r.toInt ≤ 2147483647) ∧ (∀ b, kd b ≠ 12 → kd b ≠ 579 → kd b ≠ 581 → kd b ≠ 583 → kd b ≠ 585 → kd b ≠ 587 → kd b ≠ 588 → kd b ≠ 589 → kd b ≠ 590 → kd b ≠ 591 → kd b ≠ 592 → kd b ≠ 593 → kd b ≠ 603 → f9 b = f b) ∧ (∀ b, kd b = 12 → ∀ j, fldR (f9 b) j = fldR (f b) j) ∧ (∀ b, kd b = 12 → ∀ j, j ≠ 5 → j ≠ 23 → j ≠ 25 → j ≠ 27 → j ≠ 29 → j ≠ 32 → fldI (f9 b) j = fldI (f b) j) ∧ (∀ (w5 z5 : Int32) (w29 z29 : Int32), fldI (f o0) 5 = some w5 → fldI (f o0) 29 = some w29 → fldI (f9 o0) 5 = some z5 → fldI (f9 o0) 29 = some z29 → z5.toInt = 0 ∧ z29.toInt ≤ 200) ∧ (srel kd 592 f9 o0)) := by
  obtain ⟨dC, dI⟩ := D
  refine Met.ofW (cc := cX12_words) (maxL := 2) (ret := (some .int)) (by decide) rfl ?_
  intro p e s m args below meth c s₁ B hml hv
  obtain ⟨rfl, hP, hK, hD0, hN, hZ⟩ := hv
  have hx := B.exec
  have hb := B.bytes
  have hr := B.returns
  have hU : ∀ w ∈ wsU, w.before _ s = true := fun w h => atoms_spec (ws := wU yX12_words cX12_words 2 (some .int)) B.pre w (List.mem_cons_of_mem _ h)
  have hown : s.vm.findClass RX12 = some m.cls := findClass_of_methodNamed B.named
  have hlocks := B.notSynchronized
  have hD := pl_in hD0
  have hS : va_S (fun q => q ∈ L) s.heap s.heap [] := va_S.rf
  have hl := lv_entry ([.ref o0, .int p1]) (n := 2) (Nat.le_of_ble_eq_true rfl)
  rw [lg_entry_eq]
  generalize (lg_sl ([.ref o0, .int p1]) ++ List.replicate (2 - (lg_sl ([.ref o0, .int p1])).length) Slot.unset).toArray = ls at hl ⊢
  have hl : lv_has ls 2 [(0, .ref o0), (1, .int p1)] := hl
  have hfr0 : ∀ b, kd b ≠ 12 → kd b ≠ 579 → kd b ≠ 581 → kd b ≠ 583 → kd b ≠ 585 → kd b ≠ 587 → kd b ≠ 588 → kd b ≠ 589 → kd b ≠ 590 → kd b ≠ 591 → kd b ≠ 592 → kd b ≠ 593 → kd b ≠ 603 → f b = f b := fun _ _ _ _ _ _ _ _ _ _ _ _ _ _ => rfl
  have hrA12 : ∀ b, kd b = 12 → ∀ j, fldR (f b) j = fldR (f b) j := fun _ _ _ => rfl
  have hfA12 : ∀ b, kd b = 12 → ∀ j, j ≠ 5 → j ≠ 23 → j ≠ 25 → j ≠ 27 → j ≠ 29 → j ≠ 32 → fldI (f b) j = fldI (f b) j := fun _ _ _ _ _ _ _ _ _ => rfl
  obtain ⟨a_2, a_3, a_4, v_5, a_6, v_7, v_8, v_9, v_10, v_11, v_12, v_13, v_14, v_15, v_16, a_17, a_18, a_19, a_20, a_21, a_22, a_23, a_24, v_25, v_26, v_27, v_28, v_29, a_30, v_31, a_32, a_33, v_34, v_35, a_36, v_37, a_38, a_39, v_40, v_41, a_42, a_43, a_44, v_45, a_46, a_47, a_48, a_49, a_50, a_51, a_52, a_53, a_54, v_55, v_56, a_57, hfo_1, ⟨ma_2, ka_2⟩, ⟨ma_3, ka_3⟩, ⟨ma_4, ka_4⟩, bv_5, ⟨ma_6, ka_6⟩, bv_7, bv_8, bv_13, bv_14, bv_15, ⟨ma_17, ka_17⟩, ⟨ma_18, ka_18⟩, ⟨ma_19, ka_19⟩, ⟨ma_20, ka_20⟩, ⟨ma_21, ka_21⟩, ⟨ma_22, ka_22⟩, ⟨ma_23, ka_23⟩, ⟨ma_24, ka_24⟩, bv_25, bv_27, bv_29, ⟨ma_30, ka_30⟩, bv_31, ⟨ma_32, ka_32⟩, ⟨ma_33, ka_33⟩, bv_34, ⟨ma_36, ka_36⟩, bv_37, ⟨ma_38, ka_38⟩, ⟨ma_39, ka_39⟩, bv_40, ⟨ma_42, ka_42⟩, ⟨ma_43, ka_43⟩, ⟨ma_44, ka_44⟩, bv_45, ⟨ma_46, ka_46⟩, ⟨ma_47, ka_47⟩, ⟨ma_48, ka_48⟩, ⟨ma_49, ka_49⟩, ⟨ma_50, ka_50⟩, ⟨ma_51, ka_51⟩, ⟨ma_52, ka_52⟩, ⟨ma_53, ka_53⟩, ⟨ma_54, ka_54⟩, bv_55, ⟨ma_57, ka_57⟩⟩ := un_12 (hG _ mo0) ko0
  have bv_9 : ((-2147483648) ≤ v_9.toInt ∧ v_9.toInt ≤ 2147483647) := ⟨i32_lo _, i32_hi _⟩
  have bv_10 : ((-2147483648) ≤ v_10.toInt ∧ v_10.toInt ≤ 2147483647) := ⟨i32_lo _, i32_hi _⟩
  have bv_11 : ((-2147483648) ≤ v_11.toInt ∧ v_11.toInt ≤ 2147483647) := ⟨i32_lo _, i32_hi _⟩
  have bv_12 : ((-2147483648) ≤ v_12.toInt ∧ v_12.toInt ≤ 2147483647) := ⟨i32_lo _, i32_hi _⟩
  have bv_16 : ((-2147483648) ≤ v_16.toInt ∧ v_16.toInt ≤ 2147483647) := ⟨i32_lo _, i32_hi _⟩
  have bv_26 : ((-2147483648) ≤ v_26.toInt ∧ v_26.toInt ≤ 2147483647) := ⟨i32_lo _, i32_hi _⟩
  have bv_28 : ((-2147483648) ≤ v_28.toInt ∧ v_28.toInt ≤ 2147483647) := ⟨i32_lo _, i32_hi _⟩
  have bv_35 : ((-2147483648) ≤ v_35.toInt ∧ v_35.toInt ≤ 2147483647) := ⟨i32_lo _, i32_hi _⟩
  have bv_41 : ((-2147483648) ≤ v_41.toInt ∧ v_41.toInt ≤ 2147483647) := ⟨i32_lo _, i32_hi _⟩
  have bv_56 : ((-2147483648) ≤ v_56.toInt ∧ v_56.toInt ≤ 2147483647) := ⟨i32_lo _, i32_hi _⟩
  have hT0 := hxtr0
  refine lv_aload_n hx hb dX12_words_0 rfl (lv_at hl 0 rfl) ?_
  refine lv_iconst (v := 0) hx hb dX12_words_1 (by decide) ?_
  refine tk_putP (D := (dC, dI)) (ci := 12) (v := .int 0) (ty := .int) (C := RX12) (T := TX12) (N := 56) hx hb hU inlX12 tyX12 tyX12_ok nmX12 hown hK hP hD hS mo0 hfo_1 rfl 29 (by decide) (hU _ wd_570) (fun _ h9 => h9) rfl (by decide +kernel) rfl rfl (Nat.le_of_ble_eq_true rfl) dX12_words_2 (fun H locs hP hD hS => ?_)
  obtain ⟨f_59, ef_59⟩ : ∃ y : Nat → va_E, y = va_up f o0 (.inr (12, [.ref a_2, .ref a_3, .ref a_4, .int v_5, .ref a_6, .int v_7, .int v_8, .int v_9, .int v_10, .int v_11, .int v_12, .int v_13, .int v_14, .int v_15, .int v_16, .ref a_17, .ref a_18, .ref a_19, .ref a_20, .ref a_21, .ref a_22, .ref a_23, .ref a_24, .int v_25, .int v_26, .int v_27, .int v_28, .int v_29, .ref a_30, .int 0, .ref a_32, .ref a_33, .int v_34, .int v_35, .ref a_36, .int v_37, .ref a_38, .ref a_39, .int v_40, .int v_41, .ref a_42, .ref a_43, .ref a_44, .int v_45, .ref a_46, .ref a_47, .ref a_48, .ref a_49, .ref a_50, .ref a_51, .ref a_52, .ref a_53, .ref a_54, .int v_55, .int v_56, .ref a_57])) := ⟨_, rfl⟩
  have hP : va_P (dC, dI) vwCl (va_pl L f_59) H := by rw [ef_59]; exact hP
  have hD : va_D (fun q => q ∈ L) (va_pl L f_59) := by rw [ef_59]; exact hD
  have hG : GI (okc cI cL cZ cR cG cH L kd) kd L f_59 := by rw [ef_59]; exact hG.set o0 (mk_12 ko0 ⟨a_2, a_3, a_4, v_5, a_6, v_7, v_8, v_9, v_10, v_11, v_12, v_13, v_14, v_15, v_16, a_17, a_18, a_19, a_20, a_21, a_22, a_23, a_24, v_25, v_26, v_27, v_28, v_29, a_30, 0, a_32, a_33, v_34, v_35, a_36, v_37, a_38, a_39, v_40, v_41, a_42, a_43, a_44, v_45, a_46, a_47, a_48, a_49, a_50, a_51, a_52, a_53, a_54, v_55, v_56, a_57, rfl, ⟨ma_2, ka_2⟩, ⟨ma_3, ka_3⟩, ⟨ma_4, ka_4⟩, (by constructor <;> omega), ⟨ma_6, ka_6⟩, (by constructor <;> omega), (by constructor <;> omega), (by constructor <;> omega), (by constructor <;> omega), (by constructor <;> omega), ⟨ma_17, ka_17⟩, ⟨ma_18, ka_18⟩, ⟨ma_19, ka_19⟩, ⟨ma_20, ka_20⟩, ⟨ma_21, ka_21⟩, ⟨ma_22, ka_22⟩, ⟨ma_23, ka_23⟩, ⟨ma_24, ka_24⟩, (by constructor <;> omega), (by constructor <;> omega), (by constructor <;> omega), ⟨ma_30, ka_30⟩, (by decide), ⟨ma_32, ka_32⟩, ⟨ma_33, ka_33⟩, (by constructor <;> omega), ⟨ma_36, ka_36⟩, (by constructor <;> omega), ⟨ma_38, ka_38⟩, ⟨ma_39, ka_39⟩, (by constructor <;> omega), ⟨ma_42, ka_42⟩, ⟨ma_43, ka_43⟩, ⟨ma_44, ka_44⟩, (by constructor <;> omega), ⟨ma_46, ka_46⟩, ⟨ma_47, ka_47⟩, ⟨ma_48, ka_48⟩, ⟨ma_49, ka_49⟩, ⟨ma_50, ka_50⟩, ⟨ma_51, ka_51⟩, ⟨ma_52, ka_52⟩, ⟨ma_53, ka_53⟩, ⟨ma_54, ka_54⟩, (by constructor <;> omega), ⟨ma_57, ka_57⟩⟩)
  have hfr0 : ∀ b, kd b ≠ 12 → kd b ≠ 579 → kd b ≠ 581 → kd b ≠ 583 → kd b ≠ 585 → kd b ≠ 587 → kd b ≠ 588 → kd b ≠ 589 → kd b ≠ 590 → kd b ≠ 591 → kd b ≠ 592 → kd b ≠ 593 → kd b ≠ 603 → f_59 b = f b := fun b q12 q579 q581 q583 q585 q587 q588 q589 q590 q591 q592 q593 q603 => (congrFun ef_59 b).trans ((up_ne (fun e9 => q12 (by rw [e9]; exact ko0))).trans (hfr0 b q12 q579 q581 q583 q585 q587 q588 q589 q590 q591 q592 q593 q603))
  have hrA12 : ∀ b, kd b = 12 → ∀ j, fldR (f_59 b) j = fldR (f b) j := fun b kb j => ((congrArg (fun x => fldR x j) (congrFun ef_59 b)).trans (fra_up (fun j => by rw [hfo_1]; exact fr_set (k := 29) rfl rfl j) j b)).trans (hrA12 b kb j)
  have hfA12 : ∀ b, kd b = 12 → ∀ j, j ≠ 5 → j ≠ 23 → j ≠ 25 → j ≠ 27 → j ≠ 29 → j ≠ 32 → fldI (f_59 b) j = fldI (f b) j := fun b kb j n5 n23 n25 n27 n29 n32 => ((congrArg (fun x => fldI x j) (congrFun ef_59 b)).trans (fia_up (fun h9 => by rw [hfo_1]; exact fi_set (k := 29) rfl h9) n29 b)).trans (hfA12 b kb j n5 n23 n25 n27 n29 n32)
  have hT0 : srel kd 592 f_59 o0 := by rw [ef_59]; exact hT0.keep (fun b _ => fr_up (by rw [hfo_1]; rfl) b) (fun b _ => fk_up (by rw [hfo_1]; rfl) b) (fun b _ => fk_up (by rw [hfo_1]; rfl) b) (fun b q => up_ne (kd_ne ko0 q (by decide)))
  have hfo_60 : f_59 o0 = .inr (12, [.ref a_2, .ref a_3, .ref a_4, .int v_5, .ref a_6, .int v_7, .int v_8, .int v_9, .int v_10, .int v_11, .int v_12, .int v_13, .int v_14, .int v_15, .int v_16, .ref a_17, .ref a_18, .ref a_19, .ref a_20, .ref a_21, .ref a_22, .ref a_23, .ref a_24, .int v_25, .int v_26, .int v_27, .int v_28, .int v_29, .ref a_30, .int 0, .ref a_32, .ref a_33, .int v_34, .int v_35, .ref a_36, .int v_37, .ref a_38, .ref a_39, .int v_40, .int v_41, .ref a_42, .ref a_43, .ref a_44, .int v_45, .ref a_46, .ref a_47, .ref a_48, .ref a_49, .ref a_50, .ref a_51, .ref a_52, .ref a_53, .ref a_54, .int v_55, .int v_56, .ref a_57]) := by rw [ef_59]; exact up_self
  refine lv_aload_n hx hb dX12_words_5 rfl (lv_at hl 0 rfl) ?_
  refine lv_iconst (v := 1) hx hb dX12_words_6 (by decide) ?_
  refine lv_bipush (v := 8) hx hb dX12_words_7 (by decide) ?_
  refine tk_ViP (As := [.int 1, .int 8]) (rest := []) (n := 2) hx hb hml hown hU hN hZ (s_X12_takesWord_k12_c1_c8 l (dC, dI) cI cL cZ cR cG cH Z kd L f_59 hG o0 mo0 ko0) wd_863 wd_864 wd_865 wd_5 wd_866 (by decide +kernel) ⟨Nat.le_of_ble_eq_true rfl, Nat.le_of_ble_eq_true rfl⟩ hK hP hD hS mo0 hfo_60 12 rfl rfl rfl hl.1 rfl (Nat.le_of_ble_eq_true rfl) dX12_words_9 ⟨Nat.le_of_ble_eq_true rfl, Nat.le_of_ble_eq_true rfl⟩ (fun x_61 f_62 H locs hw hP hD hS => ?_)
  obtain ⟨hG, bx_61, hkc_63, hra_64, hfa_65, hpost_66⟩ := hw
  have hfr0 : ∀ b, kd b ≠ 12 → kd b ≠ 579 → kd b ≠ 581 → kd b ≠ 583 → kd b ≠ 585 → kd b ≠ 587 → kd b ≠ 588 → kd b ≠ 589 → kd b ≠ 590 → kd b ≠ 591 → kd b ≠ 592 → kd b ≠ 593 → kd b ≠ 603 → f_62 b = f b := fun b q12 q579 q581 q583 q585 q587 q588 q589 q590 q591 q592 q593 q603 => (hkc_63 b q12 q589).trans (hfr0 b q12 q579 q581 q583 q585 q587 q588 q589 q590 q591 q592 q593 q603)
  have hrA12 : ∀ b, kd b = 12 → ∀ j, fldR (f_62 b) j = fldR (f b) j := fun b kb j => (hra_64 b kb j).trans (hrA12 b kb j)
  have hfA12 : ∀ b, kd b = 12 → ∀ j, j ≠ 5 → j ≠ 23 → j ≠ 25 → j ≠ 27 → j ≠ 29 → j ≠ 32 → fldI (f_62 b) j = fldI (f b) j := fun b kb j n5 n23 n25 n27 n29 n32 => (hfa_65 b kb j n5 n23).trans (hfA12 b kb j n5 n23 n25 n27 n29 n32)
  have hT0 : srel kd 592 f_62 o0 := hT0.keep (fun b q => hra_64 b q 30) (fun b q => hfa_65 b q 32 (by decide) (by decide)) (fun b q => hfa_65 b q 33 (by decide) (by decide)) (fun b q => hkc_63 b (by rw [q]; decide) (by rw [q]; decide))
  obtain ⟨a_69, a_70, a_71, v_72, a_73, v_74, v_75, v_76, v_77, v_78, v_79, v_80, v_81, v_82, v_83, a_84, a_85, a_86, a_87, a_88, a_89, a_90, a_91, v_92, v_93, v_94, v_95, v_96, a_97, v_98, a_99, a_100, v_101, v_102, a_103, v_104, a_105, a_106, v_107, v_108, a_109, a_110, a_111, v_112, a_113, a_114, a_115, a_116, a_117, a_118, a_119, a_120, a_121, v_122, v_123, a_124, hfo_68, ⟨ma_69, ka_69⟩, ⟨ma_70, ka_70⟩, ⟨ma_71, ka_71⟩, bv_72, ⟨ma_73, ka_73⟩, bv_74, bv_75, bv_80, bv_81, bv_82, ⟨ma_84, ka_84⟩, ⟨ma_85, ka_85⟩, ⟨ma_86, ka_86⟩, ⟨ma_87, ka_87⟩, ⟨ma_88, ka_88⟩, ⟨ma_89, ka_89⟩, ⟨ma_90, ka_90⟩, ⟨ma_91, ka_91⟩, bv_92, bv_94, bv_96, ⟨ma_97, ka_97⟩, bv_98, ⟨ma_99, ka_99⟩, ⟨ma_100, ka_100⟩, bv_101, ⟨ma_103, ka_103⟩, bv_104, ⟨ma_105, ka_105⟩, ⟨ma_106, ka_106⟩, bv_107, ⟨ma_109, ka_109⟩, ⟨ma_110, ka_110⟩, ⟨ma_111, ka_111⟩, bv_112, ⟨ma_113, ka_113⟩, ⟨ma_114, ka_114⟩, ⟨ma_115, ka_115⟩, ⟨ma_116, ka_116⟩, ⟨ma_117, ka_117⟩, ⟨ma_118, ka_118⟩, ⟨ma_119, ka_119⟩, ⟨ma_120, ka_120⟩, ⟨ma_121, ka_121⟩, bv_122, ⟨ma_124, ka_124⟩⟩ := un_12 (hG _ mo0) ko0
  have bv_76 : ((-2147483648) ≤ v_76.toInt ∧ v_76.toInt ≤ 2147483647) := ⟨i32_lo _, i32_hi _⟩
  have bv_77 : ((-2147483648) ≤ v_77.toInt ∧ v_77.toInt ≤ 2147483647) := ⟨i32_lo _, i32_hi _⟩
  have bv_78 : ((-2147483648) ≤ v_78.toInt ∧ v_78.toInt ≤ 2147483647) := ⟨i32_lo _, i32_hi _⟩
  have bv_79 : ((-2147483648) ≤ v_79.toInt ∧ v_79.toInt ≤ 2147483647) := ⟨i32_lo _, i32_hi _⟩
  have bv_83 : ((-2147483648) ≤ v_83.toInt ∧ v_83.toInt ≤ 2147483647) := ⟨i32_lo _, i32_hi _⟩
  have bv_93 : ((-2147483648) ≤ v_93.toInt ∧ v_93.toInt ≤ 2147483647) := ⟨i32_lo _, i32_hi _⟩
  have bv_95 : ((-2147483648) ≤ v_95.toInt ∧ v_95.toInt ≤ 2147483647) := ⟨i32_lo _, i32_hi _⟩
  have bv_102 : ((-2147483648) ≤ v_102.toInt ∧ v_102.toInt ≤ 2147483647) := ⟨i32_lo _, i32_hi _⟩
  have bv_108 : ((-2147483648) ≤ v_108.toInt ∧ v_108.toInt ≤ 2147483647) := ⟨i32_lo _, i32_hi _⟩
  have bv_123 : ((-2147483648) ≤ v_123.toInt ∧ v_123.toInt ≤ 2147483647) := ⟨i32_lo _, i32_hi _⟩
  obtain ⟨rfl, rfl, rfl, rfl, rfl, rfl, rfl, rfl, rfl, rfl, rfl, rfl, rfl, rfl, rfl, rfl, rfl, rfl, rfl, rfl, rfl, rfl, rfl, rfl, rfl, rfl, rfl, rfl, rfl, rfl, rfl⟩ := re_12 hfo_1 hfo_68 (hrA12 o0 ko0)
  obtain rfl := ri_12_3 hfo_1 hfo_68 (hfA12 o0 ko0 3 (by decide) (by decide) (by decide) (by decide) (by decide) (by decide))
  obtain rfl := ri_12_6 hfo_1 hfo_68 (hfA12 o0 ko0 6 (by decide) (by decide) (by decide) (by decide) (by decide) (by decide))
  obtain rfl := ri_12_11 hfo_1 hfo_68 (hfA12 o0 ko0 11 (by decide) (by decide) (by decide) (by decide) (by decide) (by decide))
  obtain rfl := ri_12_12 hfo_1 hfo_68 (hfA12 o0 ko0 12 (by decide) (by decide) (by decide) (by decide) (by decide) (by decide))
  obtain rfl := ri_12_13 hfo_1 hfo_68 (hfA12 o0 ko0 13 (by decide) (by decide) (by decide) (by decide) (by decide) (by decide))
  obtain rfl := ri_12_14 hfo_1 hfo_68 (hfA12 o0 ko0 14 (by decide) (by decide) (by decide) (by decide) (by decide) (by decide))
  obtain rfl := ri_12_33 hfo_1 hfo_68 (hfA12 o0 ko0 33 (by decide) (by decide) (by decide) (by decide) (by decide) (by decide))
  obtain rfl := ri_12_35 hfo_1 hfo_68 (hfA12 o0 ko0 35 (by decide) (by decide) (by decide) (by decide) (by decide) (by decide))
  obtain rfl := ri_12_38 hfo_1 hfo_68 (hfA12 o0 ko0 38 (by decide) (by decide) (by decide) (by decide) (by decide) (by decide))
  obtain rfl := ri_12_43 hfo_1 hfo_68 (hfA12 o0 ko0 43 (by decide) (by decide) (by decide) (by decide) (by decide) (by decide))
  obtain rfl := ri_12_53 hfo_1 hfo_68 (hfA12 o0 ko0 53 (by decide) (by decide) (by decide) (by decide) (by decide) (by decide))
  obtain rfl := ri_12_25 hfo_60 hfo_68 (hfa_65 o0 ko0 25 (by decide) (by decide))
  obtain rfl := ri_12_27 hfo_60 hfo_68 (hfa_65 o0 ko0 27 (by decide) (by decide))
  obtain rfl := ri_12_29 hfo_60 hfo_68 (hfa_65 o0 ko0 29 (by decide) (by decide))
  obtain rfl := ri_12_32 hfo_60 hfo_68 (hfa_65 o0 ko0 32 (by decide) (by decide))
  have hqhpost_66 := hpost_66 v_7 v_74 v_25 v_92 (by rw [hfo_60]; rfl) (by rw [hfo_60]; rfl) (by rw [hfo_68]; rfl) (by rw [hfo_68]; rfl)
  try rw [ti_1] at hqhpost_66
  try rw [ti_8] at hqhpost_66
  refine lv_if_ne (tgt := 17) hx hb dX12_words_12 (by decide) (fun c_125 => ?_) (fun c_125 => ?_)
  · skip
    rw [← Int32.toInt_inj, ti_0] at c_125
    have hclc_126 : (0 ≤ v_92.toInt ∧ v_92.toInt ≤ 8) := by constructor <;> omega
    refine lv_aload_n hx hb dX12_words_17 rfl (lv_at hl 0 rfl) ?_
    refine lv_iload_n hx hb dX12_words_18 rfl (lv_at hl 1 rfl) ?_
    refine tk_VvP (As := [.int p1]) (rest := []) (n := 1) hx hb hml hown hU hN hZ (s_X12_sets_k12 l (dC, dI) cI cL cZ cR cG cH Z kd L f_62 hG o0 mo0 ko0 p1 (by constructor <;> omega)) wd_868 wd_869 wd_870 wd_5 wd_871 (by decide +kernel) ⟨Nat.le_of_ble_eq_true rfl, Nat.le_of_ble_eq_true rfl⟩ hK hP hD hS mo0 hfo_68 12 rfl rfl rfl hl.1 rfl (Nat.le_of_ble_eq_true rfl) dX12_words_19 ⟨Nat.le_of_ble_eq_true rfl, Nat.le_of_ble_eq_true rfl⟩ (fun f_128 H locs hw hP hD hS => ?_)
    obtain ⟨hG, hkc_129, hra_130, hfa_131, hpost_132⟩ := hw
    have hfr0 : ∀ b, kd b ≠ 12 → kd b ≠ 579 → kd b ≠ 581 → kd b ≠ 583 → kd b ≠ 585 → kd b ≠ 587 → kd b ≠ 588 → kd b ≠ 589 → kd b ≠ 590 → kd b ≠ 591 → kd b ≠ 592 → kd b ≠ 593 → kd b ≠ 603 → f_128 b = f b := fun b q12 q579 q581 q583 q585 q587 q588 q589 q590 q591 q592 q593 q603 => (hkc_129 b q12 q579 q581 q587).trans (hfr0 b q12 q579 q581 q583 q585 q587 q588 q589 q590 q591 q592 q593 q603)
    have hrA12 : ∀ b, kd b = 12 → ∀ j, fldR (f_128 b) j = fldR (f b) j := fun b kb j => (hra_130 b kb j).trans (hrA12 b kb j)
    have hfA12 : ∀ b, kd b = 12 → ∀ j, j ≠ 5 → j ≠ 23 → j ≠ 25 → j ≠ 27 → j ≠ 29 → j ≠ 32 → fldI (f_128 b) j = fldI (f b) j := fun b kb j n5 n23 n25 n27 n29 n32 => (hfa_131 b kb j n25 n27).trans (hfA12 b kb j n5 n23 n25 n27 n29 n32)
    have hT0 : srel kd 592 f_128 o0 := hT0.keep (fun b q => hra_130 b q 30) (fun b q => hfa_131 b q 32 (by decide) (by decide)) (fun b q => hfa_131 b q 33 (by decide) (by decide)) (fun b q => hkc_129 b (by rw [q]; decide) (by rw [q]; decide) (by rw [q]; decide) (by rw [q]; decide))
    obtain ⟨a_135, a_136, a_137, v_138, a_139, v_140, v_141, v_142, v_143, v_144, v_145, v_146, v_147, v_148, v_149, a_150, a_151, a_152, a_153, a_154, a_155, a_156, a_157, v_158, v_159, v_160, v_161, v_162, a_163, v_164, a_165, a_166, v_167, v_168, a_169, v_170, a_171, a_172, v_173, v_174, a_175, a_176, a_177, v_178, a_179, a_180, a_181, a_182, a_183, a_184, a_185, a_186, a_187, v_188, v_189, a_190, hfo_134, ⟨ma_135, ka_135⟩, ⟨ma_136, ka_136⟩, ⟨ma_137, ka_137⟩, bv_138, ⟨ma_139, ka_139⟩, bv_140, bv_141, bv_146, bv_147, bv_148, ⟨ma_150, ka_150⟩, ⟨ma_151, ka_151⟩, ⟨ma_152, ka_152⟩, ⟨ma_153, ka_153⟩, ⟨ma_154, ka_154⟩, ⟨ma_155, ka_155⟩, ⟨ma_156, ka_156⟩, ⟨ma_157, ka_157⟩, bv_158, bv_160, bv_162, ⟨ma_163, ka_163⟩, bv_164, ⟨ma_165, ka_165⟩, ⟨ma_166, ka_166⟩, bv_167, ⟨ma_169, ka_169⟩, bv_170, ⟨ma_171, ka_171⟩, ⟨ma_172, ka_172⟩, bv_173, ⟨ma_175, ka_175⟩, ⟨ma_176, ka_176⟩, ⟨ma_177, ka_177⟩, bv_178, ⟨ma_179, ka_179⟩, ⟨ma_180, ka_180⟩, ⟨ma_181, ka_181⟩, ⟨ma_182, ka_182⟩, ⟨ma_183, ka_183⟩, ⟨ma_184, ka_184⟩, ⟨ma_185, ka_185⟩, ⟨ma_186, ka_186⟩, ⟨ma_187, ka_187⟩, bv_188, ⟨ma_190, ka_190⟩⟩ := un_12 (hG _ mo0) ko0
    have bv_142 : ((-2147483648) ≤ v_142.toInt ∧ v_142.toInt ≤ 2147483647) := ⟨i32_lo _, i32_hi _⟩
    have bv_143 : ((-2147483648) ≤ v_143.toInt ∧ v_143.toInt ≤ 2147483647) := ⟨i32_lo _, i32_hi _⟩
    have bv_144 : ((-2147483648) ≤ v_144.toInt ∧ v_144.toInt ≤ 2147483647) := ⟨i32_lo _, i32_hi _⟩
    have bv_145 : ((-2147483648) ≤ v_145.toInt ∧ v_145.toInt ≤ 2147483647) := ⟨i32_lo _, i32_hi _⟩
    have bv_149 : ((-2147483648) ≤ v_149.toInt ∧ v_149.toInt ≤ 2147483647) := ⟨i32_lo _, i32_hi _⟩
    have bv_159 : ((-2147483648) ≤ v_159.toInt ∧ v_159.toInt ≤ 2147483647) := ⟨i32_lo _, i32_hi _⟩
    have bv_161 : ((-2147483648) ≤ v_161.toInt ∧ v_161.toInt ≤ 2147483647) := ⟨i32_lo _, i32_hi _⟩
    have bv_168 : ((-2147483648) ≤ v_168.toInt ∧ v_168.toInt ≤ 2147483647) := ⟨i32_lo _, i32_hi _⟩
    have bv_174 : ((-2147483648) ≤ v_174.toInt ∧ v_174.toInt ≤ 2147483647) := ⟨i32_lo _, i32_hi _⟩
    have bv_189 : ((-2147483648) ≤ v_189.toInt ∧ v_189.toInt ≤ 2147483647) := ⟨i32_lo _, i32_hi _⟩
    obtain ⟨rfl, rfl, rfl, rfl, rfl, rfl, rfl, rfl, rfl, rfl, rfl, rfl, rfl, rfl, rfl, rfl, rfl, rfl, rfl, rfl, rfl, rfl, rfl, rfl, rfl, rfl, rfl, rfl, rfl, rfl, rfl⟩ := re_12 hfo_1 hfo_134 (hrA12 o0 ko0)
    obtain rfl := ri_12_3 hfo_1 hfo_134 (hfA12 o0 ko0 3 (by decide) (by decide) (by decide) (by decide) (by decide) (by decide))
    obtain rfl := ri_12_6 hfo_1 hfo_134 (hfA12 o0 ko0 6 (by decide) (by decide) (by decide) (by decide) (by decide) (by decide))
    obtain rfl := ri_12_11 hfo_1 hfo_134 (hfA12 o0 ko0 11 (by decide) (by decide) (by decide) (by decide) (by decide) (by decide))
    obtain rfl := ri_12_12 hfo_1 hfo_134 (hfA12 o0 ko0 12 (by decide) (by decide) (by decide) (by decide) (by decide) (by decide))
    obtain rfl := ri_12_13 hfo_1 hfo_134 (hfA12 o0 ko0 13 (by decide) (by decide) (by decide) (by decide) (by decide) (by decide))
    obtain rfl := ri_12_14 hfo_1 hfo_134 (hfA12 o0 ko0 14 (by decide) (by decide) (by decide) (by decide) (by decide) (by decide))
    obtain rfl := ri_12_33 hfo_1 hfo_134 (hfA12 o0 ko0 33 (by decide) (by decide) (by decide) (by decide) (by decide) (by decide))
    obtain rfl := ri_12_35 hfo_1 hfo_134 (hfA12 o0 ko0 35 (by decide) (by decide) (by decide) (by decide) (by decide) (by decide))
    obtain rfl := ri_12_38 hfo_1 hfo_134 (hfA12 o0 ko0 38 (by decide) (by decide) (by decide) (by decide) (by decide) (by decide))
    obtain rfl := ri_12_43 hfo_1 hfo_134 (hfA12 o0 ko0 43 (by decide) (by decide) (by decide) (by decide) (by decide) (by decide))
    obtain rfl := ri_12_53 hfo_1 hfo_134 (hfA12 o0 ko0 53 (by decide) (by decide) (by decide) (by decide) (by decide) (by decide))
    obtain rfl := ri_12_5 hfo_68 hfo_134 (hfa_131 o0 ko0 5 (by decide) (by decide))
    obtain rfl := ri_12_23 hfo_68 hfo_134 (hfa_131 o0 ko0 23 (by decide) (by decide))
    obtain rfl := ri_12_29 hfo_68 hfo_134 (hfa_131 o0 ko0 29 (by decide) (by decide))
    obtain rfl := ri_12_32 hfo_68 hfo_134 (hfa_131 o0 ko0 32 (by decide) (by decide))
    have hqhpost_132 := hpost_132 v_27 v_160 v_29 v_162 (by rw [hfo_68]; rfl) (by rw [hfo_68]; rfl) (by rw [hfo_134]; rfl) (by rw [hfo_134]; rfl)
    refine lv_aload_n hx hb dX12_words_22 rfl (lv_at hl 0 rfl) ?_
    refine lv_iconst (v := 0) hx hb dX12_words_23 (by decide) ?_
    refine lv_aload_n hx hb dX12_words_24 rfl (lv_at hl 0 rfl) ?_
    refine tk_getP (D := (dC, dI)) (ci := 12) (v := .ref a_2) (C := RX12) (T := TX12) (N := 56) hx hb hU inlX12 hown hK hP mo0 hfo_134 rfl 0 (by decide) (hU _ wd_169) (fun _ h9 => h9) rfl dX12_words_25 ?_
    refine lv_bipush (v := 41) hx hb dX12_words_28 (by decide) ?_
    obtain ⟨g_192, hfo_191, hbg_192⟩ := un_575 (hG _ ma_2) ka_2
    refine tk_ildP hx hb hK hP 0 ma_2 hfo_191 rfl (vp_in_nI (n := 41) (by decide) (by decide)) dX12_words_30 ?_
    refine lv_topi (fun x_193 ex_193 => ?_)
    have bx_193 : (0 ≤ x_193.toInt ∧ x_193.toInt ≤ 1) := by rw [ex_193]; exact hbg_192.2.2.2.2.2.2.2.1 _ (by decide) (by decide) (by decide)
    refine lv_iconst (v := 0) hx hb dX12_words_31 (by decide) ?_
    refine lv_iconst (v := 0) hx hb dX12_words_32 (by decide) ?_
    refine lv_aload_n hx hb dX12_words_33 rfl (lv_at hl 0 rfl) ?_
    refine tk_getP (D := (dC, dI)) (ci := 12) (v := .ref a_2) (C := RX12) (T := TX12) (N := 56) hx hb hU inlX12 hown hK hP mo0 hfo_134 rfl 0 (by decide) (hU _ wd_169) (fun _ h9 => h9) rfl dX12_words_34 ?_
    refine lv_bipush (v := 40) hx hb dX12_words_37 (by decide) ?_
    refine tk_ildP hx hb hK hP 0 ma_2 hfo_191 rfl (vp_in_nI (n := 40) (by decide) (by decide)) dX12_words_39 ?_
    refine lv_topi (fun x_194 ex_194 => ?_)
    have bx_194 : (0 ≤ x_194.toInt ∧ x_194.toInt ≤ 255) := by rw [ex_194]; exact hbg_192.2.2.2.2.2.2.1 _ (by decide) (by decide) (by decide)
    refine tk_VvP (As := [.int 0, .int x_193, .int 0, .int 0, .int x_194]) (rest := []) (n := 5) hx hb hml hown hU hN hZ (s_X12_goes_k12 l (dC, dI) cI cL cZ cR cG cH Z kd L 14 f_128 hG o0 mo0 ko0 0 (by decide) x_193 (by constructor <;> omega) 0 (by decide) 0 (by decide) x_194 (by intro w23 w25 w27 w29 e23 e25 e27 e29; rw [hfo_134] at e23 e25 e27 e29; obtain rfl := Option.some.inj e23; obtain rfl := Option.some.inj e25; obtain rfl := Option.some.inj e27; obtain rfl := Option.some.inj e29; (try rw [ti_0]) <;> omega) (by (try rw [ti_0]) <;> omega) hT0 (by (try rw [ti_0]) <;> omega)) wd_886 wd_887 wd_888 wd_5 wd_889 (by decide +kernel) ⟨Nat.le_of_ble_eq_true rfl, Nat.le_of_ble_eq_true rfl⟩ hK hP hD hS mo0 hfo_134 12 rfl rfl rfl hl.1 rfl (Nat.le_of_ble_eq_true rfl) dX12_words_40 ⟨Nat.le_of_ble_eq_true rfl, Nat.le_of_ble_eq_true rfl⟩ (fun f_196 H locs hw hP hD hS => ?_)
    obtain ⟨hG, hkc_197, hra_198, hfa_199, hpost_200, hTc_201⟩ := hw
    have hfo_203 : f_196 a_2 = .inl (cI, 1560, .inl g_192) := by rw [hkc_197 a_2 (by rw [ka_2]; decide) (by rw [ka_2]; decide) (by rw [ka_2]; decide) (by rw [ka_2]; decide) (by rw [ka_2]; decide) (by rw [ka_2]; decide) (by rw [ka_2]; decide) (by rw [ka_2]; decide) (by rw [ka_2]; decide) (by rw [ka_2]; decide) (by rw [ka_2]; decide) (by rw [ka_2]; decide)]; exact hfo_191
    have hfr0 : ∀ b, kd b ≠ 12 → kd b ≠ 579 → kd b ≠ 581 → kd b ≠ 583 → kd b ≠ 585 → kd b ≠ 587 → kd b ≠ 588 → kd b ≠ 589 → kd b ≠ 590 → kd b ≠ 591 → kd b ≠ 592 → kd b ≠ 593 → kd b ≠ 603 → f_196 b = f b := fun b q12 q579 q581 q583 q585 q587 q588 q589 q590 q591 q592 q593 q603 => (hkc_197 b q12 q579 q581 q583 q585 q587 q588 q590 q591 q592 q593 q603).trans (hfr0 b q12 q579 q581 q583 q585 q587 q588 q589 q590 q591 q592 q593 q603)
    have hrA12 : ∀ b, kd b = 12 → ∀ j, fldR (f_196 b) j = fldR (f b) j := fun b kb j => (hra_198 b kb j).trans (hrA12 b kb j)
    have hfA12 : ∀ b, kd b = 12 → ∀ j, j ≠ 5 → j ≠ 23 → j ≠ 25 → j ≠ 27 → j ≠ 29 → j ≠ 32 → fldI (f_196 b) j = fldI (f b) j := fun b kb j n5 n23 n25 n27 n29 n32 => (hfa_199 b kb j n27 n29 n32).trans (hfA12 b kb j n5 n23 n25 n27 n29 n32)
    obtain ⟨a_205, a_206, a_207, v_208, a_209, v_210, v_211, v_212, v_213, v_214, v_215, v_216, v_217, v_218, v_219, a_220, a_221, a_222, a_223, a_224, a_225, a_226, a_227, v_228, v_229, v_230, v_231, v_232, a_233, v_234, a_235, a_236, v_237, v_238, a_239, v_240, a_241, a_242, v_243, v_244, a_245, a_246, a_247, v_248, a_249, a_250, a_251, a_252, a_253, a_254, a_255, a_256, a_257, v_258, v_259, a_260, hfo_204, ⟨ma_205, ka_205⟩, ⟨ma_206, ka_206⟩, ⟨ma_207, ka_207⟩, bv_208, ⟨ma_209, ka_209⟩, bv_210, bv_211, bv_216, bv_217, bv_218, ⟨ma_220, ka_220⟩, ⟨ma_221, ka_221⟩, ⟨ma_222, ka_222⟩, ⟨ma_223, ka_223⟩, ⟨ma_224, ka_224⟩, ⟨ma_225, ka_225⟩, ⟨ma_226, ka_226⟩, ⟨ma_227, ka_227⟩, bv_228, bv_230, bv_232, ⟨ma_233, ka_233⟩, bv_234, ⟨ma_235, ka_235⟩, ⟨ma_236, ka_236⟩, bv_237, ⟨ma_239, ka_239⟩, bv_240, ⟨ma_241, ka_241⟩, ⟨ma_242, ka_242⟩, bv_243, ⟨ma_245, ka_245⟩, ⟨ma_246, ka_246⟩, ⟨ma_247, ka_247⟩, bv_248, ⟨ma_249, ka_249⟩, ⟨ma_250, ka_250⟩, ⟨ma_251, ka_251⟩, ⟨ma_252, ka_252⟩, ⟨ma_253, ka_253⟩, ⟨ma_254, ka_254⟩, ⟨ma_255, ka_255⟩, ⟨ma_256, ka_256⟩, ⟨ma_257, ka_257⟩, bv_258, ⟨ma_260, ka_260⟩⟩ := un_12 (hG _ mo0) ko0
    have bv_212 : ((-2147483648) ≤ v_212.toInt ∧ v_212.toInt ≤ 2147483647) := ⟨i32_lo _, i32_hi _⟩
    have bv_213 : ((-2147483648) ≤ v_213.toInt ∧ v_213.toInt ≤ 2147483647) := ⟨i32_lo _, i32_hi _⟩
    have bv_214 : ((-2147483648) ≤ v_214.toInt ∧ v_214.toInt ≤ 2147483647) := ⟨i32_lo _, i32_hi _⟩
    have bv_215 : ((-2147483648) ≤ v_215.toInt ∧ v_215.toInt ≤ 2147483647) := ⟨i32_lo _, i32_hi _⟩
    have bv_219 : ((-2147483648) ≤ v_219.toInt ∧ v_219.toInt ≤ 2147483647) := ⟨i32_lo _, i32_hi _⟩
    have bv_229 : ((-2147483648) ≤ v_229.toInt ∧ v_229.toInt ≤ 2147483647) := ⟨i32_lo _, i32_hi _⟩
    have bv_231 : ((-2147483648) ≤ v_231.toInt ∧ v_231.toInt ≤ 2147483647) := ⟨i32_lo _, i32_hi _⟩
    have bv_238 : ((-2147483648) ≤ v_238.toInt ∧ v_238.toInt ≤ 2147483647) := ⟨i32_lo _, i32_hi _⟩
    have bv_244 : ((-2147483648) ≤ v_244.toInt ∧ v_244.toInt ≤ 2147483647) := ⟨i32_lo _, i32_hi _⟩
    have bv_259 : ((-2147483648) ≤ v_259.toInt ∧ v_259.toInt ≤ 2147483647) := ⟨i32_lo _, i32_hi _⟩
    obtain ⟨rfl, rfl, rfl, rfl, rfl, rfl, rfl, rfl, rfl, rfl, rfl, rfl, rfl, rfl, rfl, rfl, rfl, rfl, rfl, rfl, rfl, rfl, rfl, rfl, rfl, rfl, rfl, rfl, rfl, rfl, rfl⟩ := re_12 hfo_1 hfo_204 (hrA12 o0 ko0)
    obtain rfl := ri_12_3 hfo_1 hfo_204 (hfA12 o0 ko0 3 (by decide) (by decide) (by decide) (by decide) (by decide) (by decide))
    obtain rfl := ri_12_6 hfo_1 hfo_204 (hfA12 o0 ko0 6 (by decide) (by decide) (by decide) (by decide) (by decide) (by decide))
    obtain rfl := ri_12_11 hfo_1 hfo_204 (hfA12 o0 ko0 11 (by decide) (by decide) (by decide) (by decide) (by decide) (by decide))
    obtain rfl := ri_12_12 hfo_1 hfo_204 (hfA12 o0 ko0 12 (by decide) (by decide) (by decide) (by decide) (by decide) (by decide))
    obtain rfl := ri_12_13 hfo_1 hfo_204 (hfA12 o0 ko0 13 (by decide) (by decide) (by decide) (by decide) (by decide) (by decide))
    obtain rfl := ri_12_14 hfo_1 hfo_204 (hfA12 o0 ko0 14 (by decide) (by decide) (by decide) (by decide) (by decide) (by decide))
    obtain rfl := ri_12_33 hfo_1 hfo_204 (hfA12 o0 ko0 33 (by decide) (by decide) (by decide) (by decide) (by decide) (by decide))
    obtain rfl := ri_12_35 hfo_1 hfo_204 (hfA12 o0 ko0 35 (by decide) (by decide) (by decide) (by decide) (by decide) (by decide))
    obtain rfl := ri_12_38 hfo_1 hfo_204 (hfA12 o0 ko0 38 (by decide) (by decide) (by decide) (by decide) (by decide) (by decide))
    obtain rfl := ri_12_43 hfo_1 hfo_204 (hfA12 o0 ko0 43 (by decide) (by decide) (by decide) (by decide) (by decide) (by decide))
    obtain rfl := ri_12_53 hfo_1 hfo_204 (hfA12 o0 ko0 53 (by decide) (by decide) (by decide) (by decide) (by decide) (by decide))
    obtain rfl := ri_12_5 hfo_134 hfo_204 (hfa_199 o0 ko0 5 (by decide) (by decide) (by decide))
    obtain rfl := ri_12_23 hfo_134 hfo_204 (hfa_199 o0 ko0 23 (by decide) (by decide) (by decide))
    obtain rfl := ri_12_25 hfo_134 hfo_204 (hfa_199 o0 ko0 25 (by decide) (by decide) (by decide))
    have hqhpost_200 := hpost_200 v_160 v_160 v_162 v_232 0 v_234 (by rw [hfo_134]; rfl) (by rw [hfo_134]; rfl) (by rw [hfo_134]; rfl) (by rw [hfo_204]; rfl) (by rw [hfo_204]; rfl) (by rw [hfo_204]; rfl)
    try rw [ti_0] at hqhpost_200
    refine lv_aload_n hx hb dX12_words_43 rfl (lv_at hl 0 rfl) ?_
    refine tk_getP (D := (dC, dI)) (ci := 12) (v := .int v_234) (C := RX12) (T := TX12) (N := 56) hx hb hU inlX12 hown hK hP mo0 hfo_204 rfl 29 (by decide) (hU _ wd_570) (fun _ h9 => h9) rfl dX12_words_44 ?_
    refine lv_sipush (v := 200) hx hb dX12_words_47 (by decide) ?_
    refine lv_icmp_gt (tgt := 58) hx hb dX12_words_50 (by decide) (fun c_261 => ?_) (fun c_261 => ?_)
    · skip
      rw [Int32.lt_iff_toInt_lt, ti_200] at c_261
      refine lv_aload_n hx hb dX12_words_58 rfl (lv_at hl 0 rfl) ?_
      refine lv_iconst (v := 0) hx hb dX12_words_59 (by decide) ?_
      refine tk_putP (D := (dC, dI)) (ci := 12) (v := .int 0) (ty := .int) (C := RX12) (T := TX12) (N := 56) hx hb hU inlX12 tyX12 tyX12_ok nmX12 hown hK hP hD hS mo0 hfo_204 rfl 29 (by decide) (hU _ wd_570) (fun _ h9 => h9) rfl (by decide +kernel) rfl rfl (Nat.le_of_ble_eq_true rfl) dX12_words_60 (fun H locs hP hD hS => ?_)
      obtain ⟨f_263, ef_263⟩ : ∃ y : Nat → va_E, y = va_up f_196 o0 (.inr (12, [.ref a_2, .ref a_3, .ref a_4, .int v_5, .ref a_6, .int v_74, .int v_8, .int v_212, .int v_213, .int v_214, .int v_215, .int v_13, .int v_14, .int v_15, .int v_16, .ref a_17, .ref a_18, .ref a_19, .ref a_20, .ref a_21, .ref a_22, .ref a_23, .ref a_24, .int v_92, .int v_229, .int v_160, .int v_231, .int v_232, .ref a_30, .int 0, .ref a_32, .ref a_33, .int v_237, .int v_35, .ref a_36, .int v_37, .ref a_38, .ref a_39, .int v_40, .int v_244, .ref a_42, .ref a_43, .ref a_44, .int v_45, .ref a_46, .ref a_47, .ref a_48, .ref a_49, .ref a_50, .ref a_51, .ref a_52, .ref a_53, .ref a_54, .int v_55, .int v_259, .ref a_57])) := ⟨_, rfl⟩
      have hP : va_P (dC, dI) vwCl (va_pl L f_263) H := by rw [ef_263]; exact hP
      have hD : va_D (fun q => q ∈ L) (va_pl L f_263) := by rw [ef_263]; exact hD
      have hG : GI (okc cI cL cZ cR cG cH L kd) kd L f_263 := by rw [ef_263]; exact hG.set o0 (mk_12 ko0 ⟨a_2, a_3, a_4, v_5, a_6, v_74, v_8, v_212, v_213, v_214, v_215, v_13, v_14, v_15, v_16, a_17, a_18, a_19, a_20, a_21, a_22, a_23, a_24, v_92, v_229, v_160, v_231, v_232, a_30, 0, a_32, a_33, v_237, v_35, a_36, v_37, a_38, a_39, v_40, v_244, a_42, a_43, a_44, v_45, a_46, a_47, a_48, a_49, a_50, a_51, a_52, a_53, a_54, v_55, v_259, a_57, rfl, ⟨ma_2, ka_2⟩, ⟨ma_3, ka_3⟩, ⟨ma_4, ka_4⟩, (by constructor <;> omega), ⟨ma_6, ka_6⟩, (by constructor <;> omega), (by constructor <;> omega), (by constructor <;> omega), (by constructor <;> omega), (by constructor <;> omega), ⟨ma_17, ka_17⟩, ⟨ma_18, ka_18⟩, ⟨ma_19, ka_19⟩, ⟨ma_20, ka_20⟩, ⟨ma_21, ka_21⟩, ⟨ma_22, ka_22⟩, ⟨ma_23, ka_23⟩, ⟨ma_24, ka_24⟩, (by constructor <;> omega), (by constructor <;> omega), (by constructor <;> omega), ⟨ma_30, ka_30⟩, (by decide), ⟨ma_32, ka_32⟩, ⟨ma_33, ka_33⟩, (by constructor <;> omega), ⟨ma_36, ka_36⟩, (by constructor <;> omega), ⟨ma_38, ka_38⟩, ⟨ma_39, ka_39⟩, (by constructor <;> omega), ⟨ma_42, ka_42⟩, ⟨ma_43, ka_43⟩, ⟨ma_44, ka_44⟩, (by constructor <;> omega), ⟨ma_46, ka_46⟩, ⟨ma_47, ka_47⟩, ⟨ma_48, ka_48⟩, ⟨ma_49, ka_49⟩, ⟨ma_50, ka_50⟩, ⟨ma_51, ka_51⟩, ⟨ma_52, ka_52⟩, ⟨ma_53, ka_53⟩, ⟨ma_54, ka_54⟩, (by constructor <;> omega), ⟨ma_57, ka_57⟩⟩)
      have hfo_264 : f_263 a_2 = .inl (cI, 1560, .inl g_192) := by rw [ef_263, up_ne (kd_ne ko0 ka_2 (by decide))]; exact hfo_203
      have hfr0 : ∀ b, kd b ≠ 12 → kd b ≠ 579 → kd b ≠ 581 → kd b ≠ 583 → kd b ≠ 585 → kd b ≠ 587 → kd b ≠ 588 → kd b ≠ 589 → kd b ≠ 590 → kd b ≠ 591 → kd b ≠ 592 → kd b ≠ 593 → kd b ≠ 603 → f_263 b = f b := fun b q12 q579 q581 q583 q585 q587 q588 q589 q590 q591 q592 q593 q603 => (congrFun ef_263 b).trans ((up_ne (fun e9 => q12 (by rw [e9]; exact ko0))).trans (hfr0 b q12 q579 q581 q583 q585 q587 q588 q589 q590 q591 q592 q593 q603))
      have hrA12 : ∀ b, kd b = 12 → ∀ j, fldR (f_263 b) j = fldR (f b) j := fun b kb j => ((congrArg (fun x => fldR x j) (congrFun ef_263 b)).trans (fra_up (fun j => by rw [hfo_204]; exact fr_set (k := 29) rfl rfl j) j b)).trans (hrA12 b kb j)
      have hfA12 : ∀ b, kd b = 12 → ∀ j, j ≠ 5 → j ≠ 23 → j ≠ 25 → j ≠ 27 → j ≠ 29 → j ≠ 32 → fldI (f_263 b) j = fldI (f b) j := fun b kb j n5 n23 n25 n27 n29 n32 => ((congrArg (fun x => fldI x j) (congrFun ef_263 b)).trans (fia_up (fun h9 => by rw [hfo_204]; exact fi_set (k := 29) rfl h9) n29 b)).trans (hfA12 b kb j n5 n23 n25 n27 n29 n32)
      have hTc_201 : srel kd 592 f_263 o0 := by rw [ef_263]; exact hTc_201.keep (fun b _ => fr_up (by rw [hfo_204]; rfl) b) (fun b _ => fk_up (by rw [hfo_204]; rfl) b) (fun b _ => fk_up (by rw [hfo_204]; rfl) b) (fun b q => up_ne (kd_ne ko0 q (by decide)))
      have hfo_265 : f_263 o0 = .inr (12, [.ref a_2, .ref a_3, .ref a_4, .int v_5, .ref a_6, .int v_74, .int v_8, .int v_212, .int v_213, .int v_214, .int v_215, .int v_13, .int v_14, .int v_15, .int v_16, .ref a_17, .ref a_18, .ref a_19, .ref a_20, .ref a_21, .ref a_22, .ref a_23, .ref a_24, .int v_92, .int v_229, .int v_160, .int v_231, .int v_232, .ref a_30, .int 0, .ref a_32, .ref a_33, .int v_237, .int v_35, .ref a_36, .int v_37, .ref a_38, .ref a_39, .int v_40, .int v_244, .ref a_42, .ref a_43, .ref a_44, .int v_45, .ref a_46, .ref a_47, .ref a_48, .ref a_49, .ref a_50, .ref a_51, .ref a_52, .ref a_53, .ref a_54, .int v_55, .int v_259, .ref a_57]) := by rw [ef_263]; exact up_self
      refine lv_bipush (v := (-2)) hx hb dX12_words_63 (by decide) ?_
      exact W.iret (v := (-2)) hx hb hr (fun t ht hW => ⟨⟨(-2), f_263, rfl, ⟨hG, (by decide), hfr0, hrA12, hfA12, (by intro w5 z5 w29 z29 e5 e29 d5 d29; rw [hfo_1] at e5 e29; rw [hfo_265] at d5 d29; obtain rfl := Option.some.inj e5; obtain rfl := Option.some.inj d5; obtain rfl := Option.some.inj e29; obtain rfl := Option.some.inj d29; (try rw [ti_0]) <;> (try rw [ti_m2]) <;> omega), hTc_201⟩, by rw [ht]; exact hP, va_K.moved hW.alike hK, pl_in hD⟩, hS.F ht⟩) hS.2.2 dX12_words_65
    · skip
      rw [Int32.lt_iff_toInt_lt, ti_200] at c_261
      refine lv_aload_n hx hb dX12_words_53 rfl (lv_at hl 0 rfl) ?_
      refine tk_getP (D := (dC, dI)) (ci := 12) (v := .int v_234) (C := RX12) (T := TX12) (N := 56) hx hb hU inlX12 hown hK hP mo0 hfo_204 rfl 29 (by decide) (hU _ wd_570) (fun _ h9 => h9) rfl dX12_words_54 ?_
      exact W.iret (v := v_234) hx hb hr (fun t ht hW => ⟨⟨v_234, f_196, rfl, ⟨hG, (by constructor <;> omega), hfr0, hrA12, hfA12, (by intro w5 z5 w29 z29 e5 e29 d5 d29; rw [hfo_1] at e5 e29; rw [hfo_204] at d5 d29; obtain rfl := Option.some.inj e5; obtain rfl := Option.some.inj d5; obtain rfl := Option.some.inj e29; obtain rfl := Option.some.inj d29; omega), hTc_201⟩, by rw [ht]; exact hP, va_K.moved hW.alike hK, pl_in hD⟩, hS.F ht⟩) hS.2.2 dX12_words_57
  · skip
    rw [← Int32.toInt_inj, ti_0] at c_125
    refine lv_iconst (v := (-1)) hx hb dX12_words_15 (by decide) ?_
    exact W.iret (v := (-1)) hx hb hr (fun t ht hW => ⟨⟨(-1), f_62, rfl, ⟨hG, (by decide), hfr0, hrA12, hfA12, (by intro w5 z5 w29 z29 e5 e29 d5 d29; rw [hfo_1] at e5 e29; rw [hfo_68] at d5 d29; obtain rfl := Option.some.inj e5; obtain rfl := Option.some.inj d5; obtain rfl := Option.some.inj e29; obtain rfl := Option.some.inj d29; (try rw [ti_0]) <;> (try rw [ti_m1]) <;> omega), hT0⟩, by rw [ht]; exact hP, va_K.moved hW.alike hK, pl_in hD⟩, hS.F ht⟩) hS.2.2 dX12_words_16
set_option maxHeartbeats 8000000 in
set_option maxRecDepth 100000 in
theorem s_X12_say_k12 (l : Launch) (D : va_G) (cI cL cZ cR cG cH : ClassId) (Z : zT) (kd : Nat → Nat) (L : List Nat) (f : Nat → va_E) (hG : GI (okc cI cL cZ cR cG cH L kd) kd L f) (o0 : Nat) (mo0 : o0 ∈ L) (ko0 : kd o0 = 12) (hxtr0 : srel kd 592 f o0) : mPI l D cI cL cZ cR cG cH Z yX12_say cX12_say 1 (some .int) 24 676 [.ref o0] L f (fun (r : Int32) (f9 : Nat → va_E) => GI (okc cI cL cZ cR cG cH L kd) kd L f9 ∧ ((-2147483648) ≤ r.toInt ∧ r.toInt ≤ 2147483647) ∧ (∀ b, kd b ≠ 12 → kd b ≠ 579 → kd b ≠ 581 → kd b ≠ 583 → kd b ≠ 585 → kd b ≠ 587 → kd b ≠ 588 → kd b ≠ 589 → kd b ≠ 590 → kd b ≠ 591 → kd b ≠ 592 → kd b ≠ 593 → kd b ≠ 603 → f9 b = f b) ∧ (∀ b, kd b = 12 → ∀ j, fldR (f9 b) j = fldR (f b) j) ∧ (∀ b, kd b = 12 → ∀ j, j ≠ 5 → j ≠ 23 → j ≠ 25 → j ≠ 27 → j ≠ 29 → j ≠ 32 → fldI (f9 b) j = fldI (f b) j) ∧ (∀ (w5 z5 : Int32) (w29 z29 : Int32), fldI (f o0) 5 = some w5 → fldI (f o0) 29 = some w29 → fldI (f9 o0) 5 = some z5 → fldI (f9 o0) 29 = some z29 → z5.toInt = 0 ∧ z29.toInt ≤ 200) ∧ (srel kd 592 f9 o0)) := by
  obtain ⟨dC, dI⟩ := D
  refine Met.ofW (cc := cX12_say) (maxL := 1) (ret := (some .int)) (by decide) rfl ?_
  intro p e s m args below meth c s₁ B hml hv
  obtain ⟨rfl, hP, hK, hD0, hN, hZ⟩ := hv
  have hx := B.exec
  have hb := B.bytes
  have hr := B.returns
  have hU : ∀ w ∈ wsU, w.before _ s = true := fun w h => atoms_spec (ws := wU yX12_say cX12_say 1 (some .int)) B.pre w (List.mem_cons_of_mem _ h)
  have hown : s.vm.findClass RX12 = some m.cls := findClass_of_methodNamed B.named
  have hlocks := B.notSynchronized
  have hD := pl_in hD0
  have hS : va_S (fun q => q ∈ L) s.heap s.heap [] := va_S.rf
  have hl := lv_entry ([.ref o0]) (n := 1) (Nat.le_of_ble_eq_true rfl)
  rw [lg_entry_eq]
  generalize (lg_sl ([.ref o0]) ++ List.replicate (1 - (lg_sl ([.ref o0])).length) Slot.unset).toArray = ls at hl ⊢
  have hl : lv_has ls 1 [(0, .ref o0)] := hl
  have hfr0 : ∀ b, kd b ≠ 12 → kd b ≠ 579 → kd b ≠ 581 → kd b ≠ 583 → kd b ≠ 585 → kd b ≠ 587 → kd b ≠ 588 → kd b ≠ 589 → kd b ≠ 590 → kd b ≠ 591 → kd b ≠ 592 → kd b ≠ 593 → kd b ≠ 603 → f b = f b := fun _ _ _ _ _ _ _ _ _ _ _ _ _ _ => rfl
  have hrA12 : ∀ b, kd b = 12 → ∀ j, fldR (f b) j = fldR (f b) j := fun _ _ _ => rfl
  have hfA12 : ∀ b, kd b = 12 → ∀ j, j ≠ 5 → j ≠ 23 → j ≠ 25 → j ≠ 27 → j ≠ 29 → j ≠ 32 → fldI (f b) j = fldI (f b) j := fun _ _ _ _ _ _ _ _ _ => rfl
  obtain ⟨a_2, a_3, a_4, v_5, a_6, v_7, v_8, v_9, v_10, v_11, v_12, v_13, v_14, v_15, v_16, a_17, a_18, a_19, a_20, a_21, a_22, a_23, a_24, v_25, v_26, v_27, v_28, v_29, a_30, v_31, a_32, a_33, v_34, v_35, a_36, v_37, a_38, a_39, v_40, v_41, a_42, a_43, a_44, v_45, a_46, a_47, a_48, a_49, a_50, a_51, a_52, a_53, a_54, v_55, v_56, a_57, hfo_1, ⟨ma_2, ka_2⟩, ⟨ma_3, ka_3⟩, ⟨ma_4, ka_4⟩, bv_5, ⟨ma_6, ka_6⟩, bv_7, bv_8, bv_13, bv_14, bv_15, ⟨ma_17, ka_17⟩, ⟨ma_18, ka_18⟩, ⟨ma_19, ka_19⟩, ⟨ma_20, ka_20⟩, ⟨ma_21, ka_21⟩, ⟨ma_22, ka_22⟩, ⟨ma_23, ka_23⟩, ⟨ma_24, ka_24⟩, bv_25, bv_27, bv_29, ⟨ma_30, ka_30⟩, bv_31, ⟨ma_32, ka_32⟩, ⟨ma_33, ka_33⟩, bv_34, ⟨ma_36, ka_36⟩, bv_37, ⟨ma_38, ka_38⟩, ⟨ma_39, ka_39⟩, bv_40, ⟨ma_42, ka_42⟩, ⟨ma_43, ka_43⟩, ⟨ma_44, ka_44⟩, bv_45, ⟨ma_46, ka_46⟩, ⟨ma_47, ka_47⟩, ⟨ma_48, ka_48⟩, ⟨ma_49, ka_49⟩, ⟨ma_50, ka_50⟩, ⟨ma_51, ka_51⟩, ⟨ma_52, ka_52⟩, ⟨ma_53, ka_53⟩, ⟨ma_54, ka_54⟩, bv_55, ⟨ma_57, ka_57⟩⟩ := un_12 (hG _ mo0) ko0
  have bv_9 : ((-2147483648) ≤ v_9.toInt ∧ v_9.toInt ≤ 2147483647) := ⟨i32_lo _, i32_hi _⟩
  have bv_10 : ((-2147483648) ≤ v_10.toInt ∧ v_10.toInt ≤ 2147483647) := ⟨i32_lo _, i32_hi _⟩
  have bv_11 : ((-2147483648) ≤ v_11.toInt ∧ v_11.toInt ≤ 2147483647) := ⟨i32_lo _, i32_hi _⟩
  have bv_12 : ((-2147483648) ≤ v_12.toInt ∧ v_12.toInt ≤ 2147483647) := ⟨i32_lo _, i32_hi _⟩
  have bv_16 : ((-2147483648) ≤ v_16.toInt ∧ v_16.toInt ≤ 2147483647) := ⟨i32_lo _, i32_hi _⟩
  have bv_26 : ((-2147483648) ≤ v_26.toInt ∧ v_26.toInt ≤ 2147483647) := ⟨i32_lo _, i32_hi _⟩
  have bv_28 : ((-2147483648) ≤ v_28.toInt ∧ v_28.toInt ≤ 2147483647) := ⟨i32_lo _, i32_hi _⟩
  have bv_35 : ((-2147483648) ≤ v_35.toInt ∧ v_35.toInt ≤ 2147483647) := ⟨i32_lo _, i32_hi _⟩
  have bv_41 : ((-2147483648) ≤ v_41.toInt ∧ v_41.toInt ≤ 2147483647) := ⟨i32_lo _, i32_hi _⟩
  have bv_56 : ((-2147483648) ≤ v_56.toInt ∧ v_56.toInt ≤ 2147483647) := ⟨i32_lo _, i32_hi _⟩
  have hT0 := hxtr0
  refine lv_aload_n hx hb dX12_say_0 rfl (lv_at hl 0 rfl) ?_
  refine lv_iconst (v := 0) hx hb dX12_say_1 (by decide) ?_
  refine tk_ViP (As := [.int 0]) (rest := []) (n := 1) hx hb hml hown hU hN hZ (s_X12_words_k12 l (dC, dI) cI cL cZ cR cG cH Z kd L f hG o0 mo0 ko0 0 (by decide) hT0) wd_859 wd_860 wd_861 wd_5 wd_862 (by decide +kernel) ⟨Nat.le_of_ble_eq_true rfl, Nat.le_of_ble_eq_true rfl⟩ hK hP hD hS mo0 hfo_1 12 rfl rfl rfl hl.1 rfl (Nat.le_of_ble_eq_true rfl) dX12_say_2 ⟨Nat.le_of_ble_eq_true rfl, Nat.le_of_ble_eq_true rfl⟩ (fun x_58 f_59 H locs hw hP hD hS => ?_)
  obtain ⟨hG, bx_58, hkc_60, hra_61, hfa_62, hpost_63, hTc_64⟩ := hw
  have hfr0 : ∀ b, kd b ≠ 12 → kd b ≠ 579 → kd b ≠ 581 → kd b ≠ 583 → kd b ≠ 585 → kd b ≠ 587 → kd b ≠ 588 → kd b ≠ 589 → kd b ≠ 590 → kd b ≠ 591 → kd b ≠ 592 → kd b ≠ 593 → kd b ≠ 603 → f_59 b = f b := fun b q12 q579 q581 q583 q585 q587 q588 q589 q590 q591 q592 q593 q603 => (hkc_60 b q12 q579 q581 q583 q585 q587 q588 q589 q590 q591 q592 q593 q603).trans (hfr0 b q12 q579 q581 q583 q585 q587 q588 q589 q590 q591 q592 q593 q603)
  have hrA12 : ∀ b, kd b = 12 → ∀ j, fldR (f_59 b) j = fldR (f b) j := fun b kb j => (hra_61 b kb j).trans (hrA12 b kb j)
  have hfA12 : ∀ b, kd b = 12 → ∀ j, j ≠ 5 → j ≠ 23 → j ≠ 25 → j ≠ 27 → j ≠ 29 → j ≠ 32 → fldI (f_59 b) j = fldI (f b) j := fun b kb j n5 n23 n25 n27 n29 n32 => (hfa_62 b kb j n5 n23 n25 n27 n29 n32).trans (hfA12 b kb j n5 n23 n25 n27 n29 n32)
  obtain ⟨a_67, a_68, a_69, v_70, a_71, v_72, v_73, v_74, v_75, v_76, v_77, v_78, v_79, v_80, v_81, a_82, a_83, a_84, a_85, a_86, a_87, a_88, a_89, v_90, v_91, v_92, v_93, v_94, a_95, v_96, a_97, a_98, v_99, v_100, a_101, v_102, a_103, a_104, v_105, v_106, a_107, a_108, a_109, v_110, a_111, a_112, a_113, a_114, a_115, a_116, a_117, a_118, a_119, v_120, v_121, a_122, hfo_66, ⟨ma_67, ka_67⟩, ⟨ma_68, ka_68⟩, ⟨ma_69, ka_69⟩, bv_70, ⟨ma_71, ka_71⟩, bv_72, bv_73, bv_78, bv_79, bv_80, ⟨ma_82, ka_82⟩, ⟨ma_83, ka_83⟩, ⟨ma_84, ka_84⟩, ⟨ma_85, ka_85⟩, ⟨ma_86, ka_86⟩, ⟨ma_87, ka_87⟩, ⟨ma_88, ka_88⟩, ⟨ma_89, ka_89⟩, bv_90, bv_92, bv_94, ⟨ma_95, ka_95⟩, bv_96, ⟨ma_97, ka_97⟩, ⟨ma_98, ka_98⟩, bv_99, ⟨ma_101, ka_101⟩, bv_102, ⟨ma_103, ka_103⟩, ⟨ma_104, ka_104⟩, bv_105, ⟨ma_107, ka_107⟩, ⟨ma_108, ka_108⟩, ⟨ma_109, ka_109⟩, bv_110, ⟨ma_111, ka_111⟩, ⟨ma_112, ka_112⟩, ⟨ma_113, ka_113⟩, ⟨ma_114, ka_114⟩, ⟨ma_115, ka_115⟩, ⟨ma_116, ka_116⟩, ⟨ma_117, ka_117⟩, ⟨ma_118, ka_118⟩, ⟨ma_119, ka_119⟩, bv_120, ⟨ma_122, ka_122⟩⟩ := un_12 (hG _ mo0) ko0
  have bv_74 : ((-2147483648) ≤ v_74.toInt ∧ v_74.toInt ≤ 2147483647) := ⟨i32_lo _, i32_hi _⟩
  have bv_75 : ((-2147483648) ≤ v_75.toInt ∧ v_75.toInt ≤ 2147483647) := ⟨i32_lo _, i32_hi _⟩
  have bv_76 : ((-2147483648) ≤ v_76.toInt ∧ v_76.toInt ≤ 2147483647) := ⟨i32_lo _, i32_hi _⟩
  have bv_77 : ((-2147483648) ≤ v_77.toInt ∧ v_77.toInt ≤ 2147483647) := ⟨i32_lo _, i32_hi _⟩
  have bv_81 : ((-2147483648) ≤ v_81.toInt ∧ v_81.toInt ≤ 2147483647) := ⟨i32_lo _, i32_hi _⟩
  have bv_91 : ((-2147483648) ≤ v_91.toInt ∧ v_91.toInt ≤ 2147483647) := ⟨i32_lo _, i32_hi _⟩
  have bv_93 : ((-2147483648) ≤ v_93.toInt ∧ v_93.toInt ≤ 2147483647) := ⟨i32_lo _, i32_hi _⟩
  have bv_100 : ((-2147483648) ≤ v_100.toInt ∧ v_100.toInt ≤ 2147483647) := ⟨i32_lo _, i32_hi _⟩
  have bv_106 : ((-2147483648) ≤ v_106.toInt ∧ v_106.toInt ≤ 2147483647) := ⟨i32_lo _, i32_hi _⟩
  have bv_121 : ((-2147483648) ≤ v_121.toInt ∧ v_121.toInt ≤ 2147483647) := ⟨i32_lo _, i32_hi _⟩
  obtain ⟨rfl, rfl, rfl, rfl, rfl, rfl, rfl, rfl, rfl, rfl, rfl, rfl, rfl, rfl, rfl, rfl, rfl, rfl, rfl, rfl, rfl, rfl, rfl, rfl, rfl, rfl, rfl, rfl, rfl, rfl, rfl⟩ := re_12 hfo_1 hfo_66 (hrA12 o0 ko0)
  obtain rfl := ri_12_3 hfo_1 hfo_66 (hfA12 o0 ko0 3 (by decide) (by decide) (by decide) (by decide) (by decide) (by decide))
  obtain rfl := ri_12_6 hfo_1 hfo_66 (hfA12 o0 ko0 6 (by decide) (by decide) (by decide) (by decide) (by decide) (by decide))
  obtain rfl := ri_12_11 hfo_1 hfo_66 (hfA12 o0 ko0 11 (by decide) (by decide) (by decide) (by decide) (by decide) (by decide))
  obtain rfl := ri_12_12 hfo_1 hfo_66 (hfA12 o0 ko0 12 (by decide) (by decide) (by decide) (by decide) (by decide) (by decide))
  obtain rfl := ri_12_13 hfo_1 hfo_66 (hfA12 o0 ko0 13 (by decide) (by decide) (by decide) (by decide) (by decide) (by decide))
  obtain rfl := ri_12_14 hfo_1 hfo_66 (hfA12 o0 ko0 14 (by decide) (by decide) (by decide) (by decide) (by decide) (by decide))
  obtain rfl := ri_12_33 hfo_1 hfo_66 (hfA12 o0 ko0 33 (by decide) (by decide) (by decide) (by decide) (by decide) (by decide))
  obtain rfl := ri_12_35 hfo_1 hfo_66 (hfA12 o0 ko0 35 (by decide) (by decide) (by decide) (by decide) (by decide) (by decide))
  obtain rfl := ri_12_38 hfo_1 hfo_66 (hfA12 o0 ko0 38 (by decide) (by decide) (by decide) (by decide) (by decide) (by decide))
  obtain rfl := ri_12_43 hfo_1 hfo_66 (hfA12 o0 ko0 43 (by decide) (by decide) (by decide) (by decide) (by decide) (by decide))
  obtain rfl := ri_12_53 hfo_1 hfo_66 (hfA12 o0 ko0 53 (by decide) (by decide) (by decide) (by decide) (by decide) (by decide))
  have hqhpost_63 := hpost_63 v_7 v_72 v_31 v_96 (by rw [hfo_1]; rfl) (by rw [hfo_1]; rfl) (by rw [hfo_66]; rfl) (by rw [hfo_66]; rfl)
  try rw [ti_0] at hqhpost_63
  exact W.iret (v := x_58) hx hb hr (fun t ht hW => ⟨⟨x_58, f_59, rfl, ⟨hG, (by constructor <;> omega), hfr0, hrA12, hfA12, (by intro w5 z5 w29 z29 e5 e29 d5 d29; rw [hfo_1] at e5 e29; rw [hfo_66] at d5 d29; obtain rfl := Option.some.inj e5; obtain rfl := Option.some.inj d5; obtain rfl := Option.some.inj e29; obtain rfl := Option.some.inj d29; omega), hTc_64⟩, by rw [ht]; exact hP, va_K.moved hW.alike hK, pl_in hD⟩, hS.F ht⟩) hS.2.2 dX12_say_5
set_option maxHeartbeats 8000000 in
set_option maxRecDepth 100000 in
theorem s_X12_hear_k12 (l : Launch) (D : va_G) (cI cL cZ cR cG cH : ClassId) (Z : zT) (kd : Nat → Nat) (L : List Nat) (f : Nat → va_E) (hG : GI (okc cI cL cZ cR cG cH L kd) kd L f) (o0 : Nat) (mo0 : o0 ∈ L) (ko0 : kd o0 = 12) (hxtr0 : srel kd 592 f o0) : mPI l D cI cL cZ cR cG cH Z yX12_hear cX12_hear 1 (some .int) 24 676 [.ref o0] L f (fun (r : Int32) (f9 : Nat → va_E) => GI (okc cI cL cZ cR cG cH L kd) kd L f9 ∧ ((-2147483648) ≤ r.toInt ∧ r.toInt ≤ 2147483647) ∧ (∀ b, kd b ≠ 12 → kd b ≠ 579 → kd b ≠ 581 → kd b ≠ 583 → kd b ≠ 585 → kd b ≠ 587 → kd b ≠ 588 → kd b ≠ 589 → kd b ≠ 590 → kd b ≠ 591 → kd b ≠ 592 → kd b ≠ 593 → kd b ≠ 603 → f9 b = f b) ∧ (∀ b, kd b = 12 → ∀ j, fldR (f9 b) j = fldR (f b) j) ∧ (∀ b, kd b = 12 → ∀ j, j ≠ 5 → j ≠ 23 → j ≠ 25 → j ≠ 27 → j ≠ 29 → j ≠ 32 → fldI (f9 b) j = fldI (f b) j) ∧ (∀ (w5 z5 : Int32) (w29 z29 : Int32), fldI (f o0) 5 = some w5 → fldI (f o0) 29 = some w29 → fldI (f9 o0) 5 = some z5 → fldI (f9 o0) 29 = some z29 → z5.toInt = 0 ∧ z29.toInt ≤ 200) ∧ (srel kd 592 f9 o0)) := by
  obtain ⟨dC, dI⟩ := D
  refine Met.ofW (cc := cX12_hear) (maxL := 1) (ret := (some .int)) (by decide) rfl ?_
  intro p e s m args below meth c s₁ B hml hv
  obtain ⟨rfl, hP, hK, hD0, hN, hZ⟩ := hv
  have hx := B.exec
  have hb := B.bytes
  have hr := B.returns
  have hU : ∀ w ∈ wsU, w.before _ s = true := fun w h => atoms_spec (ws := wU yX12_hear cX12_hear 1 (some .int)) B.pre w (List.mem_cons_of_mem _ h)
  have hown : s.vm.findClass RX12 = some m.cls := findClass_of_methodNamed B.named
  have hlocks := B.notSynchronized
  have hD := pl_in hD0
  have hS : va_S (fun q => q ∈ L) s.heap s.heap [] := va_S.rf
  have hl := lv_entry ([.ref o0]) (n := 1) (Nat.le_of_ble_eq_true rfl)
  rw [lg_entry_eq]
  generalize (lg_sl ([.ref o0]) ++ List.replicate (1 - (lg_sl ([.ref o0])).length) Slot.unset).toArray = ls at hl ⊢
  have hl : lv_has ls 1 [(0, .ref o0)] := hl
  have hfr0 : ∀ b, kd b ≠ 12 → kd b ≠ 579 → kd b ≠ 581 → kd b ≠ 583 → kd b ≠ 585 → kd b ≠ 587 → kd b ≠ 588 → kd b ≠ 589 → kd b ≠ 590 → kd b ≠ 591 → kd b ≠ 592 → kd b ≠ 593 → kd b ≠ 603 → f b = f b := fun _ _ _ _ _ _ _ _ _ _ _ _ _ _ => rfl
  have hrA12 : ∀ b, kd b = 12 → ∀ j, fldR (f b) j = fldR (f b) j := fun _ _ _ => rfl
  have hfA12 : ∀ b, kd b = 12 → ∀ j, j ≠ 5 → j ≠ 23 → j ≠ 25 → j ≠ 27 → j ≠ 29 → j ≠ 32 → fldI (f b) j = fldI (f b) j := fun _ _ _ _ _ _ _ _ _ => rfl
  obtain ⟨a_2, a_3, a_4, v_5, a_6, v_7, v_8, v_9, v_10, v_11, v_12, v_13, v_14, v_15, v_16, a_17, a_18, a_19, a_20, a_21, a_22, a_23, a_24, v_25, v_26, v_27, v_28, v_29, a_30, v_31, a_32, a_33, v_34, v_35, a_36, v_37, a_38, a_39, v_40, v_41, a_42, a_43, a_44, v_45, a_46, a_47, a_48, a_49, a_50, a_51, a_52, a_53, a_54, v_55, v_56, a_57, hfo_1, ⟨ma_2, ka_2⟩, ⟨ma_3, ka_3⟩, ⟨ma_4, ka_4⟩, bv_5, ⟨ma_6, ka_6⟩, bv_7, bv_8, bv_13, bv_14, bv_15, ⟨ma_17, ka_17⟩, ⟨ma_18, ka_18⟩, ⟨ma_19, ka_19⟩, ⟨ma_20, ka_20⟩, ⟨ma_21, ka_21⟩, ⟨ma_22, ka_22⟩, ⟨ma_23, ka_23⟩, ⟨ma_24, ka_24⟩, bv_25, bv_27, bv_29, ⟨ma_30, ka_30⟩, bv_31, ⟨ma_32, ka_32⟩, ⟨ma_33, ka_33⟩, bv_34, ⟨ma_36, ka_36⟩, bv_37, ⟨ma_38, ka_38⟩, ⟨ma_39, ka_39⟩, bv_40, ⟨ma_42, ka_42⟩, ⟨ma_43, ka_43⟩, ⟨ma_44, ka_44⟩, bv_45, ⟨ma_46, ka_46⟩, ⟨ma_47, ka_47⟩, ⟨ma_48, ka_48⟩, ⟨ma_49, ka_49⟩, ⟨ma_50, ka_50⟩, ⟨ma_51, ka_51⟩, ⟨ma_52, ka_52⟩, ⟨ma_53, ka_53⟩, ⟨ma_54, ka_54⟩, bv_55, ⟨ma_57, ka_57⟩⟩ := un_12 (hG _ mo0) ko0
  have bv_9 : ((-2147483648) ≤ v_9.toInt ∧ v_9.toInt ≤ 2147483647) := ⟨i32_lo _, i32_hi _⟩
  have bv_10 : ((-2147483648) ≤ v_10.toInt ∧ v_10.toInt ≤ 2147483647) := ⟨i32_lo _, i32_hi _⟩
  have bv_11 : ((-2147483648) ≤ v_11.toInt ∧ v_11.toInt ≤ 2147483647) := ⟨i32_lo _, i32_hi _⟩
  have bv_12 : ((-2147483648) ≤ v_12.toInt ∧ v_12.toInt ≤ 2147483647) := ⟨i32_lo _, i32_hi _⟩
  have bv_16 : ((-2147483648) ≤ v_16.toInt ∧ v_16.toInt ≤ 2147483647) := ⟨i32_lo _, i32_hi _⟩
  have bv_26 : ((-2147483648) ≤ v_26.toInt ∧ v_26.toInt ≤ 2147483647) := ⟨i32_lo _, i32_hi _⟩
  have bv_28 : ((-2147483648) ≤ v_28.toInt ∧ v_28.toInt ≤ 2147483647) := ⟨i32_lo _, i32_hi _⟩
  have bv_35 : ((-2147483648) ≤ v_35.toInt ∧ v_35.toInt ≤ 2147483647) := ⟨i32_lo _, i32_hi _⟩
  have bv_41 : ((-2147483648) ≤ v_41.toInt ∧ v_41.toInt ≤ 2147483647) := ⟨i32_lo _, i32_hi _⟩
  have bv_56 : ((-2147483648) ≤ v_56.toInt ∧ v_56.toInt ≤ 2147483647) := ⟨i32_lo _, i32_hi _⟩
  have hT0 := hxtr0
  refine lv_aload_n hx hb dX12_hear_0 rfl (lv_at hl 0 rfl) ?_
  refine lv_iconst (v := 1) hx hb dX12_hear_1 (by decide) ?_
  refine tk_ViP (As := [.int 1]) (rest := []) (n := 1) hx hb hml hown hU hN hZ (s_X12_words_k12 l (dC, dI) cI cL cZ cR cG cH Z kd L f hG o0 mo0 ko0 1 (by decide) hT0) wd_859 wd_860 wd_861 wd_5 wd_862 (by decide +kernel) ⟨Nat.le_of_ble_eq_true rfl, Nat.le_of_ble_eq_true rfl⟩ hK hP hD hS mo0 hfo_1 12 rfl rfl rfl hl.1 rfl (Nat.le_of_ble_eq_true rfl) dX12_hear_2 ⟨Nat.le_of_ble_eq_true rfl, Nat.le_of_ble_eq_true rfl⟩ (fun x_58 f_59 H locs hw hP hD hS => ?_)
  obtain ⟨hG, bx_58, hkc_60, hra_61, hfa_62, hpost_63, hTc_64⟩ := hw
  have hfr0 : ∀ b, kd b ≠ 12 → kd b ≠ 579 → kd b ≠ 581 → kd b ≠ 583 → kd b ≠ 585 → kd b ≠ 587 → kd b ≠ 588 → kd b ≠ 589 → kd b ≠ 590 → kd b ≠ 591 → kd b ≠ 592 → kd b ≠ 593 → kd b ≠ 603 → f_59 b = f b := fun b q12 q579 q581 q583 q585 q587 q588 q589 q590 q591 q592 q593 q603 => (hkc_60 b q12 q579 q581 q583 q585 q587 q588 q589 q590 q591 q592 q593 q603).trans (hfr0 b q12 q579 q581 q583 q585 q587 q588 q589 q590 q591 q592 q593 q603)
  have hrA12 : ∀ b, kd b = 12 → ∀ j, fldR (f_59 b) j = fldR (f b) j := fun b kb j => (hra_61 b kb j).trans (hrA12 b kb j)
  have hfA12 : ∀ b, kd b = 12 → ∀ j, j ≠ 5 → j ≠ 23 → j ≠ 25 → j ≠ 27 → j ≠ 29 → j ≠ 32 → fldI (f_59 b) j = fldI (f b) j := fun b kb j n5 n23 n25 n27 n29 n32 => (hfa_62 b kb j n5 n23 n25 n27 n29 n32).trans (hfA12 b kb j n5 n23 n25 n27 n29 n32)
  obtain ⟨a_67, a_68, a_69, v_70, a_71, v_72, v_73, v_74, v_75, v_76, v_77, v_78, v_79, v_80, v_81, a_82, a_83, a_84, a_85, a_86, a_87, a_88, a_89, v_90, v_91, v_92, v_93, v_94, a_95, v_96, a_97, a_98, v_99, v_100, a_101, v_102, a_103, a_104, v_105, v_106, a_107, a_108, a_109, v_110, a_111, a_112, a_113, a_114, a_115, a_116, a_117, a_118, a_119, v_120, v_121, a_122, hfo_66, ⟨ma_67, ka_67⟩, ⟨ma_68, ka_68⟩, ⟨ma_69, ka_69⟩, bv_70, ⟨ma_71, ka_71⟩, bv_72, bv_73, bv_78, bv_79, bv_80, ⟨ma_82, ka_82⟩, ⟨ma_83, ka_83⟩, ⟨ma_84, ka_84⟩, ⟨ma_85, ka_85⟩, ⟨ma_86, ka_86⟩, ⟨ma_87, ka_87⟩, ⟨ma_88, ka_88⟩, ⟨ma_89, ka_89⟩, bv_90, bv_92, bv_94, ⟨ma_95, ka_95⟩, bv_96, ⟨ma_97, ka_97⟩, ⟨ma_98, ka_98⟩, bv_99, ⟨ma_101, ka_101⟩, bv_102, ⟨ma_103, ka_103⟩, ⟨ma_104, ka_104⟩, bv_105, ⟨ma_107, ka_107⟩, ⟨ma_108, ka_108⟩, ⟨ma_109, ka_109⟩, bv_110, ⟨ma_111, ka_111⟩, ⟨ma_112, ka_112⟩, ⟨ma_113, ka_113⟩, ⟨ma_114, ka_114⟩, ⟨ma_115, ka_115⟩, ⟨ma_116, ka_116⟩, ⟨ma_117, ka_117⟩, ⟨ma_118, ka_118⟩, ⟨ma_119, ka_119⟩, bv_120, ⟨ma_122, ka_122⟩⟩ := un_12 (hG _ mo0) ko0
  have bv_74 : ((-2147483648) ≤ v_74.toInt ∧ v_74.toInt ≤ 2147483647) := ⟨i32_lo _, i32_hi _⟩
  have bv_75 : ((-2147483648) ≤ v_75.toInt ∧ v_75.toInt ≤ 2147483647) := ⟨i32_lo _, i32_hi _⟩
  have bv_76 : ((-2147483648) ≤ v_76.toInt ∧ v_76.toInt ≤ 2147483647) := ⟨i32_lo _, i32_hi _⟩
  have bv_77 : ((-2147483648) ≤ v_77.toInt ∧ v_77.toInt ≤ 2147483647) := ⟨i32_lo _, i32_hi _⟩
  have bv_81 : ((-2147483648) ≤ v_81.toInt ∧ v_81.toInt ≤ 2147483647) := ⟨i32_lo _, i32_hi _⟩
  have bv_91 : ((-2147483648) ≤ v_91.toInt ∧ v_91.toInt ≤ 2147483647) := ⟨i32_lo _, i32_hi _⟩
  have bv_93 : ((-2147483648) ≤ v_93.toInt ∧ v_93.toInt ≤ 2147483647) := ⟨i32_lo _, i32_hi _⟩
  have bv_100 : ((-2147483648) ≤ v_100.toInt ∧ v_100.toInt ≤ 2147483647) := ⟨i32_lo _, i32_hi _⟩
  have bv_106 : ((-2147483648) ≤ v_106.toInt ∧ v_106.toInt ≤ 2147483647) := ⟨i32_lo _, i32_hi _⟩
  have bv_121 : ((-2147483648) ≤ v_121.toInt ∧ v_121.toInt ≤ 2147483647) := ⟨i32_lo _, i32_hi _⟩
  obtain ⟨rfl, rfl, rfl, rfl, rfl, rfl, rfl, rfl, rfl, rfl, rfl, rfl, rfl, rfl, rfl, rfl, rfl, rfl, rfl, rfl, rfl, rfl, rfl, rfl, rfl, rfl, rfl, rfl, rfl, rfl, rfl⟩ := re_12 hfo_1 hfo_66 (hrA12 o0 ko0)
  obtain rfl := ri_12_3 hfo_1 hfo_66 (hfA12 o0 ko0 3 (by decide) (by decide) (by decide) (by decide) (by decide) (by decide))
  obtain rfl := ri_12_6 hfo_1 hfo_66 (hfA12 o0 ko0 6 (by decide) (by decide) (by decide) (by decide) (by decide) (by decide))
  obtain rfl := ri_12_11 hfo_1 hfo_66 (hfA12 o0 ko0 11 (by decide) (by decide) (by decide) (by decide) (by decide) (by decide))
  obtain rfl := ri_12_12 hfo_1 hfo_66 (hfA12 o0 ko0 12 (by decide) (by decide) (by decide) (by decide) (by decide) (by decide))
  obtain rfl := ri_12_13 hfo_1 hfo_66 (hfA12 o0 ko0 13 (by decide) (by decide) (by decide) (by decide) (by decide) (by decide))
  obtain rfl := ri_12_14 hfo_1 hfo_66 (hfA12 o0 ko0 14 (by decide) (by decide) (by decide) (by decide) (by decide) (by decide))
  obtain rfl := ri_12_33 hfo_1 hfo_66 (hfA12 o0 ko0 33 (by decide) (by decide) (by decide) (by decide) (by decide) (by decide))
  obtain rfl := ri_12_35 hfo_1 hfo_66 (hfA12 o0 ko0 35 (by decide) (by decide) (by decide) (by decide) (by decide) (by decide))
  obtain rfl := ri_12_38 hfo_1 hfo_66 (hfA12 o0 ko0 38 (by decide) (by decide) (by decide) (by decide) (by decide) (by decide))
  obtain rfl := ri_12_43 hfo_1 hfo_66 (hfA12 o0 ko0 43 (by decide) (by decide) (by decide) (by decide) (by decide) (by decide))
  obtain rfl := ri_12_53 hfo_1 hfo_66 (hfA12 o0 ko0 53 (by decide) (by decide) (by decide) (by decide) (by decide) (by decide))
  have hqhpost_63 := hpost_63 v_7 v_72 v_31 v_96 (by rw [hfo_1]; rfl) (by rw [hfo_1]; rfl) (by rw [hfo_66]; rfl) (by rw [hfo_66]; rfl)
  try rw [ti_1] at hqhpost_63
  exact W.iret (v := x_58) hx hb hr (fun t ht hW => ⟨⟨x_58, f_59, rfl, ⟨hG, (by constructor <;> omega), hfr0, hrA12, hfA12, (by intro w5 z5 w29 z29 e5 e29 d5 d29; rw [hfo_1] at e5 e29; rw [hfo_66] at d5 d29; obtain rfl := Option.some.inj e5; obtain rfl := Option.some.inj d5; obtain rfl := Option.some.inj e29; obtain rfl := Option.some.inj d29; omega), hTc_64⟩, by rw [ht]; exact hP, va_K.moved hW.alike hK, pl_in hD⟩, hS.F ht⟩) hS.2.2 dX12_hear_5
set_option maxHeartbeats 8000000 in
set_option maxRecDepth 100000 in
theorem s_X12_found_k12 (l : Launch) (D : va_G) (cI cL cZ cR cG cH : ClassId) (Z : zT) (kd : Nat → Nat) (L : List Nat) (f : Nat → va_E) (hG : GI (okc cI cL cZ cR cG cH L kd) kd L f) (o0 : Nat) (mo0 : o0 ∈ L) (ko0 : kd o0 = 12) (p1 : Int32) (p2 : Int32) : mPI l D cI cL cZ cR cG cH Z yX12_found cX12_found 9 (some .int) 1 22 [.ref o0, .int p1, .int p2] L f (fun (r : Int32) (f9 : Nat → va_E) => f = f9 ∧ ((-2147483648) ≤ r.toInt ∧ r.toInt ≤ 2147483647)) := by
  obtain ⟨dC, dI⟩ := D
  refine Met.ofW (cc := cX12_found) (maxL := 9) (ret := (some .int)) (by decide) rfl ?_
  intro p e s m args below meth c s₁ B hml hv
  obtain ⟨rfl, hP, hK, hD0, hN, hZ⟩ := hv
  have hx := B.exec
  have hb := B.bytes
  have hr := B.returns
  have hU : ∀ w ∈ wsU, w.before _ s = true := fun w h => atoms_spec (ws := wU yX12_found cX12_found 9 (some .int)) B.pre w (List.mem_cons_of_mem _ h)
  have hown : s.vm.findClass RX12 = some m.cls := findClass_of_methodNamed B.named
  have hlocks := B.notSynchronized
  have hD := pl_in hD0
  have hS : va_S (fun q => q ∈ L) s.heap s.heap [] := va_S.rf
  have hl := lv_entry ([.ref o0, .int p1, .int p2]) (n := 9) (Nat.le_of_ble_eq_true rfl)
  rw [lg_entry_eq]
  generalize (lg_sl ([.ref o0, .int p1, .int p2]) ++ List.replicate (9 - (lg_sl ([.ref o0, .int p1, .int p2])).length) Slot.unset).toArray = ls at hl ⊢
  have hl : lv_has ls 9 [(0, .ref o0), (1, .int p1), (2, .int p2)] := hl
  have bp1 : ((-2147483648) ≤ p1.toInt ∧ p1.toInt ≤ 2147483647) := ⟨i32_lo _, i32_hi _⟩
  have bp2 : ((-2147483648) ≤ p2.toInt ∧ p2.toInt ≤ 2147483647) := ⟨i32_lo _, i32_hi _⟩
  refine lv_iload_n hx hb dX12_found_0 rfl (lv_at hl 1 rfl) ?_
  refine lv_iconst (v := 0) hx hb dX12_found_1 (by decide) ?_
  refine lv_aload_n hx hb dX12_found_2 rfl (lv_at hl 0 rfl) ?_
  obtain ⟨a_2, a_3, a_4, v_5, a_6, v_7, v_8, v_9, v_10, v_11, v_12, v_13, v_14, v_15, v_16, a_17, a_18, a_19, a_20, a_21, a_22, a_23, a_24, v_25, v_26, v_27, v_28, v_29, a_30, v_31, a_32, a_33, v_34, v_35, a_36, v_37, a_38, a_39, v_40, v_41, a_42, a_43, a_44, v_45, a_46, a_47, a_48, a_49, a_50, a_51, a_52, a_53, a_54, v_55, v_56, a_57, hfo_1, ⟨ma_2, ka_2⟩, ⟨ma_3, ka_3⟩, ⟨ma_4, ka_4⟩, bv_5, ⟨ma_6, ka_6⟩, bv_7, bv_8, bv_13, bv_14, bv_15, ⟨ma_17, ka_17⟩, ⟨ma_18, ka_18⟩, ⟨ma_19, ka_19⟩, ⟨ma_20, ka_20⟩, ⟨ma_21, ka_21⟩, ⟨ma_22, ka_22⟩, ⟨ma_23, ka_23⟩, ⟨ma_24, ka_24⟩, bv_25, bv_27, bv_29, ⟨ma_30, ka_30⟩, bv_31, ⟨ma_32, ka_32⟩, ⟨ma_33, ka_33⟩, bv_34, ⟨ma_36, ka_36⟩, bv_37, ⟨ma_38, ka_38⟩, ⟨ma_39, ka_39⟩, bv_40, ⟨ma_42, ka_42⟩, ⟨ma_43, ka_43⟩, ⟨ma_44, ka_44⟩, bv_45, ⟨ma_46, ka_46⟩, ⟨ma_47, ka_47⟩, ⟨ma_48, ka_48⟩, ⟨ma_49, ka_49⟩, ⟨ma_50, ka_50⟩, ⟨ma_51, ka_51⟩, ⟨ma_52, ka_52⟩, ⟨ma_53, ka_53⟩, ⟨ma_54, ka_54⟩, bv_55, ⟨ma_57, ka_57⟩⟩ := un_12 (hG _ mo0) ko0
  have bv_9 : ((-2147483648) ≤ v_9.toInt ∧ v_9.toInt ≤ 2147483647) := ⟨i32_lo _, i32_hi _⟩
  have bv_10 : ((-2147483648) ≤ v_10.toInt ∧ v_10.toInt ≤ 2147483647) := ⟨i32_lo _, i32_hi _⟩
  have bv_11 : ((-2147483648) ≤ v_11.toInt ∧ v_11.toInt ≤ 2147483647) := ⟨i32_lo _, i32_hi _⟩
  have bv_12 : ((-2147483648) ≤ v_12.toInt ∧ v_12.toInt ≤ 2147483647) := ⟨i32_lo _, i32_hi _⟩
  have bv_16 : ((-2147483648) ≤ v_16.toInt ∧ v_16.toInt ≤ 2147483647) := ⟨i32_lo _, i32_hi _⟩
  have bv_26 : ((-2147483648) ≤ v_26.toInt ∧ v_26.toInt ≤ 2147483647) := ⟨i32_lo _, i32_hi _⟩
  have bv_28 : ((-2147483648) ≤ v_28.toInt ∧ v_28.toInt ≤ 2147483647) := ⟨i32_lo _, i32_hi _⟩
  have bv_35 : ((-2147483648) ≤ v_35.toInt ∧ v_35.toInt ≤ 2147483647) := ⟨i32_lo _, i32_hi _⟩
  have bv_41 : ((-2147483648) ≤ v_41.toInt ∧ v_41.toInt ≤ 2147483647) := ⟨i32_lo _, i32_hi _⟩
  have bv_56 : ((-2147483648) ≤ v_56.toInt ∧ v_56.toInt ≤ 2147483647) := ⟨i32_lo _, i32_hi _⟩
  refine tk_getP (D := (dC, dI)) (ci := 12) (v := .int v_31) (C := RX12) (T := TX12) (N := 56) hx hb hU inlX12 hown hK hP mo0 hfo_1 rfl 29 (by decide) (hU _ wd_570) (fun _ h9 => h9) rfl dX12_found_3 ?_
  refine lv_iconst (v := 1) hx hb dX12_found_6 (by decide) ?_
  refine lv_isub hx hb dX12_found_7 ?_
  refine lv_topi (fun x_58 ex_58 => ?_)
  have hx_58 : x_58.toInt = v_31.toInt - 1 := by rw [ex_58, sb_I (by rw [ti_1]; omega) (by rw [ti_1]; omega), ti_1]
  have bx_58 : ((-1) ≤ x_58.toInt ∧ x_58.toInt ≤ 200) := by constructor <;> omega
  refine tk_SiP (As := [.int p1, .int 0, .int x_58]) (rest := []) (n := 3) hx hb hml hown hU hN hZ (s_X12_isIn l (dC, dI) cI cL cZ cR cG cH Z kd L f hG p1 0 x_58) wd_227 wd_228 wd_5 wd_229 (by decide +kernel) ⟨Nat.le_of_ble_eq_true rfl, Nat.le_of_ble_eq_true rfl⟩ hK hP hD hS rfl hl.1 rfl (Nat.le_of_ble_eq_true rfl) dX12_found_8 ⟨Nat.le_of_ble_eq_true rfl, Nat.le_of_ble_eq_true rfl⟩ (fun x_59 f_60 H locs hw hP hD hS => ?_)
  obtain ⟨rfl, bx_59, relx_59⟩ := hw
  try rw [ti_0] at relx_59
  refine lv_if_eq (tgt := 24) hx hb dX12_found_11 (by decide) (fun c_62 => ?_) (fun c_62 => ?_)
  · skip
    rw [← Int32.toInt_inj, ti_0] at c_62
    refine lv_iconst (v := (-1)) hx hb dX12_found_24 (by decide) ?_
    exact W.iret (v := (-1)) hx hb hr (fun t ht hW => ⟨⟨(-1), f, rfl, ⟨rfl, (by decide)⟩, by rw [ht]; exact hP, va_K.moved hW.alike hK, pl_in hD⟩, hS.F ht⟩) hS.2.2 dX12_found_25
  · skip
    rw [← Int32.toInt_inj, ti_0] at c_62
    refine lv_iload_n hx hb dX12_found_14 rfl (lv_at hl 2 rfl) ?_
    refine lv_iconst (v := (-1)) hx hb dX12_found_15 (by decide) ?_
    refine lv_bipush (v := 9) hx hb dX12_found_16 (by decide) ?_
    refine tk_SiP (As := [.int p2, .int (-1), .int 9]) (rest := []) (n := 3) hx hb hml hown hU hN hZ (s_X12_isIn l (dC, dI) cI cL cZ cR cG cH Z kd L f hG p2 (-1) 9) wd_227 wd_228 wd_5 wd_229 (by decide +kernel) ⟨Nat.le_of_ble_eq_true rfl, Nat.le_of_ble_eq_true rfl⟩ hK hP hD hS rfl hl.1 rfl (Nat.le_of_ble_eq_true rfl) dX12_found_18 ⟨Nat.le_of_ble_eq_true rfl, Nat.le_of_ble_eq_true rfl⟩ (fun x_63 f_64 H locs hw hP hD hS => ?_)
    obtain ⟨rfl, bx_63, relx_63⟩ := hw
    try rw [ti_m1] at relx_63
    try rw [ti_9] at relx_63
    refine lv_if_ne (tgt := 26) hx hb dX12_found_21 (by decide) (fun c_66 => ?_) (fun c_66 => ?_)
    · skip
      rw [← Int32.toInt_inj, ti_0] at c_66
      refine lv_aload_n hx hb dX12_found_26 rfl (lv_at hl 0 rfl) ?_
      refine tk_getP (D := (dC, dI)) (ci := 12) (v := .ref a_30) (C := RX12) (T := TX12) (N := 56) hx hb hU inlX12 hown hK hP mo0 hfo_1 rfl 28 (by decide) (hU _ wd_183) (fun _ h9 => h9) rfl dX12_found_27 ?_
      refine lv_iload_n hx hb dX12_found_30 rfl (lv_at hl 1 rfl) ?_
      obtain ⟨g_68, hfo_67⟩ := un_591 (hG _ ma_30) ka_30
      refine tk_lldP hx hb hK hP 1 ma_30 hfo_67 rfl (vp_in_iff.mpr (by constructor <;> omega)) dX12_found_31 ?_
      refine lv_topl (fun j_69 ej_69 => ?_)
      refine lv_lstore_n (lv' := [(3, .long j_69), (0, .ref o0), (1, .int p1), (2, .int p2)]) hx hb dX12_found_32 rfl hl (by decide) rfl (fun ls hl => ?_)
      refine lv_iconst (v := 0) hx hb dX12_found_33 (by decide) ?_
      refine lv_istore (lv' := [(5, .int 0), (3, .long j_69), (0, .ref o0), (1, .int p1), (2, .int p2)]) hx hb dX12_found_34 hl (by decide) rfl (fun ls hl => ?_)
      refine lv_iconst (v := (-1)) hx hb dX12_found_36 (by decide) ?_
      refine lv_istore (lv' := [(6, .int (-1)), (5, .int 0), (3, .long j_69), (0, .ref o0), (1, .int p1), (2, .int p2)]) hx hb dX12_found_37 hl (by decide) rfl (fun ls hl => ?_)
      refine lv_bipush (v := 9) hx hb dX12_found_39 (by decide) ?_
      refine lv_istore (lv' := [(7, .int 9), (6, .int (-1)), (5, .int 0), (3, .long j_69), (0, .ref o0), (1, .int p1), (2, .int p2)]) hx hb dX12_found_41 hl (by decide) rfl (fun ls hl => ?_)
      have hloop_85 : ∀ (n : Nat), ∀ (y_86 : Int32), ((-1) ≤ y_86.toInt ∧ y_86.toInt ≤ 9) → ∀ (y_87 : Int32), ((-2147483648) ≤ y_87.toInt ∧ y_87.toInt ≤ 2147483647) → ∀ (y_88 : Int32), ((-2147483648) ≤ y_88.toInt ∧ y_88.toInt ≤ 2147483647) → ∀ (y_89 : Int64), y_86.toInt - (-1) < (n : Int) → ∀ (ls : Array Slot), lv_has ls 9 [(7, .int y_86), (6, .int y_87), (5, .int y_88), (3, .long y_89), (0, .ref o0), (1, .int p1), (2, .int p2)] → W p l e (headSpec (wU yX12_found cX12_found 9 (some .int)) { frames := 1, cells := 0, slots := 0, locals := 22 }).room s m [.ref o0, .int p1, .int p2].toArray below meth c H locs 0 0 (MQ below (va_Qi (fun (r : Int32) (f9 : Nat → va_E) => f = f9 ∧ ((-2147483648) ≤ r.toInt ∧ r.toInt ≤ 2147483647)) (qP (dC, dI) cI cL cZ cR cG cH L) (fun q => q ∈ L)) [.ref o0, .int p1, .int p2].toArray s 0 0 (fun q => q ∈ L)) (F0 m 43 ls []) := by
        intro n
        induction n with
        | zero => intro y_86 by_86 y_87 by_87 y_88 by_88 y_89 hmuhloop_85 ls hl; exfalso; omega
        | succ n ih_hloop_85 =>
          intro y_86 by_86 y_87 by_87 y_88 by_88 y_89 hmuhloop_85 ls hl
          refine lv_iload hx hb dX12_found_43 (lv_at hl 0 rfl) ?_
          refine lv_if_lt (tgt := 100) hx hb dX12_found_45 (by decide) (fun c_90 => ?_) (fun c_90 => ?_)
          · skip
            rw [Int32.lt_iff_toInt_lt, ti_0] at c_90
            refine lv_iload_n hx hb dX12_found_100 rfl (lv_at hl 6 rfl) ?_
            refine lv_iconst (v := (-1)) hx hb dX12_found_101 (by decide) ?_
            refine lv_icmp_ne (tgt := 110) hx hb dX12_found_102 (by decide) (fun c_91 => ?_) (fun c_91 => ?_)
            · skip
              rw [← Int32.toInt_inj, ti_m1] at c_91
              refine lv_iload hx hb dX12_found_110 (lv_at hl 1 rfl) ?_
              exact W.iret (v := y_87) hx hb hr (fun t ht hW => ⟨⟨y_87, f, rfl, ⟨rfl, (by constructor <;> omega)⟩, by rw [ht]; exact hP, va_K.moved hW.alike hK, pl_in hD⟩, hS.F ht⟩) hS.2.2 dX12_found_112
            · skip
              rw [← Int32.toInt_inj, ti_m1] at c_91
              refine lv_iload hx hb dX12_found_105 (lv_at hl 2 rfl) ?_
              refine lv_goto (tgt := 112) hx hb dX12_found_107 (by decide) ?_
              exact W.iret (v := y_88) hx hb hr (fun t ht hW => ⟨⟨y_88, f, rfl, ⟨rfl, (by constructor <;> omega)⟩, by rw [ht]; exact hP, va_K.moved hW.alike hK, pl_in hD⟩, hS.F ht⟩) hS.2.2 dX12_found_112
          · skip
            rw [Int32.lt_iff_toInt_lt, ti_0] at c_90
            refine lv_lload_n hx hb dX12_found_48 rfl (lv_at hl 3 rfl) ?_
            refine lv_ldc2 (v := 9) hx hb hown (hU _ wd_915) dX12_found_49 ?_
            refine lv_lrem hx hb dX12_found_52 (by decide) ?_
            refine lv_topl (fun j_92 ej_92 => ?_)
            refine lv_l2i hx hb dX12_found_53 rfl ?_
            refine lv_topi (fun x_93 ex_93 => ?_)
            have bx_93 : ((-2147483648) ≤ x_93.toInt ∧ x_93.toInt ≤ 2147483647) := ⟨i32_lo _, i32_hi _⟩
            refine lv_istore (lv' := [(8, .int x_93), (7, .int y_86), (6, .int y_87), (5, .int y_88), (3, .long y_89), (0, .ref o0), (1, .int p1), (2, .int p2)]) hx hb dX12_found_54 hl (by decide) rfl (fun ls hl => ?_)
            refine lv_lload_n hx hb dX12_found_56 rfl (lv_at hl 4 rfl) ?_
            refine lv_ldc2 (v := 9) hx hb hown (hU _ wd_915) dX12_found_57 ?_
            refine lv_ldiv hx hb dX12_found_60 (by decide) ?_
            refine lv_topl (fun j_94 ej_94 => ?_)
            refine lv_lstore_n (lv' := [(3, .long j_94), (8, .int x_93), (7, .int y_86), (6, .int y_87), (5, .int y_88), (0, .ref o0), (1, .int p1), (2, .int p2)]) hx hb dX12_found_61 rfl hl (by decide) rfl (fun ls hl => ?_)
            refine lv_iload hx hb dX12_found_62 (lv_at hl 4 rfl) ?_
            refine lv_iload hx hb dX12_found_64 (lv_at hl 1 rfl) ?_
            have hcut_96 : ∀ (y_95 : Int32), (0 ≤ y_95.toInt ∧ y_95.toInt ≤ 1) → ∀ (ls : Array Slot), lv_has ls 9 [(3, .long j_94), (8, .int x_93), (7, .int y_86), (6, .int y_87), (5, .int y_88), (0, .ref o0), (1, .int p1), (2, .int p2)] → W p l e (headSpec (wU yX12_found cX12_found 9 (some .int)) { frames := 1, cells := 0, slots := 0, locals := 22 }).room s m [.ref o0, .int p1, .int p2].toArray below meth c H locs 0 0 (MQ below (va_Qi (fun (r : Int32) (f9 : Nat → va_E) => f = f9 ∧ ((-2147483648) ≤ r.toInt ∧ r.toInt ≤ 2147483647)) (qP (dC, dI) cI cL cZ cR cG cH L) (fun q => q ∈ L)) [.ref o0, .int p1, .int p2].toArray s 0 0 (fun q => q ∈ L)) (F0 m 74 ls [.int y_95, .int y_88]) := by
              intro y_95 by_95 ls hl
              refine lv_iadd hx hb dX12_found_74 ?_
              refine lv_topi (fun x_97 ex_97 => ?_)
              have bx_97 : ((-2147483648) ≤ x_97.toInt ∧ x_97.toInt ≤ 2147483647) := ⟨i32_lo _, i32_hi _⟩
              refine lv_istore (lv' := [(5, .int x_97), (3, .long j_94), (8, .int x_93), (7, .int y_86), (6, .int y_87), (0, .ref o0), (1, .int p1), (2, .int p2)]) hx hb dX12_found_75 hl (by decide) rfl (fun ls hl => ?_)
              refine lv_iload hx hb dX12_found_77 (lv_at hl 3 rfl) ?_
              refine lv_iload_n hx hb dX12_found_79 rfl (lv_at hl 7 rfl) ?_
              have hcut_99 : ∀ (y_98 : Int32), ((-2147483648) ≤ y_98.toInt ∧ y_98.toInt ≤ 2147483647) → ∀ (ls : Array Slot), lv_has ls 9 [(5, .int x_97), (3, .long j_94), (8, .int x_93), (7, .int y_86), (6, .int y_98), (0, .ref o0), (1, .int p1), (2, .int p2)] → W p l e (headSpec (wU yX12_found cX12_found 9 (some .int)) { frames := 1, cells := 0, slots := 0, locals := 22 }).room s m [.ref o0, .int p1, .int p2].toArray below meth c H locs 0 0 (MQ below (va_Qi (fun (r : Int32) (f9 : Nat → va_E) => f = f9 ∧ ((-2147483648) ≤ r.toInt ∧ r.toInt ≤ 2147483647)) (qP (dC, dI) cI cL cZ cR cG cH L) (fun q => q ∈ L)) [.ref o0, .int p1, .int p2].toArray s 0 0 (fun q => q ∈ L)) (F0 m 94 ls []) := by
                intro y_98 by_98 ls hl
                obtain ⟨x_100, ex_100⟩ : ∃ y : Int32, y_86 + (-1) = y := ⟨_, rfl⟩
                have hx_100 : x_100.toInt = y_86.toInt + (-1) := by rw [← ex_100, ad_I (by rw [ti_m1]; omega) (by rw [ti_m1]; omega), ti_m1]
                have bx_100 : ((-1) ≤ x_100.toInt ∧ x_100.toInt ≤ 8) := by constructor <;> omega
                refine lv_iinc (v := x_100) (lv' := [(7, .int x_100), (5, .int x_97), (3, .long j_94), (8, .int x_93), (6, .int y_98), (0, .ref o0), (1, .int p1), (2, .int p2)]) hx hb dX12_found_94 hl (k := 3) rfl ex_100 (by decide) rfl (fun ls hl => ?_)
                refine lv_goto (tgt := 43) hx hb dX12_found_97 (by decide) ?_
                exact ih_hloop_85 x_100 (by constructor <;> omega) y_98 (by constructor <;> omega) x_97 (by constructor <;> omega) (j_94) (by omega) ls (lv_sub hl [0, 4, 1, 2, 5, 6, 7] rfl)
              refine lv_icmp_ne (tgt := 94) hx hb dX12_found_80 (by decide) (fun c_101 => ?_) (fun c_101 => ?_)
              · skip
                rw [← Int32.toInt_inj] at c_101
                exact hcut_99 y_87 (by constructor <;> omega) ls (lv_sub hl [0, 1, 2, 3, 4, 5, 6, 7] rfl)
              · skip
                rw [← Int32.toInt_inj] at c_101
                refine lv_iload hx hb dX12_found_83 (lv_at hl 2 rfl) ?_
                refine lv_if_le (tgt := 94) hx hb dX12_found_85 (by decide) (fun c_102 => ?_) (fun c_102 => ?_)
                · skip
                  rw [Int32.le_iff_toInt_le, ti_0] at c_102
                  exact hcut_99 y_87 (by constructor <;> omega) ls (lv_sub hl [0, 1, 2, 3, 4, 5, 6, 7] rfl)
                · skip
                  rw [Int32.le_iff_toInt_le, ti_0] at c_102
                  refine lv_iload hx hb dX12_found_88 (lv_at hl 2 rfl) ?_
                  refine lv_iconst (v := 1) hx hb dX12_found_90 (by decide) ?_
                  refine lv_isub hx hb dX12_found_91 ?_
                  refine lv_topi (fun x_103 ex_103 => ?_)
                  have hx_103 : x_103.toInt = x_93.toInt - 1 := by rw [ex_103, sb_I (by rw [ti_1]; omega) (by rw [ti_1]; omega), ti_1]
                  have bx_103 : (0 ≤ x_103.toInt ∧ x_103.toInt ≤ 2147483646) := by constructor <;> omega
                  refine lv_istore (lv' := [(6, .int x_103), (5, .int x_97), (3, .long j_94), (8, .int x_93), (7, .int y_86), (0, .ref o0), (1, .int p1), (2, .int p2)]) hx hb dX12_found_92 hl (by decide) rfl (fun ls hl => ?_)
                  exact hcut_99 x_103 (by constructor <;> omega) ls (lv_sub hl [1, 2, 3, 4, 0, 5, 6, 7] rfl)
            refine lv_if_le (tgt := 73) hx hb dX12_found_66 (by decide) (fun c_104 => ?_) (fun c_104 => ?_)
            · skip
              rw [Int32.le_iff_toInt_le, ti_0] at c_104
              refine lv_iconst (v := 0) hx hb dX12_found_73 (by decide) ?_
              exact hcut_96 0 (by decide) ls (lv_sub hl [0, 1, 2, 3, 4, 5, 6, 7] rfl)
            · skip
              rw [Int32.le_iff_toInt_le, ti_0] at c_104
              refine lv_iconst (v := 1) hx hb dX12_found_69 (by decide) ?_
              refine lv_goto (tgt := 74) hx hb dX12_found_70 (by decide) ?_
              exact hcut_96 1 (by decide) ls (lv_sub hl [0, 1, 2, 3, 4, 5, 6, 7] rfl)
      exact hloop_85 11 9 (by decide) (-1) (by decide) 0 (by decide) (j_69) (by (try rw [ti_9]) <;> (try rw [ti_m1]) <;> (try rw [ti_0]) <;> omega) ls hl
    · skip
      rw [← Int32.toInt_inj, ti_0] at c_66
      refine lv_iconst (v := (-1)) hx hb dX12_found_24 (by decide) ?_
      exact W.iret (v := (-1)) hx hb hr (fun t ht hW => ⟨⟨(-1), f, rfl, ⟨rfl, (by decide)⟩, by rw [ht]; exact hP, va_K.moved hW.alike hK, pl_in hD⟩, hS.F ht⟩) hS.2.2 dX12_found_25
