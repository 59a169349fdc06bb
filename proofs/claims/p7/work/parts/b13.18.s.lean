set_option maxHeartbeats 8000000 in
set_option maxRecDepth 100000 in
theorem s_X12_learn_k12 (l : Launch) (D : va_G) (cI cL cZ cR cG cH : ClassId) (Z : zT) (kd : Nat → Nat) (L : List Nat) (f : Nat → va_E) (hG : GI (okc cI cL cZ cR cG cH L kd) kd L f) (o0 : Nat) (mo0 : o0 ∈ L) (ko0 : kd o0 = 12) : mPI l D cI cL cZ cR cG cH Z yX12_learn cX12_learn 3 (some .int) 23 631 [.ref o0] L f (fun (r : Int32) (f9 : Nat → va_E) => GI (okc cI cL cZ cR cG cH L kd) kd L f9 ∧ ((-1) ≤ r.toInt ∧ r.toInt ≤ 255) ∧ (∀ b, kd b ≠ 12 → kd b ≠ 579 → kd b ≠ 581 → kd b ≠ 583 → kd b ≠ 585 → kd b ≠ 587 → kd b ≠ 588 → kd b ≠ 589 → kd b ≠ 594 → f9 b = f b) ∧ (∀ b, kd b = 12 → ∀ j, fldR (f9 b) j = fldR (f b) j) ∧ (∀ b, kd b = 12 → ∀ j, j ≠ 23 → j ≠ 35 → fldI (f9 b) j = fldI (f b) j)) := by
  obtain ⟨dC, dI⟩ := D
  refine Met.ofW (cc := cX12_learn) (maxL := 3) (ret := (some .int)) (by decide) rfl ?_
  intro p e s m args below meth c s₁ B hml hv
  obtain ⟨rfl, hP, hK, hD0, hN, hZ⟩ := hv
  have hx := B.exec
  have hb := B.bytes
  have hr := B.returns
  have hU : ∀ w ∈ wsU, w.before _ s = true := fun w h => atoms_spec (ws := wU yX12_learn cX12_learn 3 (some .int)) B.pre w (List.mem_cons_of_mem _ h)
  have hown : s.vm.findClass RX12 = some m.cls := findClass_of_methodNamed B.named
  have hlocks := B.notSynchronized
  have hD := pl_in hD0
  have hS : va_S (fun q => q ∈ L) s.heap s.heap [] := va_S.rf
  have hl := lv_entry ([.ref o0]) (n := 3) (Nat.le_of_ble_eq_true rfl)
  rw [lg_entry_eq]
  generalize (lg_sl ([.ref o0]) ++ List.replicate (3 - (lg_sl ([.ref o0])).length) Slot.unset).toArray = ls at hl ⊢
  have hl : lv_has ls 3 [(0, .ref o0)] := hl
  have hfr0 : ∀ b, kd b ≠ 12 → kd b ≠ 579 → kd b ≠ 581 → kd b ≠ 583 → kd b ≠ 585 → kd b ≠ 587 → kd b ≠ 588 → kd b ≠ 589 → kd b ≠ 594 → f b = f b := fun _ _ _ _ _ _ _ _ _ _ => rfl
  have hrA12 : ∀ b, kd b = 12 → ∀ j, fldR (f b) j = fldR (f b) j := fun _ _ _ => rfl
  have hfA12 : ∀ b, kd b = 12 → ∀ j, j ≠ 23 → j ≠ 35 → fldI (f b) j = fldI (f b) j := fun _ _ _ _ _ => rfl
  refine lv_iconst (v := (-1)) hx hb dX12_learn_0 (by decide) ?_
  refine lv_istore_n (lv' := [(1, .int (-1)), (0, .ref o0)]) hx hb dX12_learn_1 rfl hl (by decide) rfl (fun ls hl => ?_)
  refine lv_iconst (v := 0) hx hb dX12_learn_2 (by decide) ?_
  refine lv_istore_n (lv' := [(2, .int 0), (1, .int (-1)), (0, .ref o0)]) hx hb dX12_learn_3 rfl hl (by decide) rfl (fun ls hl => ?_)
  have hloop_6 : ∀ (n : Nat), ∀ (y_7 : Int32), (0 ≤ y_7.toInt ∧ y_7.toInt ≤ 256) → ∀ (y_8 : Int32), ((-1) ≤ y_8.toInt ∧ y_8.toInt ≤ 255) → ∀ (f_10 : Nat → va_E), GI (okc cI cL cZ cR cG cH L kd) kd L f_10 → ∀ (H : Heap) (locs : List Loc), va_P (dC, dI) vwCl (va_pl L f_10) H → va_S (fun q => q ∈ L) s.heap H locs → va_D (fun q => q ∈ L) (va_pl L f_10) → (∀ b, kd b ≠ 12 → kd b ≠ 579 → kd b ≠ 581 → kd b ≠ 583 → kd b ≠ 585 → kd b ≠ 587 → kd b ≠ 588 → kd b ≠ 589 → kd b ≠ 594 → f_10 b = f b) → (∀ b, kd b = 12 → ∀ j, fldR (f_10 b) j = fldR (f b) j) → (∀ b, kd b = 12 → ∀ j, j ≠ 23 → j ≠ 35 → fldI (f_10 b) j = fldI (f b) j) → 256 - y_7.toInt < (n : Int) → ∀ (ls : Array Slot), lv_has ls 3 [(2, .int y_7), (1, .int y_8), (0, .ref o0)] → W p l e (headSpec (wU yX12_learn cX12_learn 3 (some .int)) { frames := 23, cells := 0, slots := 0, locals := 631 }).room s m [.ref o0].toArray below meth c H locs 0 0 (MQ below (va_Qi (fun (r : Int32) (f9 : Nat → va_E) => GI (okc cI cL cZ cR cG cH L kd) kd L f9 ∧ ((-1) ≤ r.toInt ∧ r.toInt ≤ 255) ∧ (∀ b, kd b ≠ 12 → kd b ≠ 579 → kd b ≠ 581 → kd b ≠ 583 → kd b ≠ 585 → kd b ≠ 587 → kd b ≠ 588 → kd b ≠ 589 → kd b ≠ 594 → f9 b = f b) ∧ (∀ b, kd b = 12 → ∀ j, fldR (f9 b) j = fldR (f b) j) ∧ (∀ b, kd b = 12 → ∀ j, j ≠ 23 → j ≠ 35 → fldI (f9 b) j = fldI (f b) j)) (qP (dC, dI) cI cL cZ cR cG cH L) (fun q => q ∈ L)) [.ref o0].toArray s 0 0 (fun q => q ∈ L)) (F0 m 4 ls []) := by
    intro n
    induction n with
    | zero => intro y_7 by_7 y_8 by_8 f_10 hG H locs hP hS hD hfr0 hrA12 hfA12 hmuhloop_6 ls hl; exfalso; omega
    | succ n ih_hloop_6 =>
      intro y_7 by_7 y_8 by_8 f_10 hG H locs hP hS hD hfr0 hrA12 hfA12 hmuhloop_6 ls hl
      refine lv_iload_n hx hb dX12_learn_4 rfl (lv_at hl 0 rfl) ?_
      refine lv_aload_n hx hb dX12_learn_5 rfl (lv_at hl 2 rfl) ?_
      obtain ⟨a_12, a_13, a_14, v_15, a_16, v_17, v_18, v_19, v_20, v_21, v_22, v_23, v_24, v_25, v_26, a_27, a_28, a_29, a_30, a_31, a_32, a_33, a_34, v_35, v_36, v_37, v_38, v_39, a_40, v_41, a_42, a_43, v_44, v_45, a_46, v_47, a_48, a_49, v_50, v_51, a_52, a_53, a_54, v_55, a_56, a_57, a_58, a_59, a_60, a_61, a_62, a_63, a_64, v_65, v_66, a_67, hfo_11, ⟨ma_12, ka_12⟩, ⟨ma_13, ka_13⟩, ⟨ma_14, ka_14⟩, bv_15, ⟨ma_16, ka_16⟩, bv_17, bv_18, bv_23, bv_24, bv_25, ⟨ma_27, ka_27⟩, ⟨ma_28, ka_28⟩, ⟨ma_29, ka_29⟩, ⟨ma_30, ka_30⟩, ⟨ma_31, ka_31⟩, ⟨ma_32, ka_32⟩, ⟨ma_33, ka_33⟩, ⟨ma_34, ka_34⟩, bv_35, bv_37, bv_39, ⟨ma_40, ka_40⟩, bv_41, ⟨ma_42, ka_42⟩, ⟨ma_43, ka_43⟩, bv_44, ⟨ma_46, ka_46⟩, bv_47, ⟨ma_48, ka_48⟩, ⟨ma_49, ka_49⟩, bv_50, ⟨ma_52, ka_52⟩, ⟨ma_53, ka_53⟩, ⟨ma_54, ka_54⟩, bv_55, ⟨ma_56, ka_56⟩, ⟨ma_57, ka_57⟩, ⟨ma_58, ka_58⟩, ⟨ma_59, ka_59⟩, ⟨ma_60, ka_60⟩, ⟨ma_61, ka_61⟩, ⟨ma_62, ka_62⟩, ⟨ma_63, ka_63⟩, ⟨ma_64, ka_64⟩, bv_65, ⟨ma_67, ka_67⟩⟩ := un_12 (hG _ mo0) ko0
      have bv_19 : ((-2147483648) ≤ v_19.toInt ∧ v_19.toInt ≤ 2147483647) := ⟨i32_lo _, i32_hi _⟩
      have bv_20 : ((-2147483648) ≤ v_20.toInt ∧ v_20.toInt ≤ 2147483647) := ⟨i32_lo _, i32_hi _⟩
      have bv_21 : ((-2147483648) ≤ v_21.toInt ∧ v_21.toInt ≤ 2147483647) := ⟨i32_lo _, i32_hi _⟩
      have bv_22 : ((-2147483648) ≤ v_22.toInt ∧ v_22.toInt ≤ 2147483647) := ⟨i32_lo _, i32_hi _⟩
      have bv_26 : ((-2147483648) ≤ v_26.toInt ∧ v_26.toInt ≤ 2147483647) := ⟨i32_lo _, i32_hi _⟩
      have bv_36 : ((-2147483648) ≤ v_36.toInt ∧ v_36.toInt ≤ 2147483647) := ⟨i32_lo _, i32_hi _⟩
      have bv_38 : ((-2147483648) ≤ v_38.toInt ∧ v_38.toInt ≤ 2147483647) := ⟨i32_lo _, i32_hi _⟩
      have bv_45 : ((-2147483648) ≤ v_45.toInt ∧ v_45.toInt ≤ 2147483647) := ⟨i32_lo _, i32_hi _⟩
      have bv_51 : ((-2147483648) ≤ v_51.toInt ∧ v_51.toInt ≤ 2147483647) := ⟨i32_lo _, i32_hi _⟩
      have bv_66 : ((-2147483648) ≤ v_66.toInt ∧ v_66.toInt ≤ 2147483647) := ⟨i32_lo _, i32_hi _⟩
      refine tk_ViP (As := []) (rest := [.int y_7]) (n := 0) hx hb hml hown hU hN hZ (s_X12_allRules_k12 l (dC, dI) cI cL cZ cR cG cH Z kd L f_10 hG o0 mo0 ko0) wd_686 wd_687 wd_688 wd_5 wd_689 (by decide +kernel) ⟨Nat.le_of_ble_eq_true rfl, Nat.le_of_ble_eq_true rfl⟩ hK hP hD hS mo0 hfo_11 12 rfl rfl rfl hl.1 rfl (Nat.le_of_ble_eq_true rfl) dX12_learn_6 ⟨Nat.le_of_ble_eq_true rfl, Nat.le_of_ble_eq_true rfl⟩ (fun x_68 f_69 H locs hw hP hD hS => ?_)
      obtain ⟨rfl, bx_68⟩ := hw
      refine lv_icmp_gt (tgt := 45) hx hb dX12_learn_9 (by decide) (fun c_71 => ?_) (fun c_71 => ?_)
      · skip
        rw [Int32.lt_iff_toInt_lt] at c_71
        refine lv_iload_n hx hb dX12_learn_45 rfl (lv_at hl 1 rfl) ?_
        exact W.iret (v := y_8) hx hb hr (fun t ht hW => ⟨⟨y_8, f_10, rfl, ⟨hG, (by constructor <;> omega), hfr0, hrA12, hfA12⟩, by rw [ht]; exact hP, va_K.moved hW.alike hK, pl_in hD⟩, hS.F ht⟩) hS.2.2 dX12_learn_46
      · skip
        rw [Int32.lt_iff_toInt_lt] at c_71
        refine lv_iload_n hx hb dX12_learn_12 rfl (lv_at hl 1 rfl) ?_
        refine lv_iconst (v := (-1)) hx hb dX12_learn_13 (by decide) ?_
        have hcut_75 : ∀ (y_72 : Int32), ((-1) ≤ y_72.toInt ∧ y_72.toInt ≤ 255) → ∀ (f_74 : Nat → va_E), GI (okc cI cL cZ cR cG cH L kd) kd L f_74 → ∀ (H : Heap) (locs : List Loc), va_P (dC, dI) vwCl (va_pl L f_74) H → va_S (fun q => q ∈ L) s.heap H locs → va_D (fun q => q ∈ L) (va_pl L f_74) → (∀ b, kd b ≠ 12 → kd b ≠ 579 → kd b ≠ 581 → kd b ≠ 583 → kd b ≠ 585 → kd b ≠ 587 → kd b ≠ 588 → kd b ≠ 589 → kd b ≠ 594 → f_74 b = f b) → (∀ b, kd b = 12 → ∀ j, fldR (f_74 b) j = fldR (f b) j) → (∀ b, kd b = 12 → ∀ j, j ≠ 23 → j ≠ 35 → fldI (f_74 b) j = fldI (f b) j) → ∀ (ls : Array Slot), lv_has ls 3 [(2, .int y_7), (1, .int y_72), (0, .ref o0)] → W p l e (headSpec (wU yX12_learn cX12_learn 3 (some .int)) { frames := 23, cells := 0, slots := 0, locals := 631 }).room s m [.ref o0].toArray below meth c H locs 0 0 (MQ below (va_Qi (fun (r : Int32) (f9 : Nat → va_E) => GI (okc cI cL cZ cR cG cH L kd) kd L f9 ∧ ((-1) ≤ r.toInt ∧ r.toInt ≤ 255) ∧ (∀ b, kd b ≠ 12 → kd b ≠ 579 → kd b ≠ 581 → kd b ≠ 583 → kd b ≠ 585 → kd b ≠ 587 → kd b ≠ 588 → kd b ≠ 589 → kd b ≠ 594 → f9 b = f b) ∧ (∀ b, kd b = 12 → ∀ j, fldR (f9 b) j = fldR (f b) j) ∧ (∀ b, kd b = 12 → ∀ j, j ≠ 23 → j ≠ 35 → fldI (f9 b) j = fldI (f b) j)) (qP (dC, dI) cI cL cZ cR cG cH L) (fun q => q ∈ L)) [.ref o0].toArray s 0 0 (fun q => q ∈ L)) (F0 m 39 ls []) := by
          intro y_72 by_72 f_74 hG H locs hP hS hD hfr0 hrA12 hfA12 ls hl
          obtain ⟨x_76, ex_76⟩ : ∃ y : Int32, y_7 + 1 = y := ⟨_, rfl⟩
          have hx_76 : x_76.toInt = y_7.toInt + 1 := by rw [← ex_76, ad_I (by rw [ti_1]; omega) (by rw [ti_1]; omega), ti_1]
          have bx_76 : (1 ≤ x_76.toInt ∧ x_76.toInt ≤ 256) := by constructor <;> omega
          refine lv_iinc (v := x_76) (lv' := [(2, .int x_76), (1, .int y_72), (0, .ref o0)]) hx hb dX12_learn_39 hl (k := 0) rfl ex_76 (by decide) rfl (fun ls hl => ?_)
          refine lv_goto (tgt := 4) hx hb dX12_learn_42 (by decide) ?_
          exact ih_hloop_6 x_76 (by constructor <;> omega) y_72 (by constructor <;> omega) f_74 hG _ _ hP hS hD hfr0 hrA12 hfA12 (by omega) ls (lv_sub hl [0, 1, 2] rfl)
        refine lv_icmp_eq (tgt := 28) hx hb dX12_learn_14 (by decide) (fun c_77 => ?_) (fun c_77 => ?_)
        · skip
          rw [← Int32.toInt_inj, ti_m1] at c_77
          refine lv_aload_n hx hb dX12_learn_28 rfl (lv_at hl 2 rfl) ?_
          refine lv_iload_n hx hb dX12_learn_29 rfl (lv_at hl 0 rfl) ?_
          refine tk_ViP (As := [.int y_7]) (rest := []) (n := 1) hx hb hml hown hU hN hZ (s_X12_firstWrong_k12 l (dC, dI) cI cL cZ cR cG cH Z kd L f_10 hG o0 mo0 ko0 y_7) wd_1424 wd_1425 wd_1426 wd_5 wd_1427 (by decide +kernel) ⟨Nat.le_of_ble_eq_true rfl, Nat.le_of_ble_eq_true rfl⟩ hK hP hD hS mo0 hfo_11 12 rfl rfl rfl hl.1 rfl (Nat.le_of_ble_eq_true rfl) dX12_learn_30 ⟨Nat.le_of_ble_eq_true rfl, Nat.le_of_ble_eq_true rfl⟩ (fun x_78 f_79 H locs hw hP hD hS => ?_)
          obtain ⟨hG, bx_78, hkc_80, hra_81, hfa_82⟩ := hw
          have hfr0 : ∀ b, kd b ≠ 12 → kd b ≠ 579 → kd b ≠ 581 → kd b ≠ 583 → kd b ≠ 585 → kd b ≠ 587 → kd b ≠ 588 → kd b ≠ 589 → kd b ≠ 594 → f_79 b = f b := fun b q12 q579 q581 q583 q585 q587 q588 q589 q594 => (hkc_80 b q12 q579 q581 q583 q585 q587 q588 q589 q594).trans (hfr0 b q12 q579 q581 q583 q585 q587 q588 q589 q594)
          have hrA12 : ∀ b, kd b = 12 → ∀ j, fldR (f_79 b) j = fldR (f b) j := fun b kb j => (hra_81 b kb j).trans (hrA12 b kb j)
          have hfA12 : ∀ b, kd b = 12 → ∀ j, j ≠ 23 → j ≠ 35 → fldI (f_79 b) j = fldI (f b) j := fun b kb j n23 n35 => (hfa_82 b kb j n23 n35).trans (hfA12 b kb j n23 n35)
          obtain ⟨a_85, a_86, a_87, v_88, a_89, v_90, v_91, v_92, v_93, v_94, v_95, v_96, v_97, v_98, v_99, a_100, a_101, a_102, a_103, a_104, a_105, a_106, a_107, v_108, v_109, v_110, v_111, v_112, a_113, v_114, a_115, a_116, v_117, v_118, a_119, v_120, a_121, a_122, v_123, v_124, a_125, a_126, a_127, v_128, a_129, a_130, a_131, a_132, a_133, a_134, a_135, a_136, a_137, v_138, v_139, a_140, hfo_84, ⟨ma_85, ka_85⟩, ⟨ma_86, ka_86⟩, ⟨ma_87, ka_87⟩, bv_88, ⟨ma_89, ka_89⟩, bv_90, bv_91, bv_96, bv_97, bv_98, ⟨ma_100, ka_100⟩, ⟨ma_101, ka_101⟩, ⟨ma_102, ka_102⟩, ⟨ma_103, ka_103⟩, ⟨ma_104, ka_104⟩, ⟨ma_105, ka_105⟩, ⟨ma_106, ka_106⟩, ⟨ma_107, ka_107⟩, bv_108, bv_110, bv_112, ⟨ma_113, ka_113⟩, bv_114, ⟨ma_115, ka_115⟩, ⟨ma_116, ka_116⟩, bv_117, ⟨ma_119, ka_119⟩, bv_120, ⟨ma_121, ka_121⟩, ⟨ma_122, ka_122⟩, bv_123, ⟨ma_125, ka_125⟩, ⟨ma_126, ka_126⟩, ⟨ma_127, ka_127⟩, bv_128, ⟨ma_129, ka_129⟩, ⟨ma_130, ka_130⟩, ⟨ma_131, ka_131⟩, ⟨ma_132, ka_132⟩, ⟨ma_133, ka_133⟩, ⟨ma_134, ka_134⟩, ⟨ma_135, ka_135⟩, ⟨ma_136, ka_136⟩, ⟨ma_137, ka_137⟩, bv_138, ⟨ma_140, ka_140⟩⟩ := un_12 (hG _ mo0) ko0
          have bv_92 : ((-2147483648) ≤ v_92.toInt ∧ v_92.toInt ≤ 2147483647) := ⟨i32_lo _, i32_hi _⟩
          have bv_93 : ((-2147483648) ≤ v_93.toInt ∧ v_93.toInt ≤ 2147483647) := ⟨i32_lo _, i32_hi _⟩
          have bv_94 : ((-2147483648) ≤ v_94.toInt ∧ v_94.toInt ≤ 2147483647) := ⟨i32_lo _, i32_hi _⟩
          have bv_95 : ((-2147483648) ≤ v_95.toInt ∧ v_95.toInt ≤ 2147483647) := ⟨i32_lo _, i32_hi _⟩
          have bv_99 : ((-2147483648) ≤ v_99.toInt ∧ v_99.toInt ≤ 2147483647) := ⟨i32_lo _, i32_hi _⟩
          have bv_109 : ((-2147483648) ≤ v_109.toInt ∧ v_109.toInt ≤ 2147483647) := ⟨i32_lo _, i32_hi _⟩
          have bv_111 : ((-2147483648) ≤ v_111.toInt ∧ v_111.toInt ≤ 2147483647) := ⟨i32_lo _, i32_hi _⟩
          have bv_118 : ((-2147483648) ≤ v_118.toInt ∧ v_118.toInt ≤ 2147483647) := ⟨i32_lo _, i32_hi _⟩
          have bv_124 : ((-2147483648) ≤ v_124.toInt ∧ v_124.toInt ≤ 2147483647) := ⟨i32_lo _, i32_hi _⟩
          have bv_139 : ((-2147483648) ≤ v_139.toInt ∧ v_139.toInt ≤ 2147483647) := ⟨i32_lo _, i32_hi _⟩
          obtain ⟨rfl, rfl, rfl, rfl, rfl, rfl, rfl, rfl, rfl, rfl, rfl, rfl, rfl, rfl, rfl, rfl, rfl, rfl, rfl, rfl, rfl, rfl, rfl, rfl, rfl, rfl, rfl, rfl, rfl, rfl, rfl⟩ := re_12 hfo_11 hfo_84 (hra_81 o0 ko0)
          obtain rfl := ri_12_3 hfo_11 hfo_84 (hfa_82 o0 ko0 3 (by decide) (by decide))
          obtain rfl := ri_12_5 hfo_11 hfo_84 (hfa_82 o0 ko0 5 (by decide) (by decide))
          obtain rfl := ri_12_6 hfo_11 hfo_84 (hfa_82 o0 ko0 6 (by decide) (by decide))
          obtain rfl := ri_12_11 hfo_11 hfo_84 (hfa_82 o0 ko0 11 (by decide) (by decide))
          obtain rfl := ri_12_12 hfo_11 hfo_84 (hfa_82 o0 ko0 12 (by decide) (by decide))
          obtain rfl := ri_12_13 hfo_11 hfo_84 (hfa_82 o0 ko0 13 (by decide) (by decide))
          obtain rfl := ri_12_14 hfo_11 hfo_84 (hfa_82 o0 ko0 14 (by decide) (by decide))
          obtain rfl := ri_12_25 hfo_11 hfo_84 (hfa_82 o0 ko0 25 (by decide) (by decide))
          obtain rfl := ri_12_27 hfo_11 hfo_84 (hfa_82 o0 ko0 27 (by decide) (by decide))
          obtain rfl := ri_12_29 hfo_11 hfo_84 (hfa_82 o0 ko0 29 (by decide) (by decide))
          obtain rfl := ri_12_32 hfo_11 hfo_84 (hfa_82 o0 ko0 32 (by decide) (by decide))
          obtain rfl := ri_12_33 hfo_11 hfo_84 (hfa_82 o0 ko0 33 (by decide) (by decide))
          obtain rfl := ri_12_38 hfo_11 hfo_84 (hfa_82 o0 ko0 38 (by decide) (by decide))
          obtain rfl := ri_12_43 hfo_11 hfo_84 (hfa_82 o0 ko0 43 (by decide) (by decide))
          obtain rfl := ri_12_53 hfo_11 hfo_84 (hfa_82 o0 ko0 53 (by decide) (by decide))
          refine lv_iconst (v := (-1)) hx hb dX12_learn_33 (by decide) ?_
          refine lv_icmp_ne (tgt := 39) hx hb dX12_learn_34 (by decide) (fun c_141 => ?_) (fun c_141 => ?_)
          · skip
            rw [← Int32.toInt_inj, ti_m1] at c_141
            exact hcut_75 y_8 (by constructor <;> omega) f_79 hG _ _ hP hS hD hfr0 hrA12 hfA12 ls (lv_sub hl [0, 1, 2] rfl)
          · skip
            rw [← Int32.toInt_inj, ti_m1] at c_141
            refine lv_iload_n hx hb dX12_learn_37 rfl (lv_at hl 0 rfl) ?_
            refine lv_istore_n (lv' := [(1, .int y_7), (2, .int y_7), (0, .ref o0)]) hx hb dX12_learn_38 rfl hl (by decide) rfl (fun ls hl => ?_)
            exact hcut_75 y_7 (by constructor <;> omega) f_79 hG _ _ hP hS hD hfr0 hrA12 hfA12 ls (lv_sub hl [1, 0, 2] rfl)
        · skip
          rw [← Int32.toInt_inj, ti_m1] at c_77
          refine lv_iload_n hx hb dX12_learn_17 rfl (lv_at hl 0 rfl) ?_
          refine tk_SiP (As := [.int y_7]) (rest := []) (n := 1) hx hb hml hown hU hN hZ (s_X12_count l (dC, dI) cI cL cZ cR cG cH Z kd L f_10 hG y_7) wd_1380 wd_1381 wd_5 wd_1382 (by decide +kernel) ⟨Nat.le_of_ble_eq_true rfl, Nat.le_of_ble_eq_true rfl⟩ hK hP hD hS rfl hl.1 rfl (Nat.le_of_ble_eq_true rfl) dX12_learn_18 ⟨Nat.le_of_ble_eq_true rfl, Nat.le_of_ble_eq_true rfl⟩ (fun x_142 f_143 H locs hw hP hD hS => ?_)
          obtain ⟨rfl, bx_142⟩ := hw
          refine lv_iload_n hx hb dX12_learn_21 rfl (lv_at hl 1 rfl) ?_
          refine tk_SiP (As := [.int y_8]) (rest := [.int x_142]) (n := 1) hx hb hml hown hU hN hZ (s_X12_count l (dC, dI) cI cL cZ cR cG cH Z kd L f_10 hG y_8) wd_1380 wd_1381 wd_5 wd_1382 (by decide +kernel) ⟨Nat.le_of_ble_eq_true rfl, Nat.le_of_ble_eq_true rfl⟩ hK hP hD hS rfl hl.1 rfl (Nat.le_of_ble_eq_true rfl) dX12_learn_22 ⟨Nat.le_of_ble_eq_true rfl, Nat.le_of_ble_eq_true rfl⟩ (fun x_145 f_146 H locs hw hP hD hS => ?_)
          obtain ⟨rfl, bx_145⟩ := hw
          refine lv_icmp_ge (tgt := 39) hx hb dX12_learn_25 (by decide) (fun c_148 => ?_) (fun c_148 => ?_)
          · skip
            rw [Int32.le_iff_toInt_le] at c_148
            exact hcut_75 y_8 (by constructor <;> omega) f_10 hG _ _ hP hS hD hfr0 hrA12 hfA12 ls (lv_sub hl [0, 1, 2] rfl)
          · skip
            rw [Int32.le_iff_toInt_le] at c_148
            refine lv_aload_n hx hb dX12_learn_28 rfl (lv_at hl 2 rfl) ?_
            refine lv_iload_n hx hb dX12_learn_29 rfl (lv_at hl 0 rfl) ?_
            refine tk_ViP (As := [.int y_7]) (rest := []) (n := 1) hx hb hml hown hU hN hZ (s_X12_firstWrong_k12 l (dC, dI) cI cL cZ cR cG cH Z kd L f_10 hG o0 mo0 ko0 y_7) wd_1424 wd_1425 wd_1426 wd_5 wd_1427 (by decide +kernel) ⟨Nat.le_of_ble_eq_true rfl, Nat.le_of_ble_eq_true rfl⟩ hK hP hD hS mo0 hfo_11 12 rfl rfl rfl hl.1 rfl (Nat.le_of_ble_eq_true rfl) dX12_learn_30 ⟨Nat.le_of_ble_eq_true rfl, Nat.le_of_ble_eq_true rfl⟩ (fun x_149 f_150 H locs hw hP hD hS => ?_)
            obtain ⟨hG, bx_149, hkc_151, hra_152, hfa_153⟩ := hw
            have hfr0 : ∀ b, kd b ≠ 12 → kd b ≠ 579 → kd b ≠ 581 → kd b ≠ 583 → kd b ≠ 585 → kd b ≠ 587 → kd b ≠ 588 → kd b ≠ 589 → kd b ≠ 594 → f_150 b = f b := fun b q12 q579 q581 q583 q585 q587 q588 q589 q594 => (hkc_151 b q12 q579 q581 q583 q585 q587 q588 q589 q594).trans (hfr0 b q12 q579 q581 q583 q585 q587 q588 q589 q594)
            have hrA12 : ∀ b, kd b = 12 → ∀ j, fldR (f_150 b) j = fldR (f b) j := fun b kb j => (hra_152 b kb j).trans (hrA12 b kb j)
            have hfA12 : ∀ b, kd b = 12 → ∀ j, j ≠ 23 → j ≠ 35 → fldI (f_150 b) j = fldI (f b) j := fun b kb j n23 n35 => (hfa_153 b kb j n23 n35).trans (hfA12 b kb j n23 n35)
            obtain ⟨a_156, a_157, a_158, v_159, a_160, v_161, v_162, v_163, v_164, v_165, v_166, v_167, v_168, v_169, v_170, a_171, a_172, a_173, a_174, a_175, a_176, a_177, a_178, v_179, v_180, v_181, v_182, v_183, a_184, v_185, a_186, a_187, v_188, v_189, a_190, v_191, a_192, a_193, v_194, v_195, a_196, a_197, a_198, v_199, a_200, a_201, a_202, a_203, a_204, a_205, a_206, a_207, a_208, v_209, v_210, a_211, hfo_155, ⟨ma_156, ka_156⟩, ⟨ma_157, ka_157⟩, ⟨ma_158, ka_158⟩, bv_159, ⟨ma_160, ka_160⟩, bv_161, bv_162, bv_167, bv_168, bv_169, ⟨ma_171, ka_171⟩, ⟨ma_172, ka_172⟩, ⟨ma_173, ka_173⟩, ⟨ma_174, ka_174⟩, ⟨ma_175, ka_175⟩, ⟨ma_176, ka_176⟩, ⟨ma_177, ka_177⟩, ⟨ma_178, ka_178⟩, bv_179, bv_181, bv_183, ⟨ma_184, ka_184⟩, bv_185, ⟨ma_186, ka_186⟩, ⟨ma_187, ka_187⟩, bv_188, ⟨ma_190, ka_190⟩, bv_191, ⟨ma_192, ka_192⟩, ⟨ma_193, ka_193⟩, bv_194, ⟨ma_196, ka_196⟩, ⟨ma_197, ka_197⟩, ⟨ma_198, ka_198⟩, bv_199, ⟨ma_200, ka_200⟩, ⟨ma_201, ka_201⟩, ⟨ma_202, ka_202⟩, ⟨ma_203, ka_203⟩, ⟨ma_204, ka_204⟩, ⟨ma_205, ka_205⟩, ⟨ma_206, ka_206⟩, ⟨ma_207, ka_207⟩, ⟨ma_208, ka_208⟩, bv_209, ⟨ma_211, ka_211⟩⟩ := un_12 (hG _ mo0) ko0
            have bv_163 : ((-2147483648) ≤ v_163.toInt ∧ v_163.toInt ≤ 2147483647) := ⟨i32_lo _, i32_hi _⟩
            have bv_164 : ((-2147483648) ≤ v_164.toInt ∧ v_164.toInt ≤ 2147483647) := ⟨i32_lo _, i32_hi _⟩
            have bv_165 : ((-2147483648) ≤ v_165.toInt ∧ v_165.toInt ≤ 2147483647) := ⟨i32_lo _, i32_hi _⟩
            have bv_166 : ((-2147483648) ≤ v_166.toInt ∧ v_166.toInt ≤ 2147483647) := ⟨i32_lo _, i32_hi _⟩
            have bv_170 : ((-2147483648) ≤ v_170.toInt ∧ v_170.toInt ≤ 2147483647) := ⟨i32_lo _, i32_hi _⟩
            have bv_180 : ((-2147483648) ≤ v_180.toInt ∧ v_180.toInt ≤ 2147483647) := ⟨i32_lo _, i32_hi _⟩
            have bv_182 : ((-2147483648) ≤ v_182.toInt ∧ v_182.toInt ≤ 2147483647) := ⟨i32_lo _, i32_hi _⟩
            have bv_189 : ((-2147483648) ≤ v_189.toInt ∧ v_189.toInt ≤ 2147483647) := ⟨i32_lo _, i32_hi _⟩
            have bv_195 : ((-2147483648) ≤ v_195.toInt ∧ v_195.toInt ≤ 2147483647) := ⟨i32_lo _, i32_hi _⟩
            have bv_210 : ((-2147483648) ≤ v_210.toInt ∧ v_210.toInt ≤ 2147483647) := ⟨i32_lo _, i32_hi _⟩
            obtain ⟨rfl, rfl, rfl, rfl, rfl, rfl, rfl, rfl, rfl, rfl, rfl, rfl, rfl, rfl, rfl, rfl, rfl, rfl, rfl, rfl, rfl, rfl, rfl, rfl, rfl, rfl, rfl, rfl, rfl, rfl, rfl⟩ := re_12 hfo_11 hfo_155 (hra_152 o0 ko0)
            obtain rfl := ri_12_3 hfo_11 hfo_155 (hfa_153 o0 ko0 3 (by decide) (by decide))
            obtain rfl := ri_12_5 hfo_11 hfo_155 (hfa_153 o0 ko0 5 (by decide) (by decide))
            obtain rfl := ri_12_6 hfo_11 hfo_155 (hfa_153 o0 ko0 6 (by decide) (by decide))
            obtain rfl := ri_12_11 hfo_11 hfo_155 (hfa_153 o0 ko0 11 (by decide) (by decide))
            obtain rfl := ri_12_12 hfo_11 hfo_155 (hfa_153 o0 ko0 12 (by decide) (by decide))
            obtain rfl := ri_12_13 hfo_11 hfo_155 (hfa_153 o0 ko0 13 (by decide) (by decide))
            obtain rfl := ri_12_14 hfo_11 hfo_155 (hfa_153 o0 ko0 14 (by decide) (by decide))
            obtain rfl := ri_12_25 hfo_11 hfo_155 (hfa_153 o0 ko0 25 (by decide) (by decide))
            obtain rfl := ri_12_27 hfo_11 hfo_155 (hfa_153 o0 ko0 27 (by decide) (by decide))
            obtain rfl := ri_12_29 hfo_11 hfo_155 (hfa_153 o0 ko0 29 (by decide) (by decide))
            obtain rfl := ri_12_32 hfo_11 hfo_155 (hfa_153 o0 ko0 32 (by decide) (by decide))
            obtain rfl := ri_12_33 hfo_11 hfo_155 (hfa_153 o0 ko0 33 (by decide) (by decide))
            obtain rfl := ri_12_38 hfo_11 hfo_155 (hfa_153 o0 ko0 38 (by decide) (by decide))
            obtain rfl := ri_12_43 hfo_11 hfo_155 (hfa_153 o0 ko0 43 (by decide) (by decide))
            obtain rfl := ri_12_53 hfo_11 hfo_155 (hfa_153 o0 ko0 53 (by decide) (by decide))
            refine lv_iconst (v := (-1)) hx hb dX12_learn_33 (by decide) ?_
            refine lv_icmp_ne (tgt := 39) hx hb dX12_learn_34 (by decide) (fun c_212 => ?_) (fun c_212 => ?_)
            · skip
              rw [← Int32.toInt_inj, ti_m1] at c_212
              exact hcut_75 y_8 (by constructor <;> omega) f_150 hG _ _ hP hS hD hfr0 hrA12 hfA12 ls (lv_sub hl [0, 1, 2] rfl)
            · skip
              rw [← Int32.toInt_inj, ti_m1] at c_212
              refine lv_iload_n hx hb dX12_learn_37 rfl (lv_at hl 0 rfl) ?_
              refine lv_istore_n (lv' := [(1, .int y_7), (2, .int y_7), (0, .ref o0)]) hx hb dX12_learn_38 rfl hl (by decide) rfl (fun ls hl => ?_)
              exact hcut_75 y_7 (by constructor <;> omega) f_150 hG _ _ hP hS hD hfr0 hrA12 hfA12 ls (lv_sub hl [1, 0, 2] rfl)
  exact hloop_6 257 0 (by decide) (-1) (by decide) f hG _ _ hP hS hD hfr0 hrA12 hfA12 (by (try rw [ti_0]) <;> (try rw [ti_m1]) <;> omega) ls hl
set_option maxHeartbeats 8000000 in
set_option maxRecDepth 100000 in
theorem s_X12_forced_k12 (l : Launch) (D : va_G) (cI cL cZ cR cG cH : ClassId) (Z : zT) (kd : Nat → Nat) (L : List Nat) (f : Nat → va_E) (hG : GI (okc cI cL cZ cR cG cH L kd) kd L f) (o0 : Nat) (mo0 : o0 ∈ L) (ko0 : kd o0 = 12) (p1 : Int32) : mPI l D cI cL cZ cR cG cH Z yX12_forced cX12_forced 3 (some .int) 24 653 [.ref o0, .int p1] L f (fun (r : Int32) (f9 : Nat → va_E) => GI (okc cI cL cZ cR cG cH L kd) kd L f9 ∧ ((-2147483648) ≤ r.toInt ∧ r.toInt ≤ 2147483647) ∧ (∀ b, kd b ≠ 12 → kd b ≠ 579 → kd b ≠ 581 → kd b ≠ 583 → kd b ≠ 585 → kd b ≠ 587 → kd b ≠ 588 → kd b ≠ 589 → kd b ≠ 594 → f9 b = f b) ∧ (∀ b, kd b = 12 → ∀ j, fldR (f9 b) j = fldR (f b) j) ∧ (∀ b, kd b = 12 → ∀ j, j ≠ 23 → j ≠ 35 → fldI (f9 b) j = fldI (f b) j)) := by
  obtain ⟨dC, dI⟩ := D
  refine Met.ofW (cc := cX12_forced) (maxL := 3) (ret := (some .int)) (by decide) rfl ?_
  intro p e s m args below meth c s₁ B hml hv
  obtain ⟨rfl, hP, hK, hD0, hN, hZ⟩ := hv
  have hx := B.exec
  have hb := B.bytes
  have hr := B.returns
  have hU : ∀ w ∈ wsU, w.before _ s = true := fun w h => atoms_spec (ws := wU yX12_forced cX12_forced 3 (some .int)) B.pre w (List.mem_cons_of_mem _ h)
  have hown : s.vm.findClass RX12 = some m.cls := findClass_of_methodNamed B.named
  have hlocks := B.notSynchronized
  have hD := pl_in hD0
  have hS : va_S (fun q => q ∈ L) s.heap s.heap [] := va_S.rf
  have hl := lv_entry ([.ref o0, .int p1]) (n := 3) (Nat.le_of_ble_eq_true rfl)
  rw [lg_entry_eq]
  generalize (lg_sl ([.ref o0, .int p1]) ++ List.replicate (3 - (lg_sl ([.ref o0, .int p1])).length) Slot.unset).toArray = ls at hl ⊢
  have hl : lv_has ls 3 [(0, .ref o0), (1, .int p1)] := hl
  have bp1 : ((-2147483648) ≤ p1.toInt ∧ p1.toInt ≤ 2147483647) := ⟨i32_lo _, i32_hi _⟩
  have hfr0 : ∀ b, kd b ≠ 12 → kd b ≠ 579 → kd b ≠ 581 → kd b ≠ 583 → kd b ≠ 585 → kd b ≠ 587 → kd b ≠ 588 → kd b ≠ 589 → kd b ≠ 594 → f b = f b := fun _ _ _ _ _ _ _ _ _ _ => rfl
  have hrA12 : ∀ b, kd b = 12 → ∀ j, fldR (f b) j = fldR (f b) j := fun _ _ _ => rfl
  have hfA12 : ∀ b, kd b = 12 → ∀ j, j ≠ 23 → j ≠ 35 → fldI (f b) j = fldI (f b) j := fun _ _ _ _ _ => rfl
  refine lv_aload_n hx hb dX12_forced_0 rfl (lv_at hl 0 rfl) ?_
  obtain ⟨a_2, a_3, a_4, v_5, a_6, v_7, v_8, v_9, v_10, v_11, v_12, v_13, v_14, v_15, v_16, a_17, a_18, a_19, a_20, a_21, a_22, a_23, a_24, v_25, v_26, v_27, v_28, v_29, a_30, v_31, a_32, a_33, v_34, v_35, a_36, v_37, a_38, a_39, v_40, v_41, a_42, a_43, a_44, v_45, a_46, a_47, a_48, a_49, a_50, a_51, a_52, a_53, a_54, v_55, v_56, a_57, hfo_1, ⟨ma_2, ka_2⟩, ⟨ma_3, ka_3⟩, ⟨ma_4, ka_4⟩, bv_5, ⟨ma_6, ka_6⟩, bv_7, bv_8, bv_13, bv_14, bv_15, ⟨ma_17, ka_17⟩, ⟨ma_18, ka_18⟩, ⟨ma_19, ka_19⟩, ⟨ma_20, ka_20⟩, ⟨ma_21, ka_21⟩, ⟨ma_22, ka_22⟩, ⟨ma_23, ka_23⟩, ⟨ma_24, ka_24⟩, bv_25, bv_27, bv_29, ⟨ma_30, ka_30⟩, bv_31, ⟨ma_32, ka_32⟩, ⟨ma_33, ka_33⟩, bv_34, ⟨ma_36, ka_36⟩, bv_37, ⟨ma_38, ka_38⟩, ⟨ma_39, ka_39⟩, bv_40, ⟨ma_42, ka_42⟩, ⟨ma_43, ka_43⟩, ⟨ma_44, ka_44⟩, bv_45, ⟨ma_46, ka_46⟩, ⟨ma_47, ka_47⟩, ⟨ma_48, ka_48⟩, ⟨ma_49, ka_49⟩, ⟨ma_50, ka_50⟩, ⟨ma_51, ka_51⟩, ⟨ma_52, ka_52⟩, ⟨ma_53, ka_53⟩, ⟨ma_54, ka_54⟩, bv_55, ⟨ma_57, ka_57⟩⟩ := un_12 (hG _ mo0) ko0
  have bv_9 : ((-2147483648) ≤ v_9.toInt ∧ v_9.toInt ≤ 2147483647) := ⟨i32_lo _, i32_hi _⟩
  have bv_10 : ((-2147483648) ≤ v_10.toInt ∧ v_10.toInt ≤ 2147483647) := ⟨i32_lo _, i32_hi _⟩
  have bv_11 : ((-2147483648) ≤ v_11.toInt ∧ v_11.toInt ≤ 2147483647) := ⟨i32_lo _, i32_hi _⟩
  have bv_12 : ((-2147483648) ≤ v_12.toInt ∧ v_12.toInt ≤ 2147483647) := ⟨i32_lo _, i32_hi _⟩
  have bv_16 : ((-2147483648) ≤ v_16.toInt ∧ v_16.toInt ≤ 2147483647) := ⟨i32_lo _, i32_hi _⟩
  have bv_26 : ((-2147483648) ≤ v_26.toInt ∧ v_26.toInt ≤ 2147483647) := ⟨i32_lo _, i32_hi _⟩
  have bv_28 : ((-2147483648) ≤ v_28.toInt ∧ v_28.toInt ≤ 2147483647) := ⟨i32_lo _, i32_hi _⟩
  have bv_35 : ((-2147483648) ≤ v_35.toInt ∧ v_35.toInt ≤ 2147483647) := ⟨i32_lo _, i32_hi _⟩
  have bv_41 : ((-2147483648) ≤ v_41.toInt ∧ v_41.toInt ≤ 2147483647) := ⟨i32_lo _, i32_hi _⟩
  have bv_56 : ((-2147483648) ≤ v_56.toInt ∧ v_56.toInt ≤ 2147483647) := ⟨i32_lo _, i32_hi _⟩
  refine tk_ViP (As := []) (rest := []) (n := 0) hx hb hml hown hU hN hZ (s_X12_learn_k12 l (dC, dI) cI cL cZ cR cG cH Z kd L f hG o0 mo0 ko0) wd_1455 wd_1443 wd_1444 wd_5 wd_1445 (by decide +kernel) ⟨Nat.le_of_ble_eq_true rfl, Nat.le_of_ble_eq_true rfl⟩ hK hP hD hS mo0 hfo_1 12 rfl rfl rfl hl.1 rfl (Nat.le_of_ble_eq_true rfl) dX12_forced_1 ⟨Nat.le_of_ble_eq_true rfl, Nat.le_of_ble_eq_true rfl⟩ (fun x_58 f_59 H locs hw hP hD hS => ?_)
  obtain ⟨hG, bx_58, hkc_60, hra_61, hfa_62⟩ := hw
  have hfr0 : ∀ b, kd b ≠ 12 → kd b ≠ 579 → kd b ≠ 581 → kd b ≠ 583 → kd b ≠ 585 → kd b ≠ 587 → kd b ≠ 588 → kd b ≠ 589 → kd b ≠ 594 → f_59 b = f b := fun b q12 q579 q581 q583 q585 q587 q588 q589 q594 => (hkc_60 b q12 q579 q581 q583 q585 q587 q588 q589 q594).trans (hfr0 b q12 q579 q581 q583 q585 q587 q588 q589 q594)
  have hrA12 : ∀ b, kd b = 12 → ∀ j, fldR (f_59 b) j = fldR (f b) j := fun b kb j => (hra_61 b kb j).trans (hrA12 b kb j)
  have hfA12 : ∀ b, kd b = 12 → ∀ j, j ≠ 23 → j ≠ 35 → fldI (f_59 b) j = fldI (f b) j := fun b kb j n23 n35 => (hfa_62 b kb j n23 n35).trans (hfA12 b kb j n23 n35)
  obtain ⟨a_65, a_66, a_67, v_68, a_69, v_70, v_71, v_72, v_73, v_74, v_75, v_76, v_77, v_78, v_79, a_80, a_81, a_82, a_83, a_84, a_85, a_86, a_87, v_88, v_89, v_90, v_91, v_92, a_93, v_94, a_95, a_96, v_97, v_98, a_99, v_100, a_101, a_102, v_103, v_104, a_105, a_106, a_107, v_108, a_109, a_110, a_111, a_112, a_113, a_114, a_115, a_116, a_117, v_118, v_119, a_120, hfo_64, ⟨ma_65, ka_65⟩, ⟨ma_66, ka_66⟩, ⟨ma_67, ka_67⟩, bv_68, ⟨ma_69, ka_69⟩, bv_70, bv_71, bv_76, bv_77, bv_78, ⟨ma_80, ka_80⟩, ⟨ma_81, ka_81⟩, ⟨ma_82, ka_82⟩, ⟨ma_83, ka_83⟩, ⟨ma_84, ka_84⟩, ⟨ma_85, ka_85⟩, ⟨ma_86, ka_86⟩, ⟨ma_87, ka_87⟩, bv_88, bv_90, bv_92, ⟨ma_93, ka_93⟩, bv_94, ⟨ma_95, ka_95⟩, ⟨ma_96, ka_96⟩, bv_97, ⟨ma_99, ka_99⟩, bv_100, ⟨ma_101, ka_101⟩, ⟨ma_102, ka_102⟩, bv_103, ⟨ma_105, ka_105⟩, ⟨ma_106, ka_106⟩, ⟨ma_107, ka_107⟩, bv_108, ⟨ma_109, ka_109⟩, ⟨ma_110, ka_110⟩, ⟨ma_111, ka_111⟩, ⟨ma_112, ka_112⟩, ⟨ma_113, ka_113⟩, ⟨ma_114, ka_114⟩, ⟨ma_115, ka_115⟩, ⟨ma_116, ka_116⟩, ⟨ma_117, ka_117⟩, bv_118, ⟨ma_120, ka_120⟩⟩ := un_12 (hG _ mo0) ko0
  have bv_72 : ((-2147483648) ≤ v_72.toInt ∧ v_72.toInt ≤ 2147483647) := ⟨i32_lo _, i32_hi _⟩
  have bv_73 : ((-2147483648) ≤ v_73.toInt ∧ v_73.toInt ≤ 2147483647) := ⟨i32_lo _, i32_hi _⟩
  have bv_74 : ((-2147483648) ≤ v_74.toInt ∧ v_74.toInt ≤ 2147483647) := ⟨i32_lo _, i32_hi _⟩
  have bv_75 : ((-2147483648) ≤ v_75.toInt ∧ v_75.toInt ≤ 2147483647) := ⟨i32_lo _, i32_hi _⟩
  have bv_79 : ((-2147483648) ≤ v_79.toInt ∧ v_79.toInt ≤ 2147483647) := ⟨i32_lo _, i32_hi _⟩
  have bv_89 : ((-2147483648) ≤ v_89.toInt ∧ v_89.toInt ≤ 2147483647) := ⟨i32_lo _, i32_hi _⟩
  have bv_91 : ((-2147483648) ≤ v_91.toInt ∧ v_91.toInt ≤ 2147483647) := ⟨i32_lo _, i32_hi _⟩
  have bv_98 : ((-2147483648) ≤ v_98.toInt ∧ v_98.toInt ≤ 2147483647) := ⟨i32_lo _, i32_hi _⟩
  have bv_104 : ((-2147483648) ≤ v_104.toInt ∧ v_104.toInt ≤ 2147483647) := ⟨i32_lo _, i32_hi _⟩
  have bv_119 : ((-2147483648) ≤ v_119.toInt ∧ v_119.toInt ≤ 2147483647) := ⟨i32_lo _, i32_hi _⟩
  obtain ⟨rfl, rfl, rfl, rfl, rfl, rfl, rfl, rfl, rfl, rfl, rfl, rfl, rfl, rfl, rfl, rfl, rfl, rfl, rfl, rfl, rfl, rfl, rfl, rfl, rfl, rfl, rfl, rfl, rfl, rfl, rfl⟩ := re_12 hfo_1 hfo_64 (hrA12 o0 ko0)
  obtain rfl := ri_12_3 hfo_1 hfo_64 (hfA12 o0 ko0 3 (by decide) (by decide))
  obtain rfl := ri_12_5 hfo_1 hfo_64 (hfA12 o0 ko0 5 (by decide) (by decide))
  obtain rfl := ri_12_6 hfo_1 hfo_64 (hfA12 o0 ko0 6 (by decide) (by decide))
  obtain rfl := ri_12_11 hfo_1 hfo_64 (hfA12 o0 ko0 11 (by decide) (by decide))
  obtain rfl := ri_12_12 hfo_1 hfo_64 (hfA12 o0 ko0 12 (by decide) (by decide))
  obtain rfl := ri_12_13 hfo_1 hfo_64 (hfA12 o0 ko0 13 (by decide) (by decide))
  obtain rfl := ri_12_14 hfo_1 hfo_64 (hfA12 o0 ko0 14 (by decide) (by decide))
  obtain rfl := ri_12_25 hfo_1 hfo_64 (hfA12 o0 ko0 25 (by decide) (by decide))
  obtain rfl := ri_12_27 hfo_1 hfo_64 (hfA12 o0 ko0 27 (by decide) (by decide))
  obtain rfl := ri_12_29 hfo_1 hfo_64 (hfA12 o0 ko0 29 (by decide) (by decide))
  obtain rfl := ri_12_32 hfo_1 hfo_64 (hfA12 o0 ko0 32 (by decide) (by decide))
  obtain rfl := ri_12_33 hfo_1 hfo_64 (hfA12 o0 ko0 33 (by decide) (by decide))
  obtain rfl := ri_12_38 hfo_1 hfo_64 (hfA12 o0 ko0 38 (by decide) (by decide))
  obtain rfl := ri_12_43 hfo_1 hfo_64 (hfA12 o0 ko0 43 (by decide) (by decide))
  obtain rfl := ri_12_53 hfo_1 hfo_64 (hfA12 o0 ko0 53 (by decide) (by decide))
  refine lv_istore_n (lv' := [(2, .int x_58), (0, .ref o0), (1, .int p1)]) hx hb dX12_forced_4 rfl hl (by decide) rfl (fun ls hl => ?_)
  refine lv_iload_n hx hb dX12_forced_5 rfl (lv_at hl 0 rfl) ?_
  refine lv_iconst (v := (-1)) hx hb dX12_forced_6 (by decide) ?_
  refine lv_icmp_eq (tgt := 26) hx hb dX12_forced_7 (by decide) (fun c_121 => ?_) (fun c_121 => ?_)
  · skip
    rw [← Int32.toInt_inj, ti_m1] at c_121
    refine lv_iconst (v := (-1)) hx hb dX12_forced_26 (by decide) ?_
    refine lv_goto (tgt := 41) hx hb dX12_forced_27 (by decide) ?_
    exact W.iret (v := (-1)) hx hb hr (fun t ht hW => ⟨⟨(-1), f_59, rfl, ⟨hG, (by decide), hfr0, hrA12, hfA12⟩, by rw [ht]; exact hP, va_K.moved hW.alike hK, pl_in hD⟩, hS.F ht⟩) hS.2.2 dX12_forced_41
  · skip
    rw [← Int32.toInt_inj, ti_m1] at c_121
    refine lv_aload_n hx hb dX12_forced_10 rfl (lv_at hl 1 rfl) ?_
    refine lv_iload_n hx hb dX12_forced_11 rfl (lv_at hl 2 rfl) ?_
    refine tk_ViP (As := [.int p1]) (rest := []) (n := 1) hx hb hml hown hU hN hZ (s_X12_isRule_k12 l (dC, dI) cI cL cZ cR cG cH Z kd L f_59 hG o0 mo0 ko0 p1) wd_1289 wd_1290 wd_1291 wd_5 wd_1292 (by decide +kernel) ⟨Nat.le_of_ble_eq_true rfl, Nat.le_of_ble_eq_true rfl⟩ hK hP hD hS mo0 hfo_64 12 rfl rfl rfl hl.1 rfl (Nat.le_of_ble_eq_true rfl) dX12_forced_12 ⟨Nat.le_of_ble_eq_true rfl, Nat.le_of_ble_eq_true rfl⟩ (fun x_122 f_123 H locs hw hP hD hS => ?_)
    obtain ⟨rfl, bx_122, relx_122⟩ := hw
    refine lv_if_eq (tgt := 26) hx hb dX12_forced_15 (by decide) (fun c_125 => ?_) (fun c_125 => ?_)
    · skip
      rw [← Int32.toInt_inj, ti_0] at c_125
      refine lv_iconst (v := (-1)) hx hb dX12_forced_26 (by decide) ?_
      refine lv_goto (tgt := 41) hx hb dX12_forced_27 (by decide) ?_
      exact W.iret (v := (-1)) hx hb hr (fun t ht hW => ⟨⟨(-1), f_59, rfl, ⟨hG, (by decide), hfr0, hrA12, hfA12⟩, by rw [ht]; exact hP, va_K.moved hW.alike hK, pl_in hD⟩, hS.F ht⟩) hS.2.2 dX12_forced_41
    · skip
      rw [← Int32.toInt_inj, ti_0] at c_125
      refine lv_iload_n hx hb dX12_forced_18 rfl (lv_at hl 0 rfl) ?_
      refine lv_iload_n hx hb dX12_forced_19 rfl (lv_at hl 2 rfl) ?_
      refine lv_ishr hx hb dX12_forced_20 ?_
      refine lv_topi (fun x_126 ex_126 => ?_)
      have bx_126 : ((-2147483648) ≤ x_126.toInt ∧ x_126.toInt ≤ 2147483647) := ⟨i32_lo _, i32_hi _⟩
      refine lv_iconst (v := 1) hx hb dX12_forced_21 (by decide) ?_
      refine lv_iand hx hb dX12_forced_22 ?_
      refine lv_topi (fun x_127 ex_127 => ?_)
      have bx_127 : (0 ≤ x_127.toInt ∧ x_127.toInt ≤ 1) := by rw [ex_127]; have h8 := an_C x_126 (m := 1) (by decide); rw [ti_1] at h8; exact h8
      refine lv_if_ne (tgt := 30) hx hb dX12_forced_23 (by decide) (fun c_128 => ?_) (fun c_128 => ?_)
      · skip
        rw [← Int32.toInt_inj, ti_0] at c_128
        refine lv_aload_n hx hb dX12_forced_30 rfl (lv_at hl 1 rfl) ?_
        refine lv_iload_n hx hb dX12_forced_31 rfl (lv_at hl 0 rfl) ?_
        refine lv_iconst (v := 1) hx hb dX12_forced_32 (by decide) ?_
        refine lv_iload_n hx hb dX12_forced_33 rfl (lv_at hl 2 rfl) ?_
        refine lv_ishl hx hb dX12_forced_34 ?_
        refine lv_topi (fun x_129 ex_129 => ?_)
        have bx_129 : (1 ≤ x_129.toInt ∧ x_129.toInt ≤ 128) := by rw [ex_129]; exact sh_7 (by constructor <;> omega)
        refine lv_iconst (v := (-1)) hx hb dX12_forced_35 (by decide) ?_
        refine lv_ixor hx hb dX12_forced_36 ?_
        refine lv_topi (fun x_130 ex_130 => ?_)
        have bx_130 : ((-2147483648) ≤ x_130.toInt ∧ x_130.toInt ≤ 2147483647) := ⟨i32_lo _, i32_hi _⟩
        refine lv_iand hx hb dX12_forced_37 ?_
        refine lv_topi (fun x_131 ex_131 => ?_)
        have bx_131 : ((-2147483648) ≤ x_131.toInt ∧ x_131.toInt ≤ 2147483647) := ⟨i32_lo _, i32_hi _⟩
        refine tk_ViP (As := [.int x_131]) (rest := []) (n := 1) hx hb hml hown hU hN hZ (s_X12_firstWrong_k12 l (dC, dI) cI cL cZ cR cG cH Z kd L f_59 hG o0 mo0 ko0 x_131) wd_1424 wd_1425 wd_1426 wd_5 wd_1427 (by decide +kernel) ⟨Nat.le_of_ble_eq_true rfl, Nat.le_of_ble_eq_true rfl⟩ hK hP hD hS mo0 hfo_64 12 rfl rfl rfl hl.1 rfl (Nat.le_of_ble_eq_true rfl) dX12_forced_38 ⟨Nat.le_of_ble_eq_true rfl, Nat.le_of_ble_eq_true rfl⟩ (fun x_132 f_133 H locs hw hP hD hS => ?_)
        obtain ⟨hG, bx_132, hkc_134, hra_135, hfa_136⟩ := hw
        have hfr0 : ∀ b, kd b ≠ 12 → kd b ≠ 579 → kd b ≠ 581 → kd b ≠ 583 → kd b ≠ 585 → kd b ≠ 587 → kd b ≠ 588 → kd b ≠ 589 → kd b ≠ 594 → f_133 b = f b := fun b q12 q579 q581 q583 q585 q587 q588 q589 q594 => (hkc_134 b q12 q579 q581 q583 q585 q587 q588 q589 q594).trans (hfr0 b q12 q579 q581 q583 q585 q587 q588 q589 q594)
        have hrA12 : ∀ b, kd b = 12 → ∀ j, fldR (f_133 b) j = fldR (f b) j := fun b kb j => (hra_135 b kb j).trans (hrA12 b kb j)
        have hfA12 : ∀ b, kd b = 12 → ∀ j, j ≠ 23 → j ≠ 35 → fldI (f_133 b) j = fldI (f b) j := fun b kb j n23 n35 => (hfa_136 b kb j n23 n35).trans (hfA12 b kb j n23 n35)
        obtain ⟨a_139, a_140, a_141, v_142, a_143, v_144, v_145, v_146, v_147, v_148, v_149, v_150, v_151, v_152, v_153, a_154, a_155, a_156, a_157, a_158, a_159, a_160, a_161, v_162, v_163, v_164, v_165, v_166, a_167, v_168, a_169, a_170, v_171, v_172, a_173, v_174, a_175, a_176, v_177, v_178, a_179, a_180, a_181, v_182, a_183, a_184, a_185, a_186, a_187, a_188, a_189, a_190, a_191, v_192, v_193, a_194, hfo_138, ⟨ma_139, ka_139⟩, ⟨ma_140, ka_140⟩, ⟨ma_141, ka_141⟩, bv_142, ⟨ma_143, ka_143⟩, bv_144, bv_145, bv_150, bv_151, bv_152, ⟨ma_154, ka_154⟩, ⟨ma_155, ka_155⟩, ⟨ma_156, ka_156⟩, ⟨ma_157, ka_157⟩, ⟨ma_158, ka_158⟩, ⟨ma_159, ka_159⟩, ⟨ma_160, ka_160⟩, ⟨ma_161, ka_161⟩, bv_162, bv_164, bv_166, ⟨ma_167, ka_167⟩, bv_168, ⟨ma_169, ka_169⟩, ⟨ma_170, ka_170⟩, bv_171, ⟨ma_173, ka_173⟩, bv_174, ⟨ma_175, ka_175⟩, ⟨ma_176, ka_176⟩, bv_177, ⟨ma_179, ka_179⟩, ⟨ma_180, ka_180⟩, ⟨ma_181, ka_181⟩, bv_182, ⟨ma_183, ka_183⟩, ⟨ma_184, ka_184⟩, ⟨ma_185, ka_185⟩, ⟨ma_186, ka_186⟩, ⟨ma_187, ka_187⟩, ⟨ma_188, ka_188⟩, ⟨ma_189, ka_189⟩, ⟨ma_190, ka_190⟩, ⟨ma_191, ka_191⟩, bv_192, ⟨ma_194, ka_194⟩⟩ := un_12 (hG _ mo0) ko0
        have bv_146 : ((-2147483648) ≤ v_146.toInt ∧ v_146.toInt ≤ 2147483647) := ⟨i32_lo _, i32_hi _⟩
        have bv_147 : ((-2147483648) ≤ v_147.toInt ∧ v_147.toInt ≤ 2147483647) := ⟨i32_lo _, i32_hi _⟩
        have bv_148 : ((-2147483648) ≤ v_148.toInt ∧ v_148.toInt ≤ 2147483647) := ⟨i32_lo _, i32_hi _⟩
        have bv_149 : ((-2147483648) ≤ v_149.toInt ∧ v_149.toInt ≤ 2147483647) := ⟨i32_lo _, i32_hi _⟩
        have bv_153 : ((-2147483648) ≤ v_153.toInt ∧ v_153.toInt ≤ 2147483647) := ⟨i32_lo _, i32_hi _⟩
        have bv_163 : ((-2147483648) ≤ v_163.toInt ∧ v_163.toInt ≤ 2147483647) := ⟨i32_lo _, i32_hi _⟩
        have bv_165 : ((-2147483648) ≤ v_165.toInt ∧ v_165.toInt ≤ 2147483647) := ⟨i32_lo _, i32_hi _⟩
        have bv_172 : ((-2147483648) ≤ v_172.toInt ∧ v_172.toInt ≤ 2147483647) := ⟨i32_lo _, i32_hi _⟩
        have bv_178 : ((-2147483648) ≤ v_178.toInt ∧ v_178.toInt ≤ 2147483647) := ⟨i32_lo _, i32_hi _⟩
        have bv_193 : ((-2147483648) ≤ v_193.toInt ∧ v_193.toInt ≤ 2147483647) := ⟨i32_lo _, i32_hi _⟩
        obtain ⟨rfl, rfl, rfl, rfl, rfl, rfl, rfl, rfl, rfl, rfl, rfl, rfl, rfl, rfl, rfl, rfl, rfl, rfl, rfl, rfl, rfl, rfl, rfl, rfl, rfl, rfl, rfl, rfl, rfl, rfl, rfl⟩ := re_12 hfo_1 hfo_138 (hrA12 o0 ko0)
        obtain rfl := ri_12_3 hfo_1 hfo_138 (hfA12 o0 ko0 3 (by decide) (by decide))
        obtain rfl := ri_12_5 hfo_1 hfo_138 (hfA12 o0 ko0 5 (by decide) (by decide))
        obtain rfl := ri_12_6 hfo_1 hfo_138 (hfA12 o0 ko0 6 (by decide) (by decide))
        obtain rfl := ri_12_11 hfo_1 hfo_138 (hfA12 o0 ko0 11 (by decide) (by decide))
        obtain rfl := ri_12_12 hfo_1 hfo_138 (hfA12 o0 ko0 12 (by decide) (by decide))
        obtain rfl := ri_12_13 hfo_1 hfo_138 (hfA12 o0 ko0 13 (by decide) (by decide))
        obtain rfl := ri_12_14 hfo_1 hfo_138 (hfA12 o0 ko0 14 (by decide) (by decide))
        obtain rfl := ri_12_25 hfo_1 hfo_138 (hfA12 o0 ko0 25 (by decide) (by decide))
        obtain rfl := ri_12_27 hfo_1 hfo_138 (hfA12 o0 ko0 27 (by decide) (by decide))
        obtain rfl := ri_12_29 hfo_1 hfo_138 (hfA12 o0 ko0 29 (by decide) (by decide))
        obtain rfl := ri_12_32 hfo_1 hfo_138 (hfA12 o0 ko0 32 (by decide) (by decide))
        obtain rfl := ri_12_33 hfo_1 hfo_138 (hfA12 o0 ko0 33 (by decide) (by decide))
        obtain rfl := ri_12_38 hfo_1 hfo_138 (hfA12 o0 ko0 38 (by decide) (by decide))
        obtain rfl := ri_12_43 hfo_1 hfo_138 (hfA12 o0 ko0 43 (by decide) (by decide))
        obtain rfl := ri_12_53 hfo_1 hfo_138 (hfA12 o0 ko0 53 (by decide) (by decide))
        exact W.iret (v := x_132) hx hb hr (fun t ht hW => ⟨⟨x_132, f_133, rfl, ⟨hG, (by constructor <;> omega), hfr0, hrA12, hfA12⟩, by rw [ht]; exact hP, va_K.moved hW.alike hK, pl_in hD⟩, hS.F ht⟩) hS.2.2 dX12_forced_41
      · skip
        rw [← Int32.toInt_inj, ti_0] at c_128
        refine lv_iconst (v := (-1)) hx hb dX12_forced_26 (by decide) ?_
        refine lv_goto (tgt := 41) hx hb dX12_forced_27 (by decide) ?_
        exact W.iret (v := (-1)) hx hb hr (fun t ht hW => ⟨⟨(-1), f_59, rfl, ⟨hG, (by decide), hfr0, hrA12, hfA12⟩, by rw [ht]; exact hP, va_K.moved hW.alike hK, pl_in hD⟩, hS.F ht⟩) hS.2.2 dX12_forced_41
set_option maxHeartbeats 8000000 in
set_option maxRecDepth 100000 in
theorem s_X12_rule_k12 (l : Launch) (D : va_G) (cI cL cZ cR cG cH : ClassId) (Z : zT) (kd : Nat → Nat) (L : List Nat) (f : Nat → va_E) (hG : GI (okc cI cL cZ cR cG cH L kd) kd L f) (o0 : Nat) (mo0 : o0 ∈ L) (ko0 : kd o0 = 12) (p1 : Int32) (p2 : Int32) : mPI l D cI cL cZ cR cG cH Z yX12_rule cX12_rule 3 (some .int) 2 43 [.ref o0, .int p1, .int p2] L f (fun (r : Int32) (f9 : Nat → va_E) => f = f9 ∧ ((-2147483648) ≤ r.toInt ∧ r.toInt ≤ 2147483647)) := by
  obtain ⟨dC, dI⟩ := D
  refine Met.ofW (cc := cX12_rule) (maxL := 3) (ret := (some .int)) (by decide) rfl ?_
  intro p e s m args below meth c s₁ B hml hv
  obtain ⟨rfl, hP, hK, hD0, hN, hZ⟩ := hv
  have hx := B.exec
  have hb := B.bytes
  have hr := B.returns
  have hU : ∀ w ∈ wsU, w.before _ s = true := fun w h => atoms_spec (ws := wU yX12_rule cX12_rule 3 (some .int)) B.pre w (List.mem_cons_of_mem _ h)
  have hown : s.vm.findClass RX12 = some m.cls := findClass_of_methodNamed B.named
  have hlocks := B.notSynchronized
  have hD := pl_in hD0
  have hS : va_S (fun q => q ∈ L) s.heap s.heap [] := va_S.rf
  have hl := lv_entry ([.ref o0, .int p1, .int p2]) (n := 3) (Nat.le_of_ble_eq_true rfl)
  rw [lg_entry_eq]
  generalize (lg_sl ([.ref o0, .int p1, .int p2]) ++ List.replicate (3 - (lg_sl ([.ref o0, .int p1, .int p2])).length) Slot.unset).toArray = ls at hl ⊢
  have hl : lv_has ls 3 [(0, .ref o0), (1, .int p1), (2, .int p2)] := hl
  have bp1 : ((-2147483648) ≤ p1.toInt ∧ p1.toInt ≤ 2147483647) := ⟨i32_lo _, i32_hi _⟩
  have bp2 : ((-2147483648) ≤ p2.toInt ∧ p2.toInt ≤ 2147483647) := ⟨i32_lo _, i32_hi _⟩
  refine lv_aload_n hx hb dX12_rule_0 rfl (lv_at hl 0 rfl) ?_
  refine lv_iload_n hx hb dX12_rule_1 rfl (lv_at hl 1 rfl) ?_
  obtain ⟨a_2, a_3, a_4, v_5, a_6, v_7, v_8, v_9, v_10, v_11, v_12, v_13, v_14, v_15, v_16, a_17, a_18, a_19, a_20, a_21, a_22, a_23, a_24, v_25, v_26, v_27, v_28, v_29, a_30, v_31, a_32, a_33, v_34, v_35, a_36, v_37, a_38, a_39, v_40, v_41, a_42, a_43, a_44, v_45, a_46, a_47, a_48, a_49, a_50, a_51, a_52, a_53, a_54, v_55, v_56, a_57, hfo_1, ⟨ma_2, ka_2⟩, ⟨ma_3, ka_3⟩, ⟨ma_4, ka_4⟩, bv_5, ⟨ma_6, ka_6⟩, bv_7, bv_8, bv_13, bv_14, bv_15, ⟨ma_17, ka_17⟩, ⟨ma_18, ka_18⟩, ⟨ma_19, ka_19⟩, ⟨ma_20, ka_20⟩, ⟨ma_21, ka_21⟩, ⟨ma_22, ka_22⟩, ⟨ma_23, ka_23⟩, ⟨ma_24, ka_24⟩, bv_25, bv_27, bv_29, ⟨ma_30, ka_30⟩, bv_31, ⟨ma_32, ka_32⟩, ⟨ma_33, ka_33⟩, bv_34, ⟨ma_36, ka_36⟩, bv_37, ⟨ma_38, ka_38⟩, ⟨ma_39, ka_39⟩, bv_40, ⟨ma_42, ka_42⟩, ⟨ma_43, ka_43⟩, ⟨ma_44, ka_44⟩, bv_45, ⟨ma_46, ka_46⟩, ⟨ma_47, ka_47⟩, ⟨ma_48, ka_48⟩, ⟨ma_49, ka_49⟩, ⟨ma_50, ka_50⟩, ⟨ma_51, ka_51⟩, ⟨ma_52, ka_52⟩, ⟨ma_53, ka_53⟩, ⟨ma_54, ka_54⟩, bv_55, ⟨ma_57, ka_57⟩⟩ := un_12 (hG _ mo0) ko0
  have bv_9 : ((-2147483648) ≤ v_9.toInt ∧ v_9.toInt ≤ 2147483647) := ⟨i32_lo _, i32_hi _⟩
  have bv_10 : ((-2147483648) ≤ v_10.toInt ∧ v_10.toInt ≤ 2147483647) := ⟨i32_lo _, i32_hi _⟩
  have bv_11 : ((-2147483648) ≤ v_11.toInt ∧ v_11.toInt ≤ 2147483647) := ⟨i32_lo _, i32_hi _⟩
  have bv_12 : ((-2147483648) ≤ v_12.toInt ∧ v_12.toInt ≤ 2147483647) := ⟨i32_lo _, i32_hi _⟩
  have bv_16 : ((-2147483648) ≤ v_16.toInt ∧ v_16.toInt ≤ 2147483647) := ⟨i32_lo _, i32_hi _⟩
  have bv_26 : ((-2147483648) ≤ v_26.toInt ∧ v_26.toInt ≤ 2147483647) := ⟨i32_lo _, i32_hi _⟩
  have bv_28 : ((-2147483648) ≤ v_28.toInt ∧ v_28.toInt ≤ 2147483647) := ⟨i32_lo _, i32_hi _⟩
  have bv_35 : ((-2147483648) ≤ v_35.toInt ∧ v_35.toInt ≤ 2147483647) := ⟨i32_lo _, i32_hi _⟩
  have bv_41 : ((-2147483648) ≤ v_41.toInt ∧ v_41.toInt ≤ 2147483647) := ⟨i32_lo _, i32_hi _⟩
  have bv_56 : ((-2147483648) ≤ v_56.toInt ∧ v_56.toInt ≤ 2147483647) := ⟨i32_lo _, i32_hi _⟩
  refine tk_ViP (As := [.int p1]) (rest := []) (n := 1) hx hb hml hown hU hN hZ (s_X12_isRule_k12 l (dC, dI) cI cL cZ cR cG cH Z kd L f hG o0 mo0 ko0 p1) wd_1289 wd_1290 wd_1291 wd_5 wd_1292 (by decide +kernel) ⟨Nat.le_of_ble_eq_true rfl, Nat.le_of_ble_eq_true rfl⟩ hK hP hD hS mo0 hfo_1 12 rfl rfl rfl hl.1 rfl (Nat.le_of_ble_eq_true rfl) dX12_rule_2 ⟨Nat.le_of_ble_eq_true rfl, Nat.le_of_ble_eq_true rfl⟩ (fun x_58 f_59 H locs hw hP hD hS => ?_)
  obtain ⟨rfl, bx_58, relx_58⟩ := hw
  refine lv_if_eq (tgt := 17) hx hb dX12_rule_5 (by decide) (fun c_61 => ?_) (fun c_61 => ?_)
  · skip
    rw [← Int32.toInt_inj, ti_0] at c_61
    refine lv_iconst (v := (-1)) hx hb dX12_rule_17 (by decide) ?_
    refine lv_goto (tgt := 46) hx hb dX12_rule_18 (by decide) ?_
    exact W.iret (v := (-1)) hx hb hr (fun t ht hW => ⟨⟨(-1), f, rfl, ⟨rfl, (by decide)⟩, by rw [ht]; exact hP, va_K.moved hW.alike hK, pl_in hD⟩, hS.F ht⟩) hS.2.2 dX12_rule_46
  · skip
    rw [← Int32.toInt_inj, ti_0] at c_61
    refine lv_iload_n hx hb dX12_rule_8 rfl (lv_at hl 2 rfl) ?_
    refine lv_iconst (v := 0) hx hb dX12_rule_9 (by decide) ?_
    refine lv_iconst (v := 4) hx hb dX12_rule_10 (by decide) ?_
    refine tk_SiP (As := [.int p2, .int 0, .int 4]) (rest := []) (n := 3) hx hb hml hown hU hN hZ (s_X12_isIn l (dC, dI) cI cL cZ cR cG cH Z kd L f hG p2 0 4) wd_227 wd_228 wd_5 wd_229 (by decide +kernel) ⟨Nat.le_of_ble_eq_true rfl, Nat.le_of_ble_eq_true rfl⟩ hK hP hD hS rfl hl.1 rfl (Nat.le_of_ble_eq_true rfl) dX12_rule_11 ⟨Nat.le_of_ble_eq_true rfl, Nat.le_of_ble_eq_true rfl⟩ (fun x_62 f_63 H locs hw hP hD hS => ?_)
    obtain ⟨rfl, bx_62, relx_62⟩ := hw
    try rw [ti_0] at relx_62
    try rw [ti_4] at relx_62
    refine lv_if_ne (tgt := 21) hx hb dX12_rule_14 (by decide) (fun c_65 => ?_) (fun c_65 => ?_)
    · skip
      rw [← Int32.toInt_inj, ti_0] at c_65
      refine lv_iload_n hx hb dX12_rule_21 rfl (lv_at hl 2 rfl) ?_
      refine lv_iconst (v := 4) hx hb dX12_rule_22 (by decide) ?_
      refine lv_icmp_ne (tgt := 40) hx hb dX12_rule_23 (by decide) (fun c_66 => ?_) (fun c_66 => ?_)
      · skip
        rw [← Int32.toInt_inj, ti_4] at c_66
        refine lv_aload_n hx hb dX12_rule_40 rfl (lv_at hl 0 rfl) ?_
        refine lv_iload_n hx hb dX12_rule_41 rfl (lv_at hl 1 rfl) ?_
        refine lv_iload_n hx hb dX12_rule_42 rfl (lv_at hl 2 rfl) ?_
        refine tk_ViP (As := [.int p1, .int p2]) (rest := []) (n := 2) hx hb hml hown hU hN hZ (s_X12_ofRule_k12 l (dC, dI) cI cL cZ cR cG cH Z kd L f hG o0 mo0 ko0 p1 (by constructor <;> omega) p2 (by constructor <;> omega)) wd_894 wd_895 wd_896 wd_5 wd_897 (by decide +kernel) ⟨Nat.le_of_ble_eq_true rfl, Nat.le_of_ble_eq_true rfl⟩ hK hP hD hS mo0 hfo_1 12 rfl rfl rfl hl.1 rfl (Nat.le_of_ble_eq_true rfl) dX12_rule_43 ⟨Nat.le_of_ble_eq_true rfl, Nat.le_of_ble_eq_true rfl⟩ (fun x_67 f_68 H locs hw hP hD hS => ?_)
        obtain ⟨rfl, bx_67⟩ := hw
        exact W.iret (v := x_67) hx hb hr (fun t ht hW => ⟨⟨x_67, f, rfl, ⟨rfl, (by constructor <;> omega)⟩, by rw [ht]; exact hP, va_K.moved hW.alike hK, pl_in hD⟩, hS.F ht⟩) hS.2.2 dX12_rule_46
      · skip
        rw [← Int32.toInt_inj, ti_4] at c_66
        refine lv_aload_n hx hb dX12_rule_26 rfl (lv_at hl 0 rfl) ?_
        refine tk_getP (D := (dC, dI)) (ci := 12) (v := .ref a_2) (C := RX12) (T := TX12) (N := 56) hx hb hU inlX12 hown hK hP mo0 hfo_1 rfl 0 (by decide) (hU _ wd_169) (fun _ h9 => h9) rfl dX12_rule_27 ?_
        refine lv_bipush (v := 40) hx hb dX12_rule_30 (by decide) ?_
        obtain ⟨g_71, hfo_70, hbg_71⟩ := un_575 (hG _ ma_2) ka_2
        refine tk_ildP hx hb hK hP 0 ma_2 hfo_70 rfl (vp_in_nI (n := 40) (by decide) (by decide)) dX12_rule_32 ?_
        refine lv_topi (fun x_72 ex_72 => ?_)
        have bx_72 : (0 ≤ x_72.toInt ∧ x_72.toInt ≤ 255) := by rw [ex_72]; exact hbg_71.2.2.2.2.2.2.1 _ (by decide) (by decide) (by decide)
        refine lv_iload_n hx hb dX12_rule_33 rfl (lv_at hl 1 rfl) ?_
        refine lv_ishr hx hb dX12_rule_34 ?_
        refine lv_topi (fun x_73 ex_73 => ?_)
        have bx_73 : ((-2147483648) ≤ x_73.toInt ∧ x_73.toInt ≤ 2147483647) := ⟨i32_lo _, i32_hi _⟩
        refine lv_iconst (v := 1) hx hb dX12_rule_35 (by decide) ?_
        refine lv_iand hx hb dX12_rule_36 ?_
        refine lv_topi (fun x_74 ex_74 => ?_)
        have bx_74 : (0 ≤ x_74.toInt ∧ x_74.toInt ≤ 1) := by rw [ex_74]; have h8 := an_C x_73 (m := 1) (by decide); rw [ti_1] at h8; exact h8
        refine lv_goto (tgt := 46) hx hb dX12_rule_37 (by decide) ?_
        exact W.iret (v := x_74) hx hb hr (fun t ht hW => ⟨⟨x_74, f, rfl, ⟨rfl, (by constructor <;> omega)⟩, by rw [ht]; exact hP, va_K.moved hW.alike hK, pl_in hD⟩, hS.F ht⟩) hS.2.2 dX12_rule_46
    · skip
      rw [← Int32.toInt_inj, ti_0] at c_65
      refine lv_iconst (v := (-1)) hx hb dX12_rule_17 (by decide) ?_
      refine lv_goto (tgt := 46) hx hb dX12_rule_18 (by decide) ?_
      exact W.iret (v := (-1)) hx hb hr (fun t ht hW => ⟨⟨(-1), f, rfl, ⟨rfl, (by decide)⟩, by rw [ht]; exact hP, va_K.moved hW.alike hK, pl_in hD⟩, hS.F ht⟩) hS.2.2 dX12_rule_46
set_option maxHeartbeats 8000000 in
set_option maxRecDepth 100000 in
theorem s_X12_image_k12 (l : Launch) (D : va_G) (cI cL cZ cR cG cH : ClassId) (Z : zT) (kd : Nat → Nat) (L : List Nat) (f : Nat → va_E) (hG : GI (okc cI cL cZ cR cG cH L kd) kd L f) (o0 : Nat) (mo0 : o0 ∈ L) (ko0 : kd o0 = 12) (p1 : Int32) (bp1 : (0 ≤ p1.toInt ∧ p1.toInt ≤ 1)) : mPI l D cI cL cZ cR cG cH Z yX12_image cX12_image 3 (some .boolean) 0 0 [.ref o0, .int p1] L f (fun (r : Int32) (f9 : Nat → va_E) => GI (okc cI cL cZ cR cG cH L kd) kd L f9 ∧ (0 ≤ r.toInt ∧ r.toInt ≤ 1) ∧ (∀ b, kd b ≠ 12 → kd b ≠ 575 → kd b ≠ 577 → f9 b = f b) ∧ (∀ b, kd b = 12 → ∀ j, fldR (f9 b) j = fldR (f b) j) ∧ (∀ b, kd b = 12 → ∀ j, j ≠ 3 → fldI (f9 b) j = fldI (f b) j) ∧ (∀ (w3 z3 : Int32), fldI (f o0) 3 = some w3 → fldI (f9 o0) 3 = some z3 → (1 ≤ p1.toInt ∧ r.toInt = 1 ∧ z3.toInt = 1) ∨ (p1.toInt = 0 ∧ r.toInt = w3.toInt ∧ z3.toInt = w3.toInt))) := by
  obtain ⟨dC, dI⟩ := D
  refine Met.ofW (cc := cX12_image) (maxL := 3) (ret := (some .boolean)) (by decide) rfl ?_
  intro p e s m args below meth c s₁ B hml hv
  obtain ⟨rfl, hP, hK, hD0, hN, hZ⟩ := hv
  have hx := B.exec
  have hb := B.bytes
  have hr := B.returns
  have hU : ∀ w ∈ wsU, w.before _ s = true := fun w h => atoms_spec (ws := wU yX12_image cX12_image 3 (some .boolean)) B.pre w (List.mem_cons_of_mem _ h)
  have hown : s.vm.findClass RX12 = some m.cls := findClass_of_methodNamed B.named
  have hlocks := B.notSynchronized
  have hD := pl_in hD0
  have hS : va_S (fun q => q ∈ L) s.heap s.heap [] := va_S.rf
  have hl := lv_entry ([.ref o0, .int p1]) (n := 3) (Nat.le_of_ble_eq_true rfl)
  rw [lg_entry_eq]
  generalize (lg_sl ([.ref o0, .int p1]) ++ List.replicate (3 - (lg_sl ([.ref o0, .int p1])).length) Slot.unset).toArray = ls at hl ⊢
  have hl : lv_has ls 3 [(0, .ref o0), (1, .int p1)] := hl
  have hfr0 : ∀ b, kd b ≠ 12 → kd b ≠ 575 → kd b ≠ 577 → f b = f b := fun _ _ _ _ => rfl
  have hrA12 : ∀ b, kd b = 12 → ∀ j, fldR (f b) j = fldR (f b) j := fun _ _ _ => rfl
  have hfA12 : ∀ b, kd b = 12 → ∀ j, j ≠ 3 → fldI (f b) j = fldI (f b) j := fun _ _ _ _ => rfl
  obtain ⟨a_2, a_3, a_4, v_5, a_6, v_7, v_8, v_9, v_10, v_11, v_12, v_13, v_14, v_15, v_16, a_17, a_18, a_19, a_20, a_21, a_22, a_23, a_24, v_25, v_26, v_27, v_28, v_29, a_30, v_31, a_32, a_33, v_34, v_35, a_36, v_37, a_38, a_39, v_40, v_41, a_42, a_43, a_44, v_45, a_46, a_47, a_48, a_49, a_50, a_51, a_52, a_53, a_54, v_55, v_56, a_57, hfo_1, ⟨ma_2, ka_2⟩, ⟨ma_3, ka_3⟩, ⟨ma_4, ka_4⟩, bv_5, ⟨ma_6, ka_6⟩, bv_7, bv_8, bv_13, bv_14, bv_15, ⟨ma_17, ka_17⟩, ⟨ma_18, ka_18⟩, ⟨ma_19, ka_19⟩, ⟨ma_20, ka_20⟩, ⟨ma_21, ka_21⟩, ⟨ma_22, ka_22⟩, ⟨ma_23, ka_23⟩, ⟨ma_24, ka_24⟩, bv_25, bv_27, bv_29, ⟨ma_30, ka_30⟩, bv_31, ⟨ma_32, ka_32⟩, ⟨ma_33, ka_33⟩, bv_34, ⟨ma_36, ka_36⟩, bv_37, ⟨ma_38, ka_38⟩, ⟨ma_39, ka_39⟩, bv_40, ⟨ma_42, ka_42⟩, ⟨ma_43, ka_43⟩, ⟨ma_44, ka_44⟩, bv_45, ⟨ma_46, ka_46⟩, ⟨ma_47, ka_47⟩, ⟨ma_48, ka_48⟩, ⟨ma_49, ka_49⟩, ⟨ma_50, ka_50⟩, ⟨ma_51, ka_51⟩, ⟨ma_52, ka_52⟩, ⟨ma_53, ka_53⟩, ⟨ma_54, ka_54⟩, bv_55, ⟨ma_57, ka_57⟩⟩ := un_12 (hG _ mo0) ko0
  have bv_9 : ((-2147483648) ≤ v_9.toInt ∧ v_9.toInt ≤ 2147483647) := ⟨i32_lo _, i32_hi _⟩
  have bv_10 : ((-2147483648) ≤ v_10.toInt ∧ v_10.toInt ≤ 2147483647) := ⟨i32_lo _, i32_hi _⟩
  have bv_11 : ((-2147483648) ≤ v_11.toInt ∧ v_11.toInt ≤ 2147483647) := ⟨i32_lo _, i32_hi _⟩
  have bv_12 : ((-2147483648) ≤ v_12.toInt ∧ v_12.toInt ≤ 2147483647) := ⟨i32_lo _, i32_hi _⟩
  have bv_16 : ((-2147483648) ≤ v_16.toInt ∧ v_16.toInt ≤ 2147483647) := ⟨i32_lo _, i32_hi _⟩
  have bv_26 : ((-2147483648) ≤ v_26.toInt ∧ v_26.toInt ≤ 2147483647) := ⟨i32_lo _, i32_hi _⟩
  have bv_28 : ((-2147483648) ≤ v_28.toInt ∧ v_28.toInt ≤ 2147483647) := ⟨i32_lo _, i32_hi _⟩
  have bv_35 : ((-2147483648) ≤ v_35.toInt ∧ v_35.toInt ≤ 2147483647) := ⟨i32_lo _, i32_hi _⟩
  have bv_41 : ((-2147483648) ≤ v_41.toInt ∧ v_41.toInt ≤ 2147483647) := ⟨i32_lo _, i32_hi _⟩
  have bv_56 : ((-2147483648) ≤ v_56.toInt ∧ v_56.toInt ≤ 2147483647) := ⟨i32_lo _, i32_hi _⟩
  refine lv_iload_n hx hb dX12_image_0 rfl (lv_at hl 1 rfl) ?_
  refine lv_if_ne (tgt := 13) hx hb dX12_image_1 (by decide) (fun c_58 => ?_) (fun c_58 => ?_)
  · skip
    rw [← Int32.toInt_inj, ti_0] at c_58
    refine lv_iconst (v := 0) hx hb dX12_image_13 (by decide) ?_
    refine lv_istore_n (lv' := [(2, .int 0), (0, .ref o0), (1, .int p1)]) hx hb dX12_image_14 rfl hl (by decide) rfl (fun ls hl => ?_)
    have hloop_74 : ∀ (n : Nat), ∀ (y_75 : Int32), (0 ≤ y_75.toInt ∧ y_75.toInt ≤ 1560) → ∀ (f_77 : Nat → va_E), GI (okc cI cL cZ cR cG cH L kd) kd L f_77 → ∀ (H : Heap) (locs : List Loc), va_P (dC, dI) vwCl (va_pl L f_77) H → va_S (fun q => q ∈ L) s.heap H locs → va_D (fun q => q ∈ L) (va_pl L f_77) → (∀ b, kd b ≠ 12 → kd b ≠ 575 → kd b ≠ 577 → f_77 b = f b) → (∀ b, kd b = 12 → ∀ j, fldR (f_77 b) j = fldR (f b) j) → (∀ b, kd b = 12 → ∀ j, j ≠ 3 → fldI (f_77 b) j = fldI (f b) j) → (f_77 o0 = .inr (12, [.ref a_2, .ref a_3, .ref a_4, .int v_5, .ref a_6, .int v_7, .int v_8, .int v_9, .int v_10, .int v_11, .int v_12, .int v_13, .int v_14, .int v_15, .int v_16, .ref a_17, .ref a_18, .ref a_19, .ref a_20, .ref a_21, .ref a_22, .ref a_23, .ref a_24, .int v_25, .int v_26, .int v_27, .int v_28, .int v_29, .ref a_30, .int v_31, .ref a_32, .ref a_33, .int v_34, .int v_35, .ref a_36, .int v_37, .ref a_38, .ref a_39, .int v_40, .int v_41, .ref a_42, .ref a_43, .ref a_44, .int v_45, .ref a_46, .ref a_47, .ref a_48, .ref a_49, .ref a_50, .ref a_51, .ref a_52, .ref a_53, .ref a_54, .int v_55, .int v_56, .ref a_57])) → 1560 - y_75.toInt < (n : Int) → ∀ (ls : Array Slot), lv_has ls 3 [(2, .int y_75), (0, .ref o0), (1, .int p1)] → W p l e (headSpec (wU yX12_image cX12_image 3 (some .boolean)) { frames := 0, cells := 0, slots := 0, locals := 0 }).room s m [.ref o0, .int p1].toArray below meth c H locs 0 0 (MQ below (va_Qi (fun (r : Int32) (f9 : Nat → va_E) => GI (okc cI cL cZ cR cG cH L kd) kd L f9 ∧ (0 ≤ r.toInt ∧ r.toInt ≤ 1) ∧ (∀ b, kd b ≠ 12 → kd b ≠ 575 → kd b ≠ 577 → f9 b = f b) ∧ (∀ b, kd b = 12 → ∀ j, fldR (f9 b) j = fldR (f b) j) ∧ (∀ b, kd b = 12 → ∀ j, j ≠ 3 → fldI (f9 b) j = fldI (f b) j) ∧ (∀ (w3 z3 : Int32), fldI (f o0) 3 = some w3 → fldI (f9 o0) 3 = some z3 → (1 ≤ p1.toInt ∧ r.toInt = 1 ∧ z3.toInt = 1) ∨ (p1.toInt = 0 ∧ r.toInt = w3.toInt ∧ z3.toInt = w3.toInt))) (qP (dC, dI) cI cL cZ cR cG cH L) (fun q => q ∈ L)) [.ref o0, .int p1].toArray s 0 0 (fun q => q ∈ L)) (F0 m 15 ls []) := by
      intro n
      induction n with
      | zero => intro y_75 by_75 f_77 hG H locs hP hS hD hfr0 hrA12 hfA12 hfo_78 hmuhloop_74 ls hl; exfalso; omega
      | succ n ih_hloop_74 =>
        intro y_75 by_75 f_77 hG H locs hP hS hD hfr0 hrA12 hfA12 hfo_78 hmuhloop_74 ls hl
        refine lv_iload_n hx hb dX12_image_15 rfl (lv_at hl 0 rfl) ?_
        refine lv_sipush (v := 1560) hx hb dX12_image_16 (by decide) ?_
        refine lv_icmp_ge (tgt := 59) hx hb dX12_image_19 (by decide) (fun c_79 => ?_) (fun c_79 => ?_)
        · skip
          rw [Int32.le_iff_toInt_le, ti_1560] at c_79
          refine lv_aload_n hx hb dX12_image_59 rfl (lv_at hl 1 rfl) ?_
          refine lv_iconst (v := 1) hx hb dX12_image_60 (by decide) ?_
          refine tk_putP (D := (dC, dI)) (ci := 12) (v := .int 1) (ty := .boolean) (C := RX12) (T := TX12) (N := 56) hx hb hU inlX12 tyX12 tyX12_ok nmX12 hown hK hP hD hS mo0 hfo_78 rfl 3 (by decide) (hU _ wd_1483) (fun _ h9 => h9) rfl (by decide +kernel) rfl rfl (Nat.le_of_ble_eq_true rfl) dX12_image_61 (fun H locs hP hD hS => ?_)
          obtain ⟨f_81, ef_81⟩ : ∃ y : Nat → va_E, y = va_up f_77 o0 (.inr (12, [.ref a_2, .ref a_3, .ref a_4, .int 1, .ref a_6, .int v_7, .int v_8, .int v_9, .int v_10, .int v_11, .int v_12, .int v_13, .int v_14, .int v_15, .int v_16, .ref a_17, .ref a_18, .ref a_19, .ref a_20, .ref a_21, .ref a_22, .ref a_23, .ref a_24, .int v_25, .int v_26, .int v_27, .int v_28, .int v_29, .ref a_30, .int v_31, .ref a_32, .ref a_33, .int v_34, .int v_35, .ref a_36, .int v_37, .ref a_38, .ref a_39, .int v_40, .int v_41, .ref a_42, .ref a_43, .ref a_44, .int v_45, .ref a_46, .ref a_47, .ref a_48, .ref a_49, .ref a_50, .ref a_51, .ref a_52, .ref a_53, .ref a_54, .int v_55, .int v_56, .ref a_57])) := ⟨_, rfl⟩
          have hP : va_P (dC, dI) vwCl (va_pl L f_81) H := by rw [ef_81]; exact hP
          have hD : va_D (fun q => q ∈ L) (va_pl L f_81) := by rw [ef_81]; exact hD
          have hG : GI (okc cI cL cZ cR cG cH L kd) kd L f_81 := by rw [ef_81]; exact hG.set o0 (mk_12 ko0 ⟨a_2, a_3, a_4, 1, a_6, v_7, v_8, v_9, v_10, v_11, v_12, v_13, v_14, v_15, v_16, a_17, a_18, a_19, a_20, a_21, a_22, a_23, a_24, v_25, v_26, v_27, v_28, v_29, a_30, v_31, a_32, a_33, v_34, v_35, a_36, v_37, a_38, a_39, v_40, v_41, a_42, a_43, a_44, v_45, a_46, a_47, a_48, a_49, a_50, a_51, a_52, a_53, a_54, v_55, v_56, a_57, rfl, ⟨ma_2, ka_2⟩, ⟨ma_3, ka_3⟩, ⟨ma_4, ka_4⟩, (by decide), ⟨ma_6, ka_6⟩, (by constructor <;> omega), (by constructor <;> omega), (by constructor <;> omega), (by constructor <;> omega), (by constructor <;> omega), ⟨ma_17, ka_17⟩, ⟨ma_18, ka_18⟩, ⟨ma_19, ka_19⟩, ⟨ma_20, ka_20⟩, ⟨ma_21, ka_21⟩, ⟨ma_22, ka_22⟩, ⟨ma_23, ka_23⟩, ⟨ma_24, ka_24⟩, (by constructor <;> omega), (by constructor <;> omega), (by constructor <;> omega), ⟨ma_30, ka_30⟩, (by constructor <;> omega), ⟨ma_32, ka_32⟩, ⟨ma_33, ka_33⟩, (by constructor <;> omega), ⟨ma_36, ka_36⟩, (by constructor <;> omega), ⟨ma_38, ka_38⟩, ⟨ma_39, ka_39⟩, (by constructor <;> omega), ⟨ma_42, ka_42⟩, ⟨ma_43, ka_43⟩, ⟨ma_44, ka_44⟩, (by constructor <;> omega), ⟨ma_46, ka_46⟩, ⟨ma_47, ka_47⟩, ⟨ma_48, ka_48⟩, ⟨ma_49, ka_49⟩, ⟨ma_50, ka_50⟩, ⟨ma_51, ka_51⟩, ⟨ma_52, ka_52⟩, ⟨ma_53, ka_53⟩, ⟨ma_54, ka_54⟩, (by constructor <;> omega), ⟨ma_57, ka_57⟩⟩)
          have hfr0 : ∀ b, kd b ≠ 12 → kd b ≠ 575 → kd b ≠ 577 → f_81 b = f b := fun b q12 q575 q577 => (congrFun ef_81 b).trans ((up_ne (fun e9 => q12 (by rw [e9]; exact ko0))).trans (hfr0 b q12 q575 q577))
          have hrA12 : ∀ b, kd b = 12 → ∀ j, fldR (f_81 b) j = fldR (f b) j := fun b kb j => ((congrArg (fun x => fldR x j) (congrFun ef_81 b)).trans (fra_up (fun j => by rw [hfo_78]; exact fr_set (k := 3) rfl rfl j) j b)).trans (hrA12 b kb j)
          have hfA12 : ∀ b, kd b = 12 → ∀ j, j ≠ 3 → fldI (f_81 b) j = fldI (f b) j := fun b kb j n3 => ((congrArg (fun x => fldI x j) (congrFun ef_81 b)).trans (fia_up (fun h9 => by rw [hfo_78]; exact fi_set (k := 3) rfl h9) n3 b)).trans (hfA12 b kb j n3)
          have hfo_82 : f_81 o0 = .inr (12, [.ref a_2, .ref a_3, .ref a_4, .int 1, .ref a_6, .int v_7, .int v_8, .int v_9, .int v_10, .int v_11, .int v_12, .int v_13, .int v_14, .int v_15, .int v_16, .ref a_17, .ref a_18, .ref a_19, .ref a_20, .ref a_21, .ref a_22, .ref a_23, .ref a_24, .int v_25, .int v_26, .int v_27, .int v_28, .int v_29, .ref a_30, .int v_31, .ref a_32, .ref a_33, .int v_34, .int v_35, .ref a_36, .int v_37, .ref a_38, .ref a_39, .int v_40, .int v_41, .ref a_42, .ref a_43, .ref a_44, .int v_45, .ref a_46, .ref a_47, .ref a_48, .ref a_49, .ref a_50, .ref a_51, .ref a_52, .ref a_53, .ref a_54, .int v_55, .int v_56, .ref a_57]) := by rw [ef_81]; exact up_self
          refine lv_iconst (v := 1) hx hb dX12_image_64 (by decide) ?_
          exact W.zret (v := 1) (ty := .boolean) hx hb hr rfl (fun t ht hW => ⟨⟨1, f_81, rfl, ⟨hG, (by decide), hfr0, hrA12, hfA12, (by intro w3 z3 e3 d3; rw [hfo_1] at e3; rw [hfo_82] at d3; obtain rfl := Option.some.inj e3; obtain rfl := Option.some.inj d3; (try rw [ti_1]) <;> omega)⟩, by rw [ht]; exact hP, va_K.moved hW.alike hK, pl_in hD⟩, hS.F ht⟩) hS.2.2 dX12_image_65
        · skip
          rw [Int32.le_iff_toInt_le, ti_1560] at c_79
          refine lv_iload_n hx hb dX12_image_22 rfl (lv_at hl 2 rfl) ?_
          refine lv_if_eq (tgt := 41) hx hb dX12_image_23 (by decide) (fun c_83 => ?_) (fun c_83 => ?_)
          · skip
            rw [← Int32.toInt_inj, ti_0] at c_83
            exfalso
            omega
          · skip
            rw [← Int32.toInt_inj, ti_0] at c_83
            refine lv_aload_n hx hb dX12_image_26 rfl (lv_at hl 1 rfl) ?_
            refine tk_getP (D := (dC, dI)) (ci := 12) (v := .ref a_4) (C := RX12) (T := TX12) (N := 56) hx hb hU inlX12 hown hK hP mo0 hfo_78 rfl 2 (by decide) (hU _ wd_171) (fun _ h9 => h9) rfl dX12_image_27 ?_
            refine lv_iload_n hx hb dX12_image_30 rfl (lv_at hl 0 rfl) ?_
            refine lv_aload_n hx hb dX12_image_31 rfl (lv_at hl 1 rfl) ?_
            refine tk_getP (D := (dC, dI)) (ci := 12) (v := .ref a_2) (C := RX12) (T := TX12) (N := 56) hx hb hU inlX12 hown hK hP mo0 hfo_78 rfl 0 (by decide) (hU _ wd_169) (fun _ h9 => h9) rfl dX12_image_32 ?_
            refine lv_iload_n hx hb dX12_image_35 rfl (lv_at hl 0 rfl) ?_
            obtain ⟨g_85, hfo_84, hbg_85⟩ := un_575 (hG _ ma_2) ka_2
            refine tk_ildP hx hb hK hP 0 ma_2 hfo_84 rfl (vp_in_iff.mpr (by constructor <;> omega)) dX12_image_36 ?_
            refine lv_topi (fun x_86 ex_86 => ?_)
            have bx_86 : ((-2147483648) ≤ x_86.toInt ∧ x_86.toInt ≤ 2147483647) := ⟨i32_lo _, i32_hi _⟩
            obtain ⟨g_88, hfo_87, hbg_88⟩ := un_577 (hG _ ma_4) ka_4
            refine tk_istP hx hb hK hP hD hS 0 ma_4 hfo_87 rfl (vp_in_iff.mpr (by constructor <;> omega)) dX12_image_37 (fun H locs hP hD hS => ?_)
            have hc9 := cl_I (i := y_75) (by omega)
            obtain ⟨f_90, ef_90⟩ : ∃ y : Nat → va_E, y = va_up f_77 a_4 (.inl (cI, 1560, .inl (upd g_88 (Int32.toNatClampNeg y_75) x_86))) := ⟨_, rfl⟩
            have hP : va_P (dC, dI) vwCl (va_pl L f_90) H := by rw [ef_90]; exact hP
            have hD : va_D (fun q => q ∈ L) (va_pl L f_90) := by rw [ef_90]; exact hD
            have hG : GI (okc cI cL cZ cR cG cH L kd) kd L f_90 := by rw [ef_90]; exact hG.set a_4 (mk_577 ka_4 ⟨_, rfl, hbg_88.1.up (fun h1 h2 h3 => by rw [ex_86]; exact hbg_85.1 _ h1 h2 h3), hbg_88.2.1.up (fun h1 h2 h3 => by rw [ex_86]; exact hbg_85.2.1 _ h1 h2 h3), hbg_88.2.2.1.up (fun h1 h2 h3 => by rw [ex_86]; exact hbg_85.2.2.1 _ h1 h2 h3), hbg_88.2.2.2.1.up (fun h1 h2 h3 => by rw [ex_86]; exact hbg_85.2.2.2.1 _ h1 h2 h3), hbg_88.2.2.2.2.1.up (fun h1 h2 h3 => by rw [ex_86]; exact hbg_85.2.2.2.2.1 _ h1 h2 h3), hbg_88.2.2.2.2.2.1.up (fun h1 h2 h3 => by rw [ex_86]; exact hbg_85.2.2.2.2.2.1 _ h1 h2 h3), hbg_88.2.2.2.2.2.2.1.up (fun h1 h2 h3 => by rw [ex_86]; exact hbg_85.2.2.2.2.2.2.1 _ h1 h2 h3), hbg_88.2.2.2.2.2.2.2.1.up (fun h1 h2 h3 => by rw [ex_86]; exact hbg_85.2.2.2.2.2.2.2.1 _ h1 h2 h3), hbg_88.2.2.2.2.2.2.2.2.1.up (fun h1 h2 h3 => by rw [ex_86]; exact hbg_85.2.2.2.2.2.2.2.2.1 _ h1 h2 h3), hbg_88.2.2.2.2.2.2.2.2.2.1.up (fun h1 h2 h3 => by rw [ex_86]; exact hbg_85.2.2.2.2.2.2.2.2.2.1 _ h1 h2 h3), hbg_88.2.2.2.2.2.2.2.2.2.2.1.up (fun h1 h2 h3 => by rw [ex_86]; exact hbg_85.2.2.2.2.2.2.2.2.2.2.1 _ h1 h2 h3), hbg_88.2.2.2.2.2.2.2.2.2.2.2.1.up (fun h1 h2 h3 => by rw [ex_86]; exact hbg_85.2.2.2.2.2.2.2.2.2.2.2.1 _ h1 h2 h3), hbg_88.2.2.2.2.2.2.2.2.2.2.2.2.1.up (fun h1 h2 h3 => by rw [ex_86]; exact hbg_85.2.2.2.2.2.2.2.2.2.2.2.2.1 _ h1 h2 h3), hbg_88.2.2.2.2.2.2.2.2.2.2.2.2.2.1.up (fun h1 h2 h3 => by rw [ex_86]; exact hbg_85.2.2.2.2.2.2.2.2.2.2.2.2.2.1 _ h1 h2 h3), hbg_88.2.2.2.2.2.2.2.2.2.2.2.2.2.2.1.up (fun h1 h2 h3 => by rw [ex_86]; exact hbg_85.2.2.2.2.2.2.2.2.2.2.2.2.2.2.1 _ h1 h2 h3), hbg_88.2.2.2.2.2.2.2.2.2.2.2.2.2.2.2.up (fun h1 h2 h3 => by rw [ex_86]; exact hbg_85.2.2.2.2.2.2.2.2.2.2.2.2.2.2.2 _ h1 h2 h3)⟩)
            have hfo_91 : f_90 o0 = .inr (12, [.ref a_2, .ref a_3, .ref a_4, .int v_5, .ref a_6, .int v_7, .int v_8, .int v_9, .int v_10, .int v_11, .int v_12, .int v_13, .int v_14, .int v_15, .int v_16, .ref a_17, .ref a_18, .ref a_19, .ref a_20, .ref a_21, .ref a_22, .ref a_23, .ref a_24, .int v_25, .int v_26, .int v_27, .int v_28, .int v_29, .ref a_30, .int v_31, .ref a_32, .ref a_33, .int v_34, .int v_35, .ref a_36, .int v_37, .ref a_38, .ref a_39, .int v_40, .int v_41, .ref a_42, .ref a_43, .ref a_44, .int v_45, .ref a_46, .ref a_47, .ref a_48, .ref a_49, .ref a_50, .ref a_51, .ref a_52, .ref a_53, .ref a_54, .int v_55, .int v_56, .ref a_57]) := by rw [ef_90, up_ne (kd_ne ka_4 ko0 (by decide))]; exact hfo_78
            have hfo_92 : f_90 a_2 = .inl (cI, 1560, .inl g_85) := by rw [ef_90, up_ne (kd_ne ka_4 ka_2 (by decide))]; exact hfo_84
            have hfr0 : ∀ b, kd b ≠ 12 → kd b ≠ 575 → kd b ≠ 577 → f_90 b = f b := fun b q12 q575 q577 => (congrFun ef_90 b).trans ((up_ne (fun e9 => q577 (by rw [e9]; exact ka_4))).trans (hfr0 b q12 q575 q577))
            have hrA12 : ∀ b, kd b = 12 → ∀ j, fldR (f_90 b) j = fldR (f b) j := fun b kb j => (congrArg (fun x => fldR x j) ((congrFun ef_90 b).trans (up_ne (kd_ne ka_4 kb (by decide))))).trans (hrA12 b kb j)
            have hfA12 : ∀ b, kd b = 12 → ∀ j, j ≠ 3 → fldI (f_90 b) j = fldI (f b) j := fun b kb j n3 => (congrArg (fun x => fldI x j) ((congrFun ef_90 b).trans (up_ne (kd_ne ka_4 kb (by decide))))).trans (hfA12 b kb j n3)
            have hfo_93 : f_90 a_4 = .inl (cI, 1560, .inl (upd g_88 (Int32.toNatClampNeg y_75) x_86)) := by rw [ef_90]; exact up_self
            refine lv_goto (tgt := 53) hx hb dX12_image_38 (by decide) ?_
            obtain ⟨x_94, ex_94⟩ : ∃ y : Int32, y_75 + 1 = y := ⟨_, rfl⟩
            have hx_94 : x_94.toInt = y_75.toInt + 1 := by rw [← ex_94, ad_I (by rw [ti_1]; omega) (by rw [ti_1]; omega), ti_1]
            have bx_94 : (1 ≤ x_94.toInt ∧ x_94.toInt ≤ 1560) := by constructor <;> omega
            refine lv_iinc (v := x_94) (lv' := [(2, .int x_94), (0, .ref o0), (1, .int p1)]) hx hb dX12_image_53 hl (k := 0) rfl ex_94 (by decide) rfl (fun ls hl => ?_)
            refine lv_goto (tgt := 15) hx hb dX12_image_56 (by decide) ?_
            exact ih_hloop_74 x_94 (by constructor <;> omega) f_90 hG _ _ hP hS hD hfr0 hrA12 hfA12 hfo_91 (by omega) ls (lv_sub hl [0, 1, 2] rfl)
    exact hloop_74 1561 0 (by decide) f hG _ _ hP hS hD hfr0 hrA12 hfA12 hfo_1 (by (try rw [ti_0]) <;> omega) ls hl
  · skip
    rw [← Int32.toInt_inj, ti_0] at c_58
    refine lv_aload_n hx hb dX12_image_4 rfl (lv_at hl 0 rfl) ?_
    refine tk_getP (D := (dC, dI)) (ci := 12) (v := .int v_5) (C := RX12) (T := TX12) (N := 56) hx hb hU inlX12 hown hK hP mo0 hfo_1 rfl 3 (by decide) (hU _ wd_1483) (fun _ h9 => h9) rfl dX12_image_5 ?_
    refine lv_if_ne (tgt := 13) hx hb dX12_image_8 (by decide) (fun c_95 => ?_) (fun c_95 => ?_)
    · skip
      rw [← Int32.toInt_inj, ti_0] at c_95
      refine lv_iconst (v := 0) hx hb dX12_image_13 (by decide) ?_
      refine lv_istore_n (lv' := [(2, .int 0), (0, .ref o0), (1, .int p1)]) hx hb dX12_image_14 rfl hl (by decide) rfl (fun ls hl => ?_)
      have hloop_111 : ∀ (n : Nat), ∀ (y_112 : Int32), (0 ≤ y_112.toInt ∧ y_112.toInt ≤ 1560) → ∀ (f_114 : Nat → va_E), GI (okc cI cL cZ cR cG cH L kd) kd L f_114 → ∀ (H : Heap) (locs : List Loc), va_P (dC, dI) vwCl (va_pl L f_114) H → va_S (fun q => q ∈ L) s.heap H locs → va_D (fun q => q ∈ L) (va_pl L f_114) → (∀ b, kd b ≠ 12 → kd b ≠ 575 → kd b ≠ 577 → f_114 b = f b) → (∀ b, kd b = 12 → ∀ j, fldR (f_114 b) j = fldR (f b) j) → (∀ b, kd b = 12 → ∀ j, j ≠ 3 → fldI (f_114 b) j = fldI (f b) j) → (f_114 o0 = .inr (12, [.ref a_2, .ref a_3, .ref a_4, .int v_5, .ref a_6, .int v_7, .int v_8, .int v_9, .int v_10, .int v_11, .int v_12, .int v_13, .int v_14, .int v_15, .int v_16, .ref a_17, .ref a_18, .ref a_19, .ref a_20, .ref a_21, .ref a_22, .ref a_23, .ref a_24, .int v_25, .int v_26, .int v_27, .int v_28, .int v_29, .ref a_30, .int v_31, .ref a_32, .ref a_33, .int v_34, .int v_35, .ref a_36, .int v_37, .ref a_38, .ref a_39, .int v_40, .int v_41, .ref a_42, .ref a_43, .ref a_44, .int v_45, .ref a_46, .ref a_47, .ref a_48, .ref a_49, .ref a_50, .ref a_51, .ref a_52, .ref a_53, .ref a_54, .int v_55, .int v_56, .ref a_57])) → 1560 - y_112.toInt < (n : Int) → ∀ (ls : Array Slot), lv_has ls 3 [(2, .int y_112), (0, .ref o0), (1, .int p1)] → W p l e (headSpec (wU yX12_image cX12_image 3 (some .boolean)) { frames := 0, cells := 0, slots := 0, locals := 0 }).room s m [.ref o0, .int p1].toArray below meth c H locs 0 0 (MQ below (va_Qi (fun (r : Int32) (f9 : Nat → va_E) => GI (okc cI cL cZ cR cG cH L kd) kd L f9 ∧ (0 ≤ r.toInt ∧ r.toInt ≤ 1) ∧ (∀ b, kd b ≠ 12 → kd b ≠ 575 → kd b ≠ 577 → f9 b = f b) ∧ (∀ b, kd b = 12 → ∀ j, fldR (f9 b) j = fldR (f b) j) ∧ (∀ b, kd b = 12 → ∀ j, j ≠ 3 → fldI (f9 b) j = fldI (f b) j) ∧ (∀ (w3 z3 : Int32), fldI (f o0) 3 = some w3 → fldI (f9 o0) 3 = some z3 → (1 ≤ p1.toInt ∧ r.toInt = 1 ∧ z3.toInt = 1) ∨ (p1.toInt = 0 ∧ r.toInt = w3.toInt ∧ z3.toInt = w3.toInt))) (qP (dC, dI) cI cL cZ cR cG cH L) (fun q => q ∈ L)) [.ref o0, .int p1].toArray s 0 0 (fun q => q ∈ L)) (F0 m 15 ls []) := by
        intro n
        induction n with
        | zero => intro y_112 by_112 f_114 hG H locs hP hS hD hfr0 hrA12 hfA12 hfo_115 hmuhloop_111 ls hl; exfalso; omega
        | succ n ih_hloop_111 =>
          intro y_112 by_112 f_114 hG H locs hP hS hD hfr0 hrA12 hfA12 hfo_115 hmuhloop_111 ls hl
          refine lv_iload_n hx hb dX12_image_15 rfl (lv_at hl 0 rfl) ?_
          refine lv_sipush (v := 1560) hx hb dX12_image_16 (by decide) ?_
          refine lv_icmp_ge (tgt := 59) hx hb dX12_image_19 (by decide) (fun c_116 => ?_) (fun c_116 => ?_)
          · skip
            rw [Int32.le_iff_toInt_le, ti_1560] at c_116
            refine lv_aload_n hx hb dX12_image_59 rfl (lv_at hl 1 rfl) ?_
            refine lv_iconst (v := 1) hx hb dX12_image_60 (by decide) ?_
            refine tk_putP (D := (dC, dI)) (ci := 12) (v := .int 1) (ty := .boolean) (C := RX12) (T := TX12) (N := 56) hx hb hU inlX12 tyX12 tyX12_ok nmX12 hown hK hP hD hS mo0 hfo_115 rfl 3 (by decide) (hU _ wd_1483) (fun _ h9 => h9) rfl (by decide +kernel) rfl rfl (Nat.le_of_ble_eq_true rfl) dX12_image_61 (fun H locs hP hD hS => ?_)
            obtain ⟨f_118, ef_118⟩ : ∃ y : Nat → va_E, y = va_up f_114 o0 (.inr (12, [.ref a_2, .ref a_3, .ref a_4, .int 1, .ref a_6, .int v_7, .int v_8, .int v_9, .int v_10, .int v_11, .int v_12, .int v_13, .int v_14, .int v_15, .int v_16, .ref a_17, .ref a_18, .ref a_19, .ref a_20, .ref a_21, .ref a_22, .ref a_23, .ref a_24, .int v_25, .int v_26, .int v_27, .int v_28, .int v_29, .ref a_30, .int v_31, .ref a_32, .ref a_33, .int v_34, .int v_35, .ref a_36, .int v_37, .ref a_38, .ref a_39, .int v_40, .int v_41, .ref a_42, .ref a_43, .ref a_44, .int v_45, .ref a_46, .ref a_47, .ref a_48, .ref a_49, .ref a_50, .ref a_51, .ref a_52, .ref a_53, .ref a_54, .int v_55, .int v_56, .ref a_57])) := ⟨_, rfl⟩
            have hP : va_P (dC, dI) vwCl (va_pl L f_118) H := by rw [ef_118]; exact hP
            have hD : va_D (fun q => q ∈ L) (va_pl L f_118) := by rw [ef_118]; exact hD
            have hG : GI (okc cI cL cZ cR cG cH L kd) kd L f_118 := by rw [ef_118]; exact hG.set o0 (mk_12 ko0 ⟨a_2, a_3, a_4, 1, a_6, v_7, v_8, v_9, v_10, v_11, v_12, v_13, v_14, v_15, v_16, a_17, a_18, a_19, a_20, a_21, a_22, a_23, a_24, v_25, v_26, v_27, v_28, v_29, a_30, v_31, a_32, a_33, v_34, v_35, a_36, v_37, a_38, a_39, v_40, v_41, a_42, a_43, a_44, v_45, a_46, a_47, a_48, a_49, a_50, a_51, a_52, a_53, a_54, v_55, v_56, a_57, rfl, ⟨ma_2, ka_2⟩, ⟨ma_3, ka_3⟩, ⟨ma_4, ka_4⟩, (by decide), ⟨ma_6, ka_6⟩, (by constructor <;> omega), (by constructor <;> omega), (by constructor <;> omega), (by constructor <;> omega), (by constructor <;> omega), ⟨ma_17, ka_17⟩, ⟨ma_18, ka_18⟩, ⟨ma_19, ka_19⟩, ⟨ma_20, ka_20⟩, ⟨ma_21, ka_21⟩, ⟨ma_22, ka_22⟩, ⟨ma_23, ka_23⟩, ⟨ma_24, ka_24⟩, (by constructor <;> omega), (by constructor <;> omega), (by constructor <;> omega), ⟨ma_30, ka_30⟩, (by constructor <;> omega), ⟨ma_32, ka_32⟩, ⟨ma_33, ka_33⟩, (by constructor <;> omega), ⟨ma_36, ka_36⟩, (by constructor <;> omega), ⟨ma_38, ka_38⟩, ⟨ma_39, ka_39⟩, (by constructor <;> omega), ⟨ma_42, ka_42⟩, ⟨ma_43, ka_43⟩, ⟨ma_44, ka_44⟩, (by constructor <;> omega), ⟨ma_46, ka_46⟩, ⟨ma_47, ka_47⟩, ⟨ma_48, ka_48⟩, ⟨ma_49, ka_49⟩, ⟨ma_50, ka_50⟩, ⟨ma_51, ka_51⟩, ⟨ma_52, ka_52⟩, ⟨ma_53, ka_53⟩, ⟨ma_54, ka_54⟩, (by constructor <;> omega), ⟨ma_57, ka_57⟩⟩)
            have hfr0 : ∀ b, kd b ≠ 12 → kd b ≠ 575 → kd b ≠ 577 → f_118 b = f b := fun b q12 q575 q577 => (congrFun ef_118 b).trans ((up_ne (fun e9 => q12 (by rw [e9]; exact ko0))).trans (hfr0 b q12 q575 q577))
            have hrA12 : ∀ b, kd b = 12 → ∀ j, fldR (f_118 b) j = fldR (f b) j := fun b kb j => ((congrArg (fun x => fldR x j) (congrFun ef_118 b)).trans (fra_up (fun j => by rw [hfo_115]; exact fr_set (k := 3) rfl rfl j) j b)).trans (hrA12 b kb j)
            have hfA12 : ∀ b, kd b = 12 → ∀ j, j ≠ 3 → fldI (f_118 b) j = fldI (f b) j := fun b kb j n3 => ((congrArg (fun x => fldI x j) (congrFun ef_118 b)).trans (fia_up (fun h9 => by rw [hfo_115]; exact fi_set (k := 3) rfl h9) n3 b)).trans (hfA12 b kb j n3)
            have hfo_119 : f_118 o0 = .inr (12, [.ref a_2, .ref a_3, .ref a_4, .int 1, .ref a_6, .int v_7, .int v_8, .int v_9, .int v_10, .int v_11, .int v_12, .int v_13, .int v_14, .int v_15, .int v_16, .ref a_17, .ref a_18, .ref a_19, .ref a_20, .ref a_21, .ref a_22, .ref a_23, .ref a_24, .int v_25, .int v_26, .int v_27, .int v_28, .int v_29, .ref a_30, .int v_31, .ref a_32, .ref a_33, .int v_34, .int v_35, .ref a_36, .int v_37, .ref a_38, .ref a_39, .int v_40, .int v_41, .ref a_42, .ref a_43, .ref a_44, .int v_45, .ref a_46, .ref a_47, .ref a_48, .ref a_49, .ref a_50, .ref a_51, .ref a_52, .ref a_53, .ref a_54, .int v_55, .int v_56, .ref a_57]) := by rw [ef_118]; exact up_self
            refine lv_iconst (v := 1) hx hb dX12_image_64 (by decide) ?_
            exact W.zret (v := 1) (ty := .boolean) hx hb hr rfl (fun t ht hW => ⟨⟨1, f_118, rfl, ⟨hG, (by decide), hfr0, hrA12, hfA12, (by intro w3 z3 e3 d3; rw [hfo_1] at e3; rw [hfo_119] at d3; obtain rfl := Option.some.inj e3; obtain rfl := Option.some.inj d3; (try rw [ti_1]) <;> omega)⟩, by rw [ht]; exact hP, va_K.moved hW.alike hK, pl_in hD⟩, hS.F ht⟩) hS.2.2 dX12_image_65
          · skip
            rw [Int32.le_iff_toInt_le, ti_1560] at c_116
            refine lv_iload_n hx hb dX12_image_22 rfl (lv_at hl 2 rfl) ?_
            refine lv_if_eq (tgt := 41) hx hb dX12_image_23 (by decide) (fun c_120 => ?_) (fun c_120 => ?_)
            · skip
              rw [← Int32.toInt_inj, ti_0] at c_120
              refine lv_aload_n hx hb dX12_image_41 rfl (lv_at hl 1 rfl) ?_
              refine tk_getP (D := (dC, dI)) (ci := 12) (v := .ref a_2) (C := RX12) (T := TX12) (N := 56) hx hb hU inlX12 hown hK hP mo0 hfo_115 rfl 0 (by decide) (hU _ wd_169) (fun _ h9 => h9) rfl dX12_image_42 ?_
              refine lv_iload_n hx hb dX12_image_45 rfl (lv_at hl 0 rfl) ?_
              refine lv_aload_n hx hb dX12_image_46 rfl (lv_at hl 1 rfl) ?_
              refine tk_getP (D := (dC, dI)) (ci := 12) (v := .ref a_4) (C := RX12) (T := TX12) (N := 56) hx hb hU inlX12 hown hK hP mo0 hfo_115 rfl 2 (by decide) (hU _ wd_171) (fun _ h9 => h9) rfl dX12_image_47 ?_
              refine lv_iload_n hx hb dX12_image_50 rfl (lv_at hl 0 rfl) ?_
              obtain ⟨g_122, hfo_121, hbg_122⟩ := un_577 (hG _ ma_4) ka_4
              refine tk_ildP hx hb hK hP 0 ma_4 hfo_121 rfl (vp_in_iff.mpr (by constructor <;> omega)) dX12_image_51 ?_
              refine lv_topi (fun x_123 ex_123 => ?_)
              have bx_123 : ((-2147483648) ≤ x_123.toInt ∧ x_123.toInt ≤ 2147483647) := ⟨i32_lo _, i32_hi _⟩
              obtain ⟨g_125, hfo_124, hbg_125⟩ := un_575 (hG _ ma_2) ka_2
              refine tk_istP hx hb hK hP hD hS 0 ma_2 hfo_124 rfl (vp_in_iff.mpr (by constructor <;> omega)) dX12_image_52 (fun H locs hP hD hS => ?_)
              have hc9 := cl_I (i := y_112) (by omega)
              obtain ⟨f_127, ef_127⟩ : ∃ y : Nat → va_E, y = va_up f_114 a_2 (.inl (cI, 1560, .inl (upd g_125 (Int32.toNatClampNeg y_112) x_123))) := ⟨_, rfl⟩
              have hP : va_P (dC, dI) vwCl (va_pl L f_127) H := by rw [ef_127]; exact hP
              have hD : va_D (fun q => q ∈ L) (va_pl L f_127) := by rw [ef_127]; exact hD
              have hG : GI (okc cI cL cZ cR cG cH L kd) kd L f_127 := by rw [ef_127]; exact hG.set a_2 (mk_575 ka_2 ⟨_, rfl, hbg_125.1.up (fun h1 h2 h3 => by rw [ex_123]; exact hbg_122.1 _ h1 h2 h3), hbg_125.2.1.up (fun h1 h2 h3 => by rw [ex_123]; exact hbg_122.2.1 _ h1 h2 h3), hbg_125.2.2.1.up (fun h1 h2 h3 => by rw [ex_123]; exact hbg_122.2.2.1 _ h1 h2 h3), hbg_125.2.2.2.1.up (fun h1 h2 h3 => by rw [ex_123]; exact hbg_122.2.2.2.1 _ h1 h2 h3), hbg_125.2.2.2.2.1.up (fun h1 h2 h3 => by rw [ex_123]; exact hbg_122.2.2.2.2.1 _ h1 h2 h3), hbg_125.2.2.2.2.2.1.up (fun h1 h2 h3 => by rw [ex_123]; exact hbg_122.2.2.2.2.2.1 _ h1 h2 h3), hbg_125.2.2.2.2.2.2.1.up (fun h1 h2 h3 => by rw [ex_123]; exact hbg_122.2.2.2.2.2.2.1 _ h1 h2 h3), hbg_125.2.2.2.2.2.2.2.1.up (fun h1 h2 h3 => by rw [ex_123]; exact hbg_122.2.2.2.2.2.2.2.1 _ h1 h2 h3), hbg_125.2.2.2.2.2.2.2.2.1.up (fun h1 h2 h3 => by rw [ex_123]; exact hbg_122.2.2.2.2.2.2.2.2.1 _ h1 h2 h3), hbg_125.2.2.2.2.2.2.2.2.2.1.up (fun h1 h2 h3 => by rw [ex_123]; exact hbg_122.2.2.2.2.2.2.2.2.2.1 _ h1 h2 h3), hbg_125.2.2.2.2.2.2.2.2.2.2.1.up (fun h1 h2 h3 => by rw [ex_123]; exact hbg_122.2.2.2.2.2.2.2.2.2.2.1 _ h1 h2 h3), hbg_125.2.2.2.2.2.2.2.2.2.2.2.1.up (fun h1 h2 h3 => by rw [ex_123]; exact hbg_122.2.2.2.2.2.2.2.2.2.2.2.1 _ h1 h2 h3), hbg_125.2.2.2.2.2.2.2.2.2.2.2.2.1.up (fun h1 h2 h3 => by rw [ex_123]; exact hbg_122.2.2.2.2.2.2.2.2.2.2.2.2.1 _ h1 h2 h3), hbg_125.2.2.2.2.2.2.2.2.2.2.2.2.2.1.up (fun h1 h2 h3 => by rw [ex_123]; exact hbg_122.2.2.2.2.2.2.2.2.2.2.2.2.2.1 _ h1 h2 h3), hbg_125.2.2.2.2.2.2.2.2.2.2.2.2.2.2.1.up (fun h1 h2 h3 => by rw [ex_123]; exact hbg_122.2.2.2.2.2.2.2.2.2.2.2.2.2.2.1 _ h1 h2 h3), hbg_125.2.2.2.2.2.2.2.2.2.2.2.2.2.2.2.up (fun h1 h2 h3 => by rw [ex_123]; exact hbg_122.2.2.2.2.2.2.2.2.2.2.2.2.2.2.2 _ h1 h2 h3)⟩)
              have hfo_128 : f_127 o0 = .inr (12, [.ref a_2, .ref a_3, .ref a_4, .int v_5, .ref a_6, .int v_7, .int v_8, .int v_9, .int v_10, .int v_11, .int v_12, .int v_13, .int v_14, .int v_15, .int v_16, .ref a_17, .ref a_18, .ref a_19, .ref a_20, .ref a_21, .ref a_22, .ref a_23, .ref a_24, .int v_25, .int v_26, .int v_27, .int v_28, .int v_29, .ref a_30, .int v_31, .ref a_32, .ref a_33, .int v_34, .int v_35, .ref a_36, .int v_37, .ref a_38, .ref a_39, .int v_40, .int v_41, .ref a_42, .ref a_43, .ref a_44, .int v_45, .ref a_46, .ref a_47, .ref a_48, .ref a_49, .ref a_50, .ref a_51, .ref a_52, .ref a_53, .ref a_54, .int v_55, .int v_56, .ref a_57]) := by rw [ef_127, up_ne (kd_ne ka_2 ko0 (by decide))]; exact hfo_115
              have hfo_129 : f_127 a_4 = .inl (cI, 1560, .inl g_122) := by rw [ef_127, up_ne (kd_ne ka_2 ka_4 (by decide))]; exact hfo_121
              have hfr0 : ∀ b, kd b ≠ 12 → kd b ≠ 575 → kd b ≠ 577 → f_127 b = f b := fun b q12 q575 q577 => (congrFun ef_127 b).trans ((up_ne (fun e9 => q575 (by rw [e9]; exact ka_2))).trans (hfr0 b q12 q575 q577))
              have hrA12 : ∀ b, kd b = 12 → ∀ j, fldR (f_127 b) j = fldR (f b) j := fun b kb j => (congrArg (fun x => fldR x j) ((congrFun ef_127 b).trans (up_ne (kd_ne ka_2 kb (by decide))))).trans (hrA12 b kb j)
              have hfA12 : ∀ b, kd b = 12 → ∀ j, j ≠ 3 → fldI (f_127 b) j = fldI (f b) j := fun b kb j n3 => (congrArg (fun x => fldI x j) ((congrFun ef_127 b).trans (up_ne (kd_ne ka_2 kb (by decide))))).trans (hfA12 b kb j n3)
              have hfo_130 : f_127 a_2 = .inl (cI, 1560, .inl (upd g_125 (Int32.toNatClampNeg y_112) x_123)) := by rw [ef_127]; exact up_self
              obtain ⟨x_131, ex_131⟩ : ∃ y : Int32, y_112 + 1 = y := ⟨_, rfl⟩
              have hx_131 : x_131.toInt = y_112.toInt + 1 := by rw [← ex_131, ad_I (by rw [ti_1]; omega) (by rw [ti_1]; omega), ti_1]
              have bx_131 : (1 ≤ x_131.toInt ∧ x_131.toInt ≤ 1560) := by constructor <;> omega
              refine lv_iinc (v := x_131) (lv' := [(2, .int x_131), (0, .ref o0), (1, .int p1)]) hx hb dX12_image_53 hl (k := 0) rfl ex_131 (by decide) rfl (fun ls hl => ?_)
              refine lv_goto (tgt := 15) hx hb dX12_image_56 (by decide) ?_
              exact ih_hloop_111 x_131 (by constructor <;> omega) f_127 hG _ _ hP hS hD hfr0 hrA12 hfA12 hfo_128 (by omega) ls (lv_sub hl [0, 1, 2] rfl)
            · skip
              rw [← Int32.toInt_inj, ti_0] at c_120
              exfalso
              omega
      exact hloop_111 1561 0 (by decide) f hG _ _ hP hS hD hfr0 hrA12 hfA12 hfo_1 (by (try rw [ti_0]) <;> omega) ls hl
    · skip
      rw [← Int32.toInt_inj, ti_0] at c_95
      refine lv_iconst (v := 0) hx hb dX12_image_11 (by decide) ?_
      exact W.zret (v := 0) (ty := .boolean) hx hb hr rfl (fun t ht hW => ⟨⟨0, f, rfl, ⟨hG, (by decide), hfr0, hrA12, hfA12, (by intro w3 z3 e3 d3; rw [hfo_1] at e3; rw [hfo_1] at d3; obtain rfl := Option.some.inj e3; obtain rfl := Option.some.inj d3; (try rw [ti_0]) <;> omega)⟩, by rw [ht]; exact hP, va_K.moved hW.alike hK, pl_in hD⟩, hS.F ht⟩) hS.2.2 dX12_image_12
