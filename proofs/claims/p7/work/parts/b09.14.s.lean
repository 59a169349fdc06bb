set_option maxHeartbeats 8000000 in
set_option maxRecDepth 100000 in
theorem s_X12_statement_k12 (l : Launch) (D : va_G) (cI cL cZ cR cG cH : ClassId) (Z : zT) (kd : Nat → Nat) (L : List Nat) (f : Nat → va_E) (hG : GI (okc cI cL cZ cR cG cH L kd) kd L f) (o0 : Nat) (mo0 : o0 ∈ L) (ko0 : kd o0 = 12) (hxtr0 : ∀ d9, fldR (f o0) 1 = some d9 → frel kd 576 8 f d9) : mPI l D cI cL cZ cR cG cH Z yX12_statement cX12_statement 3 (some .boolean) 8 175 [.ref o0] L f (fun (r : Int32) (f9 : Nat → va_E) => GI (okc cI cL cZ cR cG cH L kd) kd L f9 ∧ (0 ≤ r.toInt ∧ r.toInt ≤ 1) ∧ (∀ b, kd b ≠ 12 → kd b ≠ 576 → f9 b = f b) ∧ (∀ b, kd b = 12 → ∀ j, fldR (f9 b) j = fldR (f b) j) ∧ (∀ b, kd b = 12 → ∀ j, j ≠ 6 → j ≠ 7 → j ≠ 8 → j ≠ 11 → j ≠ 12 → j ≠ 13 → j ≠ 14 → fldI (f9 b) j = fldI (f b) j) ∧ (∀ (w6 z6 : Int32), fldI (f o0) 6 = some w6 → fldI (f9 o0) 6 = some z6 → w6.toInt ≤ z6.toInt) ∧ (∀ d9, fldR (f9 o0) 1 = some d9 → frel kd 576 8 f9 d9)) := by
  obtain ⟨dC, dI⟩ := D
  refine Met.ofW (cc := cX12_statement) (maxL := 3) (ret := (some .boolean)) (by decide) rfl ?_
  intro p e s m args below meth c s₁ B hml hv
  obtain ⟨rfl, hP, hK, hD0, hN, hZ⟩ := hv
  have hx := B.exec
  have hb := B.bytes
  have hr := B.returns
  have hU : ∀ w ∈ wsU, w.before _ s = true := fun w h => atoms_spec (ws := wU yX12_statement cX12_statement 3 (some .boolean)) B.pre w (List.mem_cons_of_mem _ h)
  have hown : s.vm.findClass RX12 = some m.cls := findClass_of_methodNamed B.named
  have hlocks := B.notSynchronized
  have hD := pl_in hD0
  have hS : va_S (fun q => q ∈ L) s.heap s.heap [] := va_S.rf
  have hl := lv_entry ([.ref o0]) (n := 3) (Nat.le_of_ble_eq_true rfl)
  rw [lg_entry_eq]
  generalize (lg_sl ([.ref o0]) ++ List.replicate (3 - (lg_sl ([.ref o0])).length) Slot.unset).toArray = ls at hl ⊢
  have hl : lv_has ls 3 [(0, .ref o0)] := hl
  have hfr0 : ∀ b, kd b ≠ 12 → kd b ≠ 576 → f b = f b := fun _ _ _ => rfl
  have hrA12 : ∀ b, kd b = 12 → ∀ j, fldR (f b) j = fldR (f b) j := fun _ _ _ => rfl
  have hfA12 : ∀ b, kd b = 12 → ∀ j, j ≠ 6 → j ≠ 7 → j ≠ 8 → j ≠ 11 → j ≠ 12 → j ≠ 13 → j ≠ 14 → fldI (f b) j = fldI (f b) j := fun _ _ _ _ _ _ _ _ _ _ => rfl
  obtain ⟨a_2, a_3, a_4, v_5, a_6, v_7, v_8, v_9, v_10, v_11, v_12, v_13, v_14, v_15, v_16, a_17, a_18, a_19, a_20, a_21, a_22, a_23, a_24, v_25, v_26, v_27, v_28, v_29, a_30, v_31, a_32, a_33, v_34, v_35, a_36, v_37, a_38, a_39, v_40, v_41, a_42, a_43, a_44, v_45, a_46, a_47, a_48, a_49, a_50, a_51, a_52, a_53, a_54, v_55, v_56, a_57, hfo_1, ⟨ma_2, ka_2⟩, ⟨ma_3, ka_3⟩, ⟨ma_4, ka_4⟩, bv_5, ⟨ma_6, ka_6⟩, bv_7, bv_8, bv_13, bv_14, bv_15, ⟨ma_17, ka_17⟩, ⟨ma_18, ka_18⟩, ⟨ma_19, ka_19⟩, ⟨ma_20, ka_20⟩, ⟨ma_21, ka_21⟩, ⟨ma_22, ka_22⟩, ⟨ma_23, ka_23⟩, ⟨ma_24, ka_24⟩, bv_25, bv_27, bv_29, ⟨ma_30, ka_30⟩, bv_31, ⟨ma_32, ka_32⟩, ⟨ma_33, ka_33⟩, bv_34, ⟨ma_36, ka_36⟩, bv_37, ⟨ma_38, ka_38⟩, ⟨ma_39, ka_39⟩, bv_40, ⟨ma_42, ka_42⟩, ⟨ma_43, ka_43⟩, ⟨ma_44, ka_44⟩, bv_45, ⟨ma_46, ka_46⟩, ⟨ma_47, ka_47⟩, ⟨ma_48, ka_48⟩, ⟨ma_49, ka_49⟩, ⟨ma_50, ka_50⟩, ⟨ma_51, ka_51⟩, ⟨ma_52, ka_52⟩, ⟨ma_53, ka_53⟩, ⟨ma_54, ka_54⟩, bv_55, ⟨ma_57, ka_57⟩⟩ := un_12 (hG _ mo0) ko0
  have bv_9 : ((-2147483648) ≤ v_9.toInt ∧ v_9.toInt ≤ 2147483647) := ⟨i32_lo _, i32_hi _⟩
  have bv_10 : ((-2147483648) ≤ v_10.toInt ∧ v_10.toInt ≤ 2147483647) := ⟨i32_lo _, i32_hi _⟩
  have bv_11 : ((-2147483648) ≤ v_11.toInt ∧ v_11.toInt ≤ 2147483647) := ⟨i32_lo _, i32_hi _⟩
  have bv_12 : ((-2147483648) ≤ v_12.toInt ∧ v_12.toInt ≤ 2147483647) := ⟨i32_lo _, i32_hi _⟩
  have bv_16 : ((-2147483648) ≤ v_16.toInt ∧ v_16.toInt ≤ 2147483647) := ⟨i32_lo _, i32_hi _⟩
  have bv_26 : ((-2147483648) ≤ v_26.toInt ∧ v_26.toInt ≤ 2147483647) := ⟨i32_lo _, i32_hi _⟩
  have bv_28 : ((-2147483648) ≤ v_28.toInt ∧ v_28.toInt ≤ 2147483647) := ⟨i32_lo _, i32_hi _⟩
  have bv_35 : ((-2147483648) ≤ v_35.toInt ∧ v_35.toInt ≤ 2147483647) := ⟨i32_lo _, i32_hi _⟩
  have bv_41 : ((-2147483648) ≤ v_41.toInt ∧ v_41.toInt ≤ 2147483647) := ⟨i32_lo _, i32_hi _⟩
  have bv_56 : ((-2147483648) ≤ v_56.toInt ∧ v_56.toInt ≤ 2147483647) := ⟨i32_lo _, i32_hi _⟩
  have hT0 := hxtr0 a_3 (by rw [hfo_1]; rfl)
  have hM : ∀ z9, fldI (f o0) 6 = some z9 → v_8.toInt ≤ z9.toInt := fun z9 h9 => by rw [hfo_1] at h9; obtain rfl := Option.some.inj h9; exact Int.le_refl _
  refine lv_aload_n hx hb dX12_statement_0 rfl (lv_at hl 0 rfl) ?_
  refine tk_getP (D := (dC, dI)) (ci := 12) (v := .int v_8) (C := RX12) (T := TX12) (N := 56) hx hb hU inlX12 hown hK hP mo0 hfo_1 rfl 6 (by decide) (hU _ wd_566) (fun _ h9 => h9) rfl dX12_statement_1 ?_
  refine lv_istore_n (lv' := [(1, .int v_8), (0, .ref o0)]) hx hb dX12_statement_4 rfl hl (by decide) rfl (fun ls hl => ?_)
  have hloop_62 : ∀ (n : Nat), ∀ (f_64 : Nat → va_E), GI (okc cI cL cZ cR cG cH L kd) kd L f_64 → ∀ (H : Heap) (locs : List Loc), va_P (dC, dI) vwCl (va_pl L f_64) H → va_S (fun q => q ∈ L) s.heap H locs → va_D (fun q => q ∈ L) (va_pl L f_64) → (∀ b, kd b ≠ 12 → kd b ≠ 576 → f_64 b = f b) → (∀ b, kd b = 12 → ∀ j, fldR (f_64 b) j = fldR (f b) j) → (∀ b, kd b = 12 → ∀ j, j ≠ 6 → j ≠ 7 → j ≠ 8 → j ≠ 11 → j ≠ 12 → j ≠ 13 → j ≠ 14 → fldI (f_64 b) j = fldI (f b) j) → frel kd 576 8 f_64 a_3 → ∀ z9, fldI (f_64 o0) 6 = some z9 → v_8.toInt ≤ z9.toInt → ∀ (whloop_62_0_6 : Int32), fldI (f_64 o0) 6 = some whloop_62_0_6 → (v_8.toInt ≤ whloop_62_0_6.toInt) → (0 ≤ whloop_62_0_6.toInt ∧ whloop_62_0_6.toInt ≤ 600) → 600 - whloop_62_0_6.toInt < (n : Int) → ∀ (ls : Array Slot), lv_has ls 3 [(1, .int v_8), (0, .ref o0)] → W p l e (headSpec (wU yX12_statement cX12_statement 3 (some .boolean)) { frames := 8, cells := 0, slots := 0, locals := 175 }).room s m [.ref o0].toArray below meth c H locs 0 0 (MQ below (va_Qi (fun (r : Int32) (f9 : Nat → va_E) => GI (okc cI cL cZ cR cG cH L kd) kd L f9 ∧ (0 ≤ r.toInt ∧ r.toInt ≤ 1) ∧ (∀ b, kd b ≠ 12 → kd b ≠ 576 → f9 b = f b) ∧ (∀ b, kd b = 12 → ∀ j, fldR (f9 b) j = fldR (f b) j) ∧ (∀ b, kd b = 12 → ∀ j, j ≠ 6 → j ≠ 7 → j ≠ 8 → j ≠ 11 → j ≠ 12 → j ≠ 13 → j ≠ 14 → fldI (f9 b) j = fldI (f b) j) ∧ (∀ (w6 z6 : Int32), fldI (f o0) 6 = some w6 → fldI (f9 o0) 6 = some z6 → w6.toInt ≤ z6.toInt) ∧ (∀ d9, fldR (f9 o0) 1 = some d9 → frel kd 576 8 f9 d9)) (qP (dC, dI) cI cL cZ cR cG cH L) (fun q => q ∈ L)) [.ref o0].toArray s 0 0 (fun q => q ∈ L)) (F0 m 5 ls []) := by
    intro n
    induction n with
    | zero => intro f_64 hG H locs hP hS hD hfr0 hrA12 hfA12 hT0 hM whloop_62_0_6 hghloop_62_0_6 hrelhloop_62_0 hrelhloop_62_1 hmuhloop_62 ls hl; exfalso; omega
    | succ n ih_hloop_62 =>
      intro f_64 hG H locs hP hS hD hfr0 hrA12 hfA12 hT0 hM whloop_62_0_6 hghloop_62_0_6 hrelhloop_62_0 hrelhloop_62_1 hmuhloop_62 ls hl
      obtain ⟨a_66, a_67, a_68, v_69, a_70, v_71, v_72, v_73, v_74, v_75, v_76, v_77, v_78, v_79, v_80, a_81, a_82, a_83, a_84, a_85, a_86, a_87, a_88, v_89, v_90, v_91, v_92, v_93, a_94, v_95, a_96, a_97, v_98, v_99, a_100, v_101, a_102, a_103, v_104, v_105, a_106, a_107, a_108, v_109, a_110, a_111, a_112, a_113, a_114, a_115, a_116, a_117, a_118, v_119, v_120, a_121, hfo_65, ⟨ma_66, ka_66⟩, ⟨ma_67, ka_67⟩, ⟨ma_68, ka_68⟩, bv_69, ⟨ma_70, ka_70⟩, bv_71, bv_72, bv_77, bv_78, bv_79, ⟨ma_81, ka_81⟩, ⟨ma_82, ka_82⟩, ⟨ma_83, ka_83⟩, ⟨ma_84, ka_84⟩, ⟨ma_85, ka_85⟩, ⟨ma_86, ka_86⟩, ⟨ma_87, ka_87⟩, ⟨ma_88, ka_88⟩, bv_89, bv_91, bv_93, ⟨ma_94, ka_94⟩, bv_95, ⟨ma_96, ka_96⟩, ⟨ma_97, ka_97⟩, bv_98, ⟨ma_100, ka_100⟩, bv_101, ⟨ma_102, ka_102⟩, ⟨ma_103, ka_103⟩, bv_104, ⟨ma_106, ka_106⟩, ⟨ma_107, ka_107⟩, ⟨ma_108, ka_108⟩, bv_109, ⟨ma_110, ka_110⟩, ⟨ma_111, ka_111⟩, ⟨ma_112, ka_112⟩, ⟨ma_113, ka_113⟩, ⟨ma_114, ka_114⟩, ⟨ma_115, ka_115⟩, ⟨ma_116, ka_116⟩, ⟨ma_117, ka_117⟩, ⟨ma_118, ka_118⟩, bv_119, ⟨ma_121, ka_121⟩⟩ := un_12 (hG _ mo0) ko0
      have bv_73 : ((-2147483648) ≤ v_73.toInt ∧ v_73.toInt ≤ 2147483647) := ⟨i32_lo _, i32_hi _⟩
      have bv_74 : ((-2147483648) ≤ v_74.toInt ∧ v_74.toInt ≤ 2147483647) := ⟨i32_lo _, i32_hi _⟩
      have bv_75 : ((-2147483648) ≤ v_75.toInt ∧ v_75.toInt ≤ 2147483647) := ⟨i32_lo _, i32_hi _⟩
      have bv_76 : ((-2147483648) ≤ v_76.toInt ∧ v_76.toInt ≤ 2147483647) := ⟨i32_lo _, i32_hi _⟩
      have bv_80 : ((-2147483648) ≤ v_80.toInt ∧ v_80.toInt ≤ 2147483647) := ⟨i32_lo _, i32_hi _⟩
      have bv_90 : ((-2147483648) ≤ v_90.toInt ∧ v_90.toInt ≤ 2147483647) := ⟨i32_lo _, i32_hi _⟩
      have bv_92 : ((-2147483648) ≤ v_92.toInt ∧ v_92.toInt ≤ 2147483647) := ⟨i32_lo _, i32_hi _⟩
      have bv_99 : ((-2147483648) ≤ v_99.toInt ∧ v_99.toInt ≤ 2147483647) := ⟨i32_lo _, i32_hi _⟩
      have bv_105 : ((-2147483648) ≤ v_105.toInt ∧ v_105.toInt ≤ 2147483647) := ⟨i32_lo _, i32_hi _⟩
      have bv_120 : ((-2147483648) ≤ v_120.toInt ∧ v_120.toInt ≤ 2147483647) := ⟨i32_lo _, i32_hi _⟩
      obtain ⟨rfl, rfl, rfl, rfl, rfl, rfl, rfl, rfl, rfl, rfl, rfl, rfl, rfl, rfl, rfl, rfl, rfl, rfl, rfl, rfl, rfl, rfl, rfl, rfl, rfl, rfl, rfl, rfl, rfl, rfl, rfl⟩ := re_12 hfo_1 hfo_65 (hrA12 o0 ko0)
      obtain rfl := ri_12_3 hfo_1 hfo_65 (hfA12 o0 ko0 3 (by decide) (by decide) (by decide) (by decide) (by decide) (by decide) (by decide))
      obtain rfl := ri_12_5 hfo_1 hfo_65 (hfA12 o0 ko0 5 (by decide) (by decide) (by decide) (by decide) (by decide) (by decide) (by decide))
      obtain rfl := ri_12_23 hfo_1 hfo_65 (hfA12 o0 ko0 23 (by decide) (by decide) (by decide) (by decide) (by decide) (by decide) (by decide))
      obtain rfl := ri_12_25 hfo_1 hfo_65 (hfA12 o0 ko0 25 (by decide) (by decide) (by decide) (by decide) (by decide) (by decide) (by decide))
      obtain rfl := ri_12_27 hfo_1 hfo_65 (hfA12 o0 ko0 27 (by decide) (by decide) (by decide) (by decide) (by decide) (by decide) (by decide))
      obtain rfl := ri_12_29 hfo_1 hfo_65 (hfA12 o0 ko0 29 (by decide) (by decide) (by decide) (by decide) (by decide) (by decide) (by decide))
      obtain rfl := ri_12_32 hfo_1 hfo_65 (hfA12 o0 ko0 32 (by decide) (by decide) (by decide) (by decide) (by decide) (by decide) (by decide))
      obtain rfl := ri_12_33 hfo_1 hfo_65 (hfA12 o0 ko0 33 (by decide) (by decide) (by decide) (by decide) (by decide) (by decide) (by decide))
      obtain rfl := ri_12_35 hfo_1 hfo_65 (hfA12 o0 ko0 35 (by decide) (by decide) (by decide) (by decide) (by decide) (by decide) (by decide))
      obtain rfl := ri_12_38 hfo_1 hfo_65 (hfA12 o0 ko0 38 (by decide) (by decide) (by decide) (by decide) (by decide) (by decide) (by decide))
      obtain rfl := ri_12_43 hfo_1 hfo_65 (hfA12 o0 ko0 43 (by decide) (by decide) (by decide) (by decide) (by decide) (by decide) (by decide))
      obtain rfl := ri_12_53 hfo_1 hfo_65 (hfA12 o0 ko0 53 (by decide) (by decide) (by decide) (by decide) (by decide) (by decide) (by decide))
      obtain rfl : v_72 = whloop_62_0_6 := by rw [hfo_65] at hghloop_62_0_6; exact Option.some.inj hghloop_62_0_6
      refine lv_aload_n hx hb dX12_statement_5 rfl (lv_at hl 1 rfl) ?_
      refine lv_aload_n hx hb dX12_statement_6 rfl (lv_at hl 1 rfl) ?_
      refine tk_getP (D := (dC, dI)) (ci := 12) (v := .int v_72) (C := RX12) (T := TX12) (N := 56) hx hb hU inlX12 hown hK hP mo0 hfo_65 rfl 6 (by decide) (hU _ wd_566) (fun _ h9 => h9) rfl dX12_statement_7 ?_
      refine tk_ViP (As := [.int v_72]) (rest := []) (n := 1) hx hb hml hown hU hN hZ (s_X12_see_k12 l (dC, dI) cI cL cZ cR cG cH Z kd L f_64 hG o0 mo0 ko0 v_72 (by constructor <;> omega)) wd_581 wd_582 wd_583 wd_5 wd_584 (by decide +kernel) ⟨Nat.le_of_ble_eq_true rfl, Nat.le_of_ble_eq_true rfl⟩ hK hP hD hS mo0 hfo_65 12 rfl rfl rfl hl.1 rfl (Nat.le_of_ble_eq_true rfl) dX12_statement_10 ⟨Nat.le_of_ble_eq_true rfl, Nat.le_of_ble_eq_true rfl⟩ (fun x_122 f_123 H locs hw hP hD hS => ?_)
      obtain ⟨rfl, bx_122, hxp_124⟩ := hw
      have hsex_122 := hxp_124 v_7 (by rw [hfo_65]; rfl)
      refine tk_SiP (As := [.int x_122]) (rest := []) (n := 1) hx hb hml hown hU hN hZ (s_X12_isSmall l (dC, dI) cI cL cZ cR cG cH Z kd L f_64 hG x_122) wd_589 wd_590 wd_5 wd_591 (by decide +kernel) ⟨Nat.le_of_ble_eq_true rfl, Nat.le_of_ble_eq_true rfl⟩ hK hP hD hS rfl hl.1 rfl (Nat.le_of_ble_eq_true rfl) dX12_statement_13 ⟨Nat.le_of_ble_eq_true rfl, Nat.le_of_ble_eq_true rfl⟩ (fun x_126 f_127 H locs hw hP hD hS => ?_)
      obtain ⟨rfl, bx_126, relx_126⟩ := hw
      refine lv_if_eq (tgt := 32) hx hb dX12_statement_16 (by decide) (fun c_129 => ?_) (fun c_129 => ?_)
      · skip
        rw [← Int32.toInt_inj, ti_0] at c_129
        refine lv_aload_n hx hb dX12_statement_32 rfl (lv_at hl 1 rfl) ?_
        refine tk_getP (D := (dC, dI)) (ci := 12) (v := .int v_72) (C := RX12) (T := TX12) (N := 56) hx hb hU inlX12 hown hK hP mo0 hfo_65 rfl 6 (by decide) (hU _ wd_566) (fun _ h9 => h9) rfl dX12_statement_33 ?_
        refine lv_istore_n (lv' := [(2, .int v_72), (1, .int v_8), (0, .ref o0)]) hx hb dX12_statement_36 rfl hl (by decide) rfl (fun ls hl => ?_)
        refine lv_aload_n hx hb dX12_statement_37 rfl (lv_at hl 2 rfl) ?_
        refine lv_iload_n hx hb dX12_statement_38 rfl (lv_at hl 1 rfl) ?_
        refine lv_iload_n hx hb dX12_statement_39 rfl (lv_at hl 0 rfl) ?_
        refine va_ldcS hx hb hown hZ.2.2.2.2.2.2.2.2.2.2.2.2.2.2.2.1 dX12_statement_40 ?_
        refine tk_ViP (As := [.int v_8, .int v_72, .ref (Z.1 0)]) (rest := []) (n := 3) hx hb hml hown hU hN hZ (s_X12_is_k12 l (dC, dI) cI cL cZ cR cG cH Z kd L f_64 hG o0 mo0 ko0 v_8 (by constructor <;> omega) v_72 (by constructor <;> omega) 0 (by decide)) wd_592 wd_593 wd_594 wd_5 wd_595 (by decide +kernel) ⟨Nat.le_of_ble_eq_true rfl, Nat.le_of_ble_eq_true rfl⟩ hK hP hD hS mo0 hfo_65 12 rfl rfl rfl hl.1 rfl (Nat.le_of_ble_eq_true rfl) dX12_statement_42 ⟨Nat.le_of_ble_eq_true rfl, Nat.le_of_ble_eq_true rfl⟩ (fun x_130 f_131 H locs hw hP hD hS => ?_)
        obtain ⟨rfl, bx_130⟩ := hw
        refine lv_if_eq (tgt := 53) hx hb dX12_statement_45 (by decide) (fun c_133 => ?_) (fun c_133 => ?_)
        · skip
          rw [← Int32.toInt_inj, ti_0] at c_133
          refine lv_aload_n hx hb dX12_statement_53 rfl (lv_at hl 2 rfl) ?_
          refine lv_iload_n hx hb dX12_statement_54 rfl (lv_at hl 1 rfl) ?_
          refine lv_iload_n hx hb dX12_statement_55 rfl (lv_at hl 0 rfl) ?_
          refine va_ldcS hx hb hown hZ.2.2.2.2.2.2.2.2.2.2.2.2.2.2.2.2.1 dX12_statement_56 ?_
          refine tk_ViP (As := [.int v_8, .int v_72, .ref (Z.1 1)]) (rest := []) (n := 3) hx hb hml hown hU hN hZ (s_X12_is_k12 l (dC, dI) cI cL cZ cR cG cH Z kd L f_64 hG o0 mo0 ko0 v_8 (by constructor <;> omega) v_72 (by constructor <;> omega) 1 (by decide)) wd_592 wd_593 wd_594 wd_5 wd_595 (by decide +kernel) ⟨Nat.le_of_ble_eq_true rfl, Nat.le_of_ble_eq_true rfl⟩ hK hP hD hS mo0 hfo_65 12 rfl rfl rfl hl.1 rfl (Nat.le_of_ble_eq_true rfl) dX12_statement_58 ⟨Nat.le_of_ble_eq_true rfl, Nat.le_of_ble_eq_true rfl⟩ (fun x_134 f_135 H locs hw hP hD hS => ?_)
          obtain ⟨rfl, bx_134⟩ := hw
          refine lv_if_eq (tgt := 69) hx hb dX12_statement_61 (by decide) (fun c_137 => ?_) (fun c_137 => ?_)
          · skip
            rw [← Int32.toInt_inj, ti_0] at c_137
            refine lv_aload_n hx hb dX12_statement_69 rfl (lv_at hl 2 rfl) ?_
            refine lv_iload_n hx hb dX12_statement_70 rfl (lv_at hl 1 rfl) ?_
            refine lv_iload_n hx hb dX12_statement_71 rfl (lv_at hl 0 rfl) ?_
            refine va_ldcS hx hb hown hZ.2.2.2.2.2.2.2.2.2.2.2.2.2.2.2.2.2.1 dX12_statement_72 ?_
            refine tk_ViP (As := [.int v_8, .int v_72, .ref (Z.1 2)]) (rest := []) (n := 3) hx hb hml hown hU hN hZ (s_X12_is_k12 l (dC, dI) cI cL cZ cR cG cH Z kd L f_64 hG o0 mo0 ko0 v_8 (by constructor <;> omega) v_72 (by constructor <;> omega) 2 (by decide)) wd_592 wd_593 wd_594 wd_5 wd_595 (by decide +kernel) ⟨Nat.le_of_ble_eq_true rfl, Nat.le_of_ble_eq_true rfl⟩ hK hP hD hS mo0 hfo_65 12 rfl rfl rfl hl.1 rfl (Nat.le_of_ble_eq_true rfl) dX12_statement_74 ⟨Nat.le_of_ble_eq_true rfl, Nat.le_of_ble_eq_true rfl⟩ (fun x_138 f_139 H locs hw hP hD hS => ?_)
            obtain ⟨rfl, bx_138⟩ := hw
            refine lv_if_eq (tgt := 85) hx hb dX12_statement_77 (by decide) (fun c_141 => ?_) (fun c_141 => ?_)
            · skip
              rw [← Int32.toInt_inj, ti_0] at c_141
              refine lv_aload_n hx hb dX12_statement_85 rfl (lv_at hl 2 rfl) ?_
              refine lv_iload_n hx hb dX12_statement_86 rfl (lv_at hl 1 rfl) ?_
              refine lv_iload_n hx hb dX12_statement_87 rfl (lv_at hl 0 rfl) ?_
              refine va_ldcS hx hb hown hZ.2.2.2.2.2.2.2.2.2.2.2.2.2.2.2.2.2.2.1 dX12_statement_88 ?_
              refine tk_ViP (As := [.int v_8, .int v_72, .ref (Z.1 3)]) (rest := []) (n := 3) hx hb hml hown hU hN hZ (s_X12_is_k12 l (dC, dI) cI cL cZ cR cG cH Z kd L f_64 hG o0 mo0 ko0 v_8 (by constructor <;> omega) v_72 (by constructor <;> omega) 3 (by decide)) wd_592 wd_593 wd_594 wd_5 wd_595 (by decide +kernel) ⟨Nat.le_of_ble_eq_true rfl, Nat.le_of_ble_eq_true rfl⟩ hK hP hD hS mo0 hfo_65 12 rfl rfl rfl hl.1 rfl (Nat.le_of_ble_eq_true rfl) dX12_statement_90 ⟨Nat.le_of_ble_eq_true rfl, Nat.le_of_ble_eq_true rfl⟩ (fun x_142 f_143 H locs hw hP hD hS => ?_)
              obtain ⟨rfl, bx_142⟩ := hw
              refine lv_if_eq (tgt := 122) hx hb dX12_statement_93 (by decide) (fun c_145 => ?_) (fun c_145 => ?_)
              · skip
                rw [← Int32.toInt_inj, ti_0] at c_145
                refine lv_aload_n hx hb dX12_statement_122 rfl (lv_at hl 2 rfl) ?_
                refine lv_iload_n hx hb dX12_statement_123 rfl (lv_at hl 1 rfl) ?_
                refine lv_iload_n hx hb dX12_statement_124 rfl (lv_at hl 0 rfl) ?_
                refine va_ldcS hx hb hown hZ.2.2.2.2.2.2.2.2.2.2.2.2.2.2.2.2.2.2.2.1 dX12_statement_125 ?_
                refine tk_ViP (As := [.int v_8, .int v_72, .ref (Z.1 4)]) (rest := []) (n := 3) hx hb hml hown hU hN hZ (s_X12_is_k12 l (dC, dI) cI cL cZ cR cG cH Z kd L f_64 hG o0 mo0 ko0 v_8 (by constructor <;> omega) v_72 (by constructor <;> omega) 4 (by decide)) wd_592 wd_593 wd_594 wd_5 wd_595 (by decide +kernel) ⟨Nat.le_of_ble_eq_true rfl, Nat.le_of_ble_eq_true rfl⟩ hK hP hD hS mo0 hfo_65 12 rfl rfl rfl hl.1 rfl (Nat.le_of_ble_eq_true rfl) dX12_statement_127 ⟨Nat.le_of_ble_eq_true rfl, Nat.le_of_ble_eq_true rfl⟩ (fun x_146 f_147 H locs hw hP hD hS => ?_)
                obtain ⟨rfl, bx_146⟩ := hw
                refine lv_if_eq (tgt := 184) hx hb dX12_statement_130 (by decide) (fun c_149 => ?_) (fun c_149 => ?_)
                · skip
                  rw [← Int32.toInt_inj, ti_0] at c_149
                  refine lv_aload_n hx hb dX12_statement_184 rfl (lv_at hl 2 rfl) ?_
                  refine lv_iload_n hx hb dX12_statement_185 rfl (lv_at hl 1 rfl) ?_
                  refine lv_iload_n hx hb dX12_statement_186 rfl (lv_at hl 0 rfl) ?_
                  refine va_ldcS hx hb hown hZ.2.2.2.2.2.2.2.2.2.2.2.2.2.2.2.2.2.2.2.2 dX12_statement_187 ?_
                  refine tk_ViP (As := [.int v_8, .int v_72, .ref (Z.1 5)]) (rest := []) (n := 3) hx hb hml hown hU hN hZ (s_X12_is_k12 l (dC, dI) cI cL cZ cR cG cH Z kd L f_64 hG o0 mo0 ko0 v_8 (by constructor <;> omega) v_72 (by constructor <;> omega) 5 (by decide)) wd_592 wd_593 wd_594 wd_5 wd_595 (by decide +kernel) ⟨Nat.le_of_ble_eq_true rfl, Nat.le_of_ble_eq_true rfl⟩ hK hP hD hS mo0 hfo_65 12 rfl rfl rfl hl.1 rfl (Nat.le_of_ble_eq_true rfl) dX12_statement_189 ⟨Nat.le_of_ble_eq_true rfl, Nat.le_of_ble_eq_true rfl⟩ (fun x_150 f_151 H locs hw hP hD hS => ?_)
                  obtain ⟨rfl, bx_150⟩ := hw
                  refine lv_if_eq (tgt := 247) hx hb dX12_statement_192 (by decide) (fun c_153 => ?_) (fun c_153 => ?_)
                  · skip
                    rw [← Int32.toInt_inj, ti_0] at c_153
                    refine lv_aload_n hx hb dX12_statement_247 rfl (lv_at hl 2 rfl) ?_
                    refine lv_iconst (v := 1) hx hb dX12_statement_248 (by decide) ?_
                    refine lv_iload_n hx hb dX12_statement_249 rfl (lv_at hl 1 rfl) ?_
                    refine tk_ViP (As := [.int 1, .int v_8]) (rest := []) (n := 2) hx hb hml hown hU hN hZ (s_X12_bad_k12 l (dC, dI) cI cL cZ cR cG cH Z kd L f_64 hG o0 mo0 ko0 1 v_8) wd_602 wd_603 wd_604 wd_5 wd_605 (by decide +kernel) ⟨Nat.le_of_ble_eq_true rfl, Nat.le_of_ble_eq_true rfl⟩ hK hP hD hS mo0 hfo_65 12 rfl rfl rfl hl.1 rfl (Nat.le_of_ble_eq_true rfl) dX12_statement_250 ⟨Nat.le_of_ble_eq_true rfl, Nat.le_of_ble_eq_true rfl⟩ (fun x_154 f_155 H locs hw hP hD hS => ?_)
                    obtain ⟨hG, bx_154, hkc_156, hra_157, hfa_158⟩ := hw
                    have hfr0 : ∀ b, kd b ≠ 12 → kd b ≠ 576 → f_155 b = f b := fun b q12 q576 => (hkc_156 b q12).trans (hfr0 b q12 q576)
                    have hrA12 : ∀ b, kd b = 12 → ∀ j, fldR (f_155 b) j = fldR (f b) j := fun b kb j => (hra_157 b kb j).trans (hrA12 b kb j)
                    have hfA12 : ∀ b, kd b = 12 → ∀ j, j ≠ 6 → j ≠ 7 → j ≠ 8 → j ≠ 11 → j ≠ 12 → j ≠ 13 → j ≠ 14 → fldI (f_155 b) j = fldI (f b) j := fun b kb j n6 n7 n8 n11 n12 n13 n14 => (hfa_158 b kb j n7 n8).trans (hfA12 b kb j n6 n7 n8 n11 n12 n13 n14)
                    have hT0 : frel kd 576 8 f_155 a_3 := hT0.keep (fun b q => hkc_156 b (by rw [q]; decide))
                    have hM : ∀ z9, fldI (f_155 o0) 6 = some z9 → v_8.toInt ≤ z9.toInt := (fun z9 h9 => hM z9 (by rw [hfa_158 o0 ko0 6 (by decide) (by decide)] at h9; exact h9))
                    obtain ⟨a_161, a_162, a_163, v_164, a_165, v_166, v_167, v_168, v_169, v_170, v_171, v_172, v_173, v_174, v_175, a_176, a_177, a_178, a_179, a_180, a_181, a_182, a_183, v_184, v_185, v_186, v_187, v_188, a_189, v_190, a_191, a_192, v_193, v_194, a_195, v_196, a_197, a_198, v_199, v_200, a_201, a_202, a_203, v_204, a_205, a_206, a_207, a_208, a_209, a_210, a_211, a_212, a_213, v_214, v_215, a_216, hfo_160, ⟨ma_161, ka_161⟩, ⟨ma_162, ka_162⟩, ⟨ma_163, ka_163⟩, bv_164, ⟨ma_165, ka_165⟩, bv_166, bv_167, bv_172, bv_173, bv_174, ⟨ma_176, ka_176⟩, ⟨ma_177, ka_177⟩, ⟨ma_178, ka_178⟩, ⟨ma_179, ka_179⟩, ⟨ma_180, ka_180⟩, ⟨ma_181, ka_181⟩, ⟨ma_182, ka_182⟩, ⟨ma_183, ka_183⟩, bv_184, bv_186, bv_188, ⟨ma_189, ka_189⟩, bv_190, ⟨ma_191, ka_191⟩, ⟨ma_192, ka_192⟩, bv_193, ⟨ma_195, ka_195⟩, bv_196, ⟨ma_197, ka_197⟩, ⟨ma_198, ka_198⟩, bv_199, ⟨ma_201, ka_201⟩, ⟨ma_202, ka_202⟩, ⟨ma_203, ka_203⟩, bv_204, ⟨ma_205, ka_205⟩, ⟨ma_206, ka_206⟩, ⟨ma_207, ka_207⟩, ⟨ma_208, ka_208⟩, ⟨ma_209, ka_209⟩, ⟨ma_210, ka_210⟩, ⟨ma_211, ka_211⟩, ⟨ma_212, ka_212⟩, ⟨ma_213, ka_213⟩, bv_214, ⟨ma_216, ka_216⟩⟩ := un_12 (hG _ mo0) ko0
                    have bv_168 : ((-2147483648) ≤ v_168.toInt ∧ v_168.toInt ≤ 2147483647) := ⟨i32_lo _, i32_hi _⟩
                    have bv_169 : ((-2147483648) ≤ v_169.toInt ∧ v_169.toInt ≤ 2147483647) := ⟨i32_lo _, i32_hi _⟩
                    have bv_170 : ((-2147483648) ≤ v_170.toInt ∧ v_170.toInt ≤ 2147483647) := ⟨i32_lo _, i32_hi _⟩
                    have bv_171 : ((-2147483648) ≤ v_171.toInt ∧ v_171.toInt ≤ 2147483647) := ⟨i32_lo _, i32_hi _⟩
                    have bv_175 : ((-2147483648) ≤ v_175.toInt ∧ v_175.toInt ≤ 2147483647) := ⟨i32_lo _, i32_hi _⟩
                    have bv_185 : ((-2147483648) ≤ v_185.toInt ∧ v_185.toInt ≤ 2147483647) := ⟨i32_lo _, i32_hi _⟩
                    have bv_187 : ((-2147483648) ≤ v_187.toInt ∧ v_187.toInt ≤ 2147483647) := ⟨i32_lo _, i32_hi _⟩
                    have bv_194 : ((-2147483648) ≤ v_194.toInt ∧ v_194.toInt ≤ 2147483647) := ⟨i32_lo _, i32_hi _⟩
                    have bv_200 : ((-2147483648) ≤ v_200.toInt ∧ v_200.toInt ≤ 2147483647) := ⟨i32_lo _, i32_hi _⟩
                    have bv_215 : ((-2147483648) ≤ v_215.toInt ∧ v_215.toInt ≤ 2147483647) := ⟨i32_lo _, i32_hi _⟩
                    obtain ⟨rfl, rfl, rfl, rfl, rfl, rfl, rfl, rfl, rfl, rfl, rfl, rfl, rfl, rfl, rfl, rfl, rfl, rfl, rfl, rfl, rfl, rfl, rfl, rfl, rfl, rfl, rfl, rfl, rfl, rfl, rfl⟩ := re_12 hfo_1 hfo_160 (hrA12 o0 ko0)
                    obtain rfl := ri_12_3 hfo_1 hfo_160 (hfA12 o0 ko0 3 (by decide) (by decide) (by decide) (by decide) (by decide) (by decide) (by decide))
                    obtain rfl := ri_12_5 hfo_1 hfo_160 (hfA12 o0 ko0 5 (by decide) (by decide) (by decide) (by decide) (by decide) (by decide) (by decide))
                    obtain rfl := ri_12_23 hfo_1 hfo_160 (hfA12 o0 ko0 23 (by decide) (by decide) (by decide) (by decide) (by decide) (by decide) (by decide))
                    obtain rfl := ri_12_25 hfo_1 hfo_160 (hfA12 o0 ko0 25 (by decide) (by decide) (by decide) (by decide) (by decide) (by decide) (by decide))
                    obtain rfl := ri_12_27 hfo_1 hfo_160 (hfA12 o0 ko0 27 (by decide) (by decide) (by decide) (by decide) (by decide) (by decide) (by decide))
                    obtain rfl := ri_12_29 hfo_1 hfo_160 (hfA12 o0 ko0 29 (by decide) (by decide) (by decide) (by decide) (by decide) (by decide) (by decide))
                    obtain rfl := ri_12_32 hfo_1 hfo_160 (hfA12 o0 ko0 32 (by decide) (by decide) (by decide) (by decide) (by decide) (by decide) (by decide))
                    obtain rfl := ri_12_33 hfo_1 hfo_160 (hfA12 o0 ko0 33 (by decide) (by decide) (by decide) (by decide) (by decide) (by decide) (by decide))
                    obtain rfl := ri_12_35 hfo_1 hfo_160 (hfA12 o0 ko0 35 (by decide) (by decide) (by decide) (by decide) (by decide) (by decide) (by decide))
                    obtain rfl := ri_12_38 hfo_1 hfo_160 (hfA12 o0 ko0 38 (by decide) (by decide) (by decide) (by decide) (by decide) (by decide) (by decide))
                    obtain rfl := ri_12_43 hfo_1 hfo_160 (hfA12 o0 ko0 43 (by decide) (by decide) (by decide) (by decide) (by decide) (by decide) (by decide))
                    obtain rfl := ri_12_53 hfo_1 hfo_160 (hfA12 o0 ko0 53 (by decide) (by decide) (by decide) (by decide) (by decide) (by decide) (by decide))
                    obtain rfl := ri_12_6 hfo_65 hfo_160 (hfa_158 o0 ko0 6 (by decide) (by decide))
                    obtain rfl := ri_12_11 hfo_65 hfo_160 (hfa_158 o0 ko0 11 (by decide) (by decide))
                    obtain rfl := ri_12_12 hfo_65 hfo_160 (hfa_158 o0 ko0 12 (by decide) (by decide))
                    obtain rfl := ri_12_13 hfo_65 hfo_160 (hfa_158 o0 ko0 13 (by decide) (by decide))
                    obtain rfl := ri_12_14 hfo_65 hfo_160 (hfa_158 o0 ko0 14 (by decide) (by decide))
                    have hM9 := hM v_72 (by rw [hfo_160]; rfl)
                    exact W.zret (v := x_154) (ty := .boolean) hx hb hr (zb_n (by constructor <;> omega)) (fun t ht hW => ⟨⟨x_154, f_155, rfl, ⟨hG, (by constructor <;> omega), hfr0, hrA12, hfA12, (by intro w6 z6 e6 d6; rw [hfo_1] at e6; rw [hfo_160] at d6; obtain rfl := Option.some.inj e6; obtain rfl := Option.some.inj d6; omega), (fun d9 h9 => by rw [hfo_160] at h9; obtain rfl := Option.some.inj h9; exact hT0)⟩, by rw [ht]; exact hP, va_K.moved hW.alike hK, pl_in hD⟩, hS.F ht⟩) hS.2.2 dX12_statement_253
                  · skip
                    rw [← Int32.toInt_inj, ti_0] at c_153
                    refine lv_aload_n hx hb dX12_statement_195 rfl (lv_at hl 2 rfl) ?_
                    refine tk_getP (D := (dC, dI)) (ci := 12) (v := .ref a_3) (C := RX12) (T := TX12) (N := 56) hx hb hU inlX12 hown hK hP mo0 hfo_65 rfl 1 (by decide) (hU _ wd_170) (fun _ h9 => h9) rfl dX12_statement_196 ?_
                    refine lv_bipush (v := 19) hx hb dX12_statement_199 (by decide) ?_
                    obtain ⟨g_218, hfo_217, hbg_218⟩ := un_576 (hG _ ma_3) ka_3
                    refine tk_ildP hx hb hK hP 0 ma_3 hfo_217 rfl (vp_in_nI (n := 19) (by decide) (by decide)) dX12_statement_201 ?_
                    refine lv_topi (fun x_219 ex_219 => ?_)
                    have bx_219 : (0 ≤ x_219.toInt ∧ x_219.toInt ≤ 8) := by rw [ex_219]; exact hbg_218.2.2.2.2.1 _ (by decide) (by decide) (by decide)
                    refine lv_bipush (v := 8) hx hb dX12_statement_202 (by decide) ?_
                    refine lv_icmp_ne (tgt := 214) hx hb dX12_statement_204 (by decide) (fun c_220 => ?_) (fun c_220 => ?_)
                    · skip
                      rw [← Int32.toInt_inj, ti_8] at c_220
                      refine lv_aload_n hx hb dX12_statement_214 rfl (lv_at hl 2 rfl) ?_
                      refine tk_getP (D := (dC, dI)) (ci := 12) (v := .ref a_3) (C := RX12) (T := TX12) (N := 56) hx hb hU inlX12 hown hK hP mo0 hfo_65 rfl 1 (by decide) (hU _ wd_170) (fun _ h9 => h9) rfl dX12_statement_215 ?_
                      refine lv_bipush (v := 19) hx hb dX12_statement_218 (by decide) ?_
                      refine lv_dup2_11 hx hb dX12_statement_220 rfl rfl ?_
                      refine tk_ildP hx hb hK hP 0 ma_3 hfo_217 rfl (vp_in_nI (n := 19) (by decide) (by decide)) dX12_statement_221 ?_
                      refine tk_topi (y := x_219) ex_219.symm ?_
                      refine lv_iconst (v := 1) hx hb dX12_statement_222 (by decide) ?_
                      refine lv_iadd hx hb dX12_statement_223 ?_
                      refine lv_topi (fun x_221 ex_221 => ?_)
                      have hx_221 : x_221.toInt = x_219.toInt + 1 := by rw [ex_221, ad_I (by rw [ti_1]; omega) (by rw [ti_1]; omega), ti_1]
                      have bx_221 : (1 ≤ x_221.toInt ∧ x_221.toInt ≤ 8) := by constructor <;> omega
                      refine tk_istP hx hb hK hP hD hS 0 ma_3 hfo_217 rfl (vp_in_nI (n := 19) (by decide) (by decide)) dX12_statement_224 (fun H locs hP hD hS => ?_)
                      have hc9 : ((Int32.toNatClampNeg 19 : Nat) : Int) = 19 := by decide
                      obtain ⟨g_222, eqg_222⟩ : ∃ y : Nat → Int32, y = upd g_218 (Int32.toNatClampNeg 19) x_221 := ⟨_, rfl⟩
                      rw [← eqg_222] at hP hD
                      have hbg_222 : wOK g_222 := by rw [eqg_222]; exact ⟨hbg_218.1.up (fun h1 h2 h3 => by exfalso; omega), hbg_218.2.1.up (fun h1 h2 h3 => by exfalso; omega), hbg_218.2.2.1.up (fun h1 h2 h3 => by exfalso; omega), hbg_218.2.2.2.1.up (fun h1 h2 h3 => by exfalso; omega), hbg_218.2.2.2.2.1.up (fun h1 h2 h3 => by constructor <;> omega), hbg_218.2.2.2.2.2.1.up (fun h1 h2 h3 => by exfalso; omega), hbg_218.2.2.2.2.2.2.1.up (fun h1 h2 h3 => by exfalso; omega), hbg_218.2.2.2.2.2.2.2.1.up (fun h1 h2 h3 => by exfalso; omega), hbg_218.2.2.2.2.2.2.2.2.1.up (fun h1 h2 h3 => by exfalso; omega), hbg_218.2.2.2.2.2.2.2.2.2.1.up (fun h1 h2 h3 => by exfalso; omega), hbg_218.2.2.2.2.2.2.2.2.2.2.1.up (fun h1 h2 h3 => by exfalso; omega), hbg_218.2.2.2.2.2.2.2.2.2.2.2.1.up (fun h1 h2 h3 => by exfalso; omega), hbg_218.2.2.2.2.2.2.2.2.2.2.2.2.1.up (fun h1 h2 h3 => by exfalso; omega), hbg_218.2.2.2.2.2.2.2.2.2.2.2.2.2.1.up (fun h1 h2 h3 => by exfalso; omega), hbg_218.2.2.2.2.2.2.2.2.2.2.2.2.2.2.1.up (fun h1 h2 h3 => by exfalso; omega), hbg_218.2.2.2.2.2.2.2.2.2.2.2.2.2.2.2.up (fun h1 h2 h3 => by exfalso; omega)⟩
                      obtain ⟨f_224, ef_224⟩ : ∃ y : Nat → va_E, y = va_up f_64 a_3 (.inl (cI, 1560, .inl g_222)) := ⟨_, rfl⟩
                      have hP : va_P (dC, dI) vwCl (va_pl L f_224) H := by rw [ef_224]; exact hP
                      have hD : va_D (fun q => q ∈ L) (va_pl L f_224) := by rw [ef_224]; exact hD
                      have hG : GI (okc cI cL cZ cR cG cH L kd) kd L f_224 := by rw [ef_224]; exact hG.set a_3 (mk_576 ka_3 ⟨_, rfl, hbg_222⟩)
                      have hfo_225 : f_224 o0 = .inr (12, [.ref a_2, .ref a_3, .ref a_4, .int v_5, .ref a_6, .int v_7, .int v_72, .int v_73, .int v_74, .int v_75, .int v_76, .int v_77, .int v_78, .int v_79, .int v_80, .ref a_17, .ref a_18, .ref a_19, .ref a_20, .ref a_21, .ref a_22, .ref a_23, .ref a_24, .int v_25, .int v_90, .int v_27, .int v_92, .int v_29, .ref a_30, .int v_31, .ref a_32, .ref a_33, .int v_34, .int v_35, .ref a_36, .int v_37, .ref a_38, .ref a_39, .int v_40, .int v_105, .ref a_42, .ref a_43, .ref a_44, .int v_45, .ref a_46, .ref a_47, .ref a_48, .ref a_49, .ref a_50, .ref a_51, .ref a_52, .ref a_53, .ref a_54, .int v_55, .int v_120, .ref a_57]) := by rw [ef_224, up_ne (kd_ne ka_3 ko0 (by decide))]; exact hfo_65
                      have hfr0 : ∀ b, kd b ≠ 12 → kd b ≠ 576 → f_224 b = f b := fun b q12 q576 => (congrFun ef_224 b).trans ((up_ne (fun e9 => q576 (by rw [e9]; exact ka_3))).trans (hfr0 b q12 q576))
                      have hrA12 : ∀ b, kd b = 12 → ∀ j, fldR (f_224 b) j = fldR (f b) j := fun b kb j => (congrArg (fun x => fldR x j) ((congrFun ef_224 b).trans (up_ne (kd_ne ka_3 kb (by decide))))).trans (hrA12 b kb j)
                      have hfA12 : ∀ b, kd b = 12 → ∀ j, j ≠ 6 → j ≠ 7 → j ≠ 8 → j ≠ 11 → j ≠ 12 → j ≠ 13 → j ≠ 14 → fldI (f_224 b) j = fldI (f b) j := fun b kb j n6 n7 n8 n11 n12 n13 n14 => (congrArg (fun x => fldI x j) ((congrFun ef_224 b).trans (up_ne (kd_ne ka_3 kb (by decide))))).trans (hfA12 b kb j n6 n7 n8 n11 n12 n13 n14)
                      have hT0 : frel kd 576 8 f_224 a_3 := by rw [ef_224]; exact frel.mk ka_3 up_self (by rw [eqg_222]; exact (hT0.get hfo_217).up (hbg_218.2.1 16 (by decide) (by decide) (by decide)).2 (by omega) (by omega) (by omega) (fun h9 => by exfalso; omega))
                      have hM : ∀ z9, fldI (f_224 o0) 6 = some z9 → v_8.toInt ≤ z9.toInt := by rw [ef_224]; exact (fun z9 h9 => hM z9 (by rw [up_ne (kd_ne ka_3 ko0 (by decide))] at h9; exact h9))
                      have hfo_226 : f_224 a_3 = .inl (cI, 1560, .inl g_222) := by rw [ef_224]; exact up_self
                      have ql_227 : x_221 = g_222 (Int32.toNatClampNeg 19) := by rw [eqg_222, pk_us]
                      refine lv_aload_n hx hb dX12_statement_225 rfl (lv_at hl 2 rfl) ?_
                      refine lv_sipush (v := 156) hx hb dX12_statement_226 (by decide) ?_
                      refine lv_bipush (v := 8) hx hb dX12_statement_229 (by decide) ?_
                      refine lv_aload_n hx hb dX12_statement_231 rfl (lv_at hl 2 rfl) ?_
                      refine tk_getP (D := (dC, dI)) (ci := 12) (v := .ref a_3) (C := RX12) (T := TX12) (N := 56) hx hb hU inlX12 hown hK hP mo0 hfo_225 rfl 1 (by decide) (hU _ wd_170) (fun _ h9 => h9) rfl dX12_statement_232 ?_
                      refine lv_bipush (v := 19) hx hb dX12_statement_235 (by decide) ?_
                      refine tk_ildP hx hb hK hP 0 ma_3 hfo_226 rfl (vp_in_nI (n := 19) (by decide) (by decide)) dX12_statement_237 ?_
                      refine tk_topi (y := x_221) ql_227.symm ?_
                      refine lv_iconst (v := 1) hx hb dX12_statement_238 (by decide) ?_
                      refine lv_isub hx hb dX12_statement_239 ?_
                      refine lv_topi (fun x_228 ex_228 => ?_)
                      have hx_228 : x_228.toInt = x_221.toInt - 1 := by rw [ex_228, sb_I (by rw [ti_1]; omega) (by rw [ti_1]; omega), ti_1]
                      have bx_228 : (0 ≤ x_228.toInt ∧ x_228.toInt ≤ 7) := by constructor <;> omega
                      refine lv_imul hx hb dX12_statement_240 ?_
                      refine lv_topi (fun x_229 ex_229 => ?_)
                      have hx_229 : x_229.toInt = 8 * x_228.toInt := by rw [ex_229, ml_I (by rw [ti_8]; omega) (by rw [ti_8]; omega), ti_8]
                      have bx_229 : (0 ≤ x_229.toInt ∧ x_229.toInt ≤ 56) := by constructor <;> omega
                      refine lv_iadd hx hb dX12_statement_241 ?_
                      refine lv_topi (fun x_230 ex_230 => ?_)
                      have hx_230 : x_230.toInt = 156 + x_229.toInt := by rw [ex_230, ad_I (by rw [ti_156]; omega) (by rw [ti_156]; omega), ti_156]
                      have bx_230 : (156 ≤ x_230.toInt ∧ x_230.toInt ≤ 212) := by constructor <;> omega
                      refine lv_iconst (v := 0) hx hb dX12_statement_242 (by decide) ?_
                      refine tk_ViP (As := [.int x_230, .int 0]) (rest := []) (n := 2) hx hb hml hown hU hN hZ (s_X12_word_k12 l (dC, dI) cI cL cZ cR cG cH Z kd L f_224 hG o0 mo0 ko0 x_230 (by constructor <;> omega) 0 (by decide) (by (try rw [ti_0]) <;> omega) (fun d9 h9 => by rw [hfo_225] at h9; obtain rfl := Option.some.inj h9; exact hT0)) wd_659 wd_660 wd_661 wd_5 wd_662 (by decide +kernel) ⟨Nat.le_of_ble_eq_true rfl, Nat.le_of_ble_eq_true rfl⟩ hK hP hD hS mo0 hfo_225 12 rfl rfl rfl hl.1 rfl (Nat.le_of_ble_eq_true rfl) dX12_statement_243 ⟨Nat.le_of_ble_eq_true rfl, Nat.le_of_ble_eq_true rfl⟩ (fun x_231 f_232 H locs hw hP hD hS => ?_)
                      obtain ⟨hG, bx_231, hkc_233, hra_234, hfa_235, hpost_236, hTc_237⟩ := hw
                      have hfr0 : ∀ b, kd b ≠ 12 → kd b ≠ 576 → f_232 b = f b := fun b q12 q576 => (hkc_233 b q12 q576).trans (hfr0 b q12 q576)
                      have hrA12 : ∀ b, kd b = 12 → ∀ j, fldR (f_232 b) j = fldR (f b) j := fun b kb j => (hra_234 b kb j).trans (hrA12 b kb j)
                      have hfA12 : ∀ b, kd b = 12 → ∀ j, j ≠ 6 → j ≠ 7 → j ≠ 8 → j ≠ 11 → j ≠ 12 → j ≠ 13 → j ≠ 14 → fldI (f_232 b) j = fldI (f b) j := fun b kb j n6 n7 n8 n11 n12 n13 n14 => (hfa_235 b kb j n6 n7 n8).trans (hfA12 b kb j n6 n7 n8 n11 n12 n13 n14)
                      obtain ⟨a_240, a_241, a_242, v_243, a_244, v_245, v_246, v_247, v_248, v_249, v_250, v_251, v_252, v_253, v_254, a_255, a_256, a_257, a_258, a_259, a_260, a_261, a_262, v_263, v_264, v_265, v_266, v_267, a_268, v_269, a_270, a_271, v_272, v_273, a_274, v_275, a_276, a_277, v_278, v_279, a_280, a_281, a_282, v_283, a_284, a_285, a_286, a_287, a_288, a_289, a_290, a_291, a_292, v_293, v_294, a_295, hfo_239, ⟨ma_240, ka_240⟩, ⟨ma_241, ka_241⟩, ⟨ma_242, ka_242⟩, bv_243, ⟨ma_244, ka_244⟩, bv_245, bv_246, bv_251, bv_252, bv_253, ⟨ma_255, ka_255⟩, ⟨ma_256, ka_256⟩, ⟨ma_257, ka_257⟩, ⟨ma_258, ka_258⟩, ⟨ma_259, ka_259⟩, ⟨ma_260, ka_260⟩, ⟨ma_261, ka_261⟩, ⟨ma_262, ka_262⟩, bv_263, bv_265, bv_267, ⟨ma_268, ka_268⟩, bv_269, ⟨ma_270, ka_270⟩, ⟨ma_271, ka_271⟩, bv_272, ⟨ma_274, ka_274⟩, bv_275, ⟨ma_276, ka_276⟩, ⟨ma_277, ka_277⟩, bv_278, ⟨ma_280, ka_280⟩, ⟨ma_281, ka_281⟩, ⟨ma_282, ka_282⟩, bv_283, ⟨ma_284, ka_284⟩, ⟨ma_285, ka_285⟩, ⟨ma_286, ka_286⟩, ⟨ma_287, ka_287⟩, ⟨ma_288, ka_288⟩, ⟨ma_289, ka_289⟩, ⟨ma_290, ka_290⟩, ⟨ma_291, ka_291⟩, ⟨ma_292, ka_292⟩, bv_293, ⟨ma_295, ka_295⟩⟩ := un_12 (hG _ mo0) ko0
                      have bv_247 : ((-2147483648) ≤ v_247.toInt ∧ v_247.toInt ≤ 2147483647) := ⟨i32_lo _, i32_hi _⟩
                      have bv_248 : ((-2147483648) ≤ v_248.toInt ∧ v_248.toInt ≤ 2147483647) := ⟨i32_lo _, i32_hi _⟩
                      have bv_249 : ((-2147483648) ≤ v_249.toInt ∧ v_249.toInt ≤ 2147483647) := ⟨i32_lo _, i32_hi _⟩
                      have bv_250 : ((-2147483648) ≤ v_250.toInt ∧ v_250.toInt ≤ 2147483647) := ⟨i32_lo _, i32_hi _⟩
                      have bv_254 : ((-2147483648) ≤ v_254.toInt ∧ v_254.toInt ≤ 2147483647) := ⟨i32_lo _, i32_hi _⟩
                      have bv_264 : ((-2147483648) ≤ v_264.toInt ∧ v_264.toInt ≤ 2147483647) := ⟨i32_lo _, i32_hi _⟩
                      have bv_266 : ((-2147483648) ≤ v_266.toInt ∧ v_266.toInt ≤ 2147483647) := ⟨i32_lo _, i32_hi _⟩
                      have bv_273 : ((-2147483648) ≤ v_273.toInt ∧ v_273.toInt ≤ 2147483647) := ⟨i32_lo _, i32_hi _⟩
                      have bv_279 : ((-2147483648) ≤ v_279.toInt ∧ v_279.toInt ≤ 2147483647) := ⟨i32_lo _, i32_hi _⟩
                      have bv_294 : ((-2147483648) ≤ v_294.toInt ∧ v_294.toInt ≤ 2147483647) := ⟨i32_lo _, i32_hi _⟩
                      obtain ⟨rfl, rfl, rfl, rfl, rfl, rfl, rfl, rfl, rfl, rfl, rfl, rfl, rfl, rfl, rfl, rfl, rfl, rfl, rfl, rfl, rfl, rfl, rfl, rfl, rfl, rfl, rfl, rfl, rfl, rfl, rfl⟩ := re_12 hfo_1 hfo_239 (hrA12 o0 ko0)
                      obtain rfl := ri_12_3 hfo_1 hfo_239 (hfA12 o0 ko0 3 (by decide) (by decide) (by decide) (by decide) (by decide) (by decide) (by decide))
                      obtain rfl := ri_12_5 hfo_1 hfo_239 (hfA12 o0 ko0 5 (by decide) (by decide) (by decide) (by decide) (by decide) (by decide) (by decide))
                      obtain rfl := ri_12_23 hfo_1 hfo_239 (hfA12 o0 ko0 23 (by decide) (by decide) (by decide) (by decide) (by decide) (by decide) (by decide))
                      obtain rfl := ri_12_25 hfo_1 hfo_239 (hfA12 o0 ko0 25 (by decide) (by decide) (by decide) (by decide) (by decide) (by decide) (by decide))
                      obtain rfl := ri_12_27 hfo_1 hfo_239 (hfA12 o0 ko0 27 (by decide) (by decide) (by decide) (by decide) (by decide) (by decide) (by decide))
                      obtain rfl := ri_12_29 hfo_1 hfo_239 (hfA12 o0 ko0 29 (by decide) (by decide) (by decide) (by decide) (by decide) (by decide) (by decide))
                      obtain rfl := ri_12_32 hfo_1 hfo_239 (hfA12 o0 ko0 32 (by decide) (by decide) (by decide) (by decide) (by decide) (by decide) (by decide))
                      obtain rfl := ri_12_33 hfo_1 hfo_239 (hfA12 o0 ko0 33 (by decide) (by decide) (by decide) (by decide) (by decide) (by decide) (by decide))
                      obtain rfl := ri_12_35 hfo_1 hfo_239 (hfA12 o0 ko0 35 (by decide) (by decide) (by decide) (by decide) (by decide) (by decide) (by decide))
                      obtain rfl := ri_12_38 hfo_1 hfo_239 (hfA12 o0 ko0 38 (by decide) (by decide) (by decide) (by decide) (by decide) (by decide) (by decide))
                      obtain rfl := ri_12_43 hfo_1 hfo_239 (hfA12 o0 ko0 43 (by decide) (by decide) (by decide) (by decide) (by decide) (by decide) (by decide))
                      obtain rfl := ri_12_53 hfo_1 hfo_239 (hfA12 o0 ko0 53 (by decide) (by decide) (by decide) (by decide) (by decide) (by decide) (by decide))
                      obtain rfl := ri_12_11 hfo_225 hfo_239 (hfa_235 o0 ko0 11 (by decide) (by decide) (by decide))
                      obtain rfl := ri_12_12 hfo_225 hfo_239 (hfa_235 o0 ko0 12 (by decide) (by decide) (by decide))
                      obtain rfl := ri_12_13 hfo_225 hfo_239 (hfa_235 o0 ko0 13 (by decide) (by decide) (by decide))
                      obtain rfl := ri_12_14 hfo_225 hfo_239 (hfa_235 o0 ko0 14 (by decide) (by decide) (by decide))
                      have hqhpost_236 := hpost_236 v_72 v_246 (by rw [hfo_225]; rfl) (by rw [hfo_239]; rfl)
                      try rw [ti_0] at hqhpost_236
                      have hMm_296 : ∀ z9, fldI (f_232 o0) 6 = some z9 → v_8.toInt ≤ z9.toInt := fun z9 h9 => by rw [hfo_239] at h9; obtain rfl := Option.some.inj h9; have h8 := hM v_72 (by rw [hfo_225]; rfl); omega
                      have hT_297 := hTc_237 a_3 (by rw [hfo_239]; rfl)
                      have hM9 := hMm_296 v_246 (by rw [hfo_239]; rfl)
                      exact W.zret (v := x_231) (ty := .boolean) hx hb hr (zb_n (by constructor <;> omega)) (fun t ht hW => ⟨⟨x_231, f_232, rfl, ⟨hG, (by constructor <;> omega), hfr0, hrA12, hfA12, (by intro w6 z6 e6 d6; rw [hfo_1] at e6; rw [hfo_239] at d6; obtain rfl := Option.some.inj e6; obtain rfl := Option.some.inj d6; omega), (fun d9 h9 => by rw [hfo_239] at h9; obtain rfl := Option.some.inj h9; exact hT_297)⟩, by rw [ht]; exact hP, va_K.moved hW.alike hK, pl_in hD⟩, hS.F ht⟩) hS.2.2 dX12_statement_246
                    · skip
                      rw [← Int32.toInt_inj, ti_8] at c_220
                      refine lv_aload_n hx hb dX12_statement_207 rfl (lv_at hl 2 rfl) ?_
                      refine lv_iconst (v := 3) hx hb dX12_statement_208 (by decide) ?_
                      refine lv_iload_n hx hb dX12_statement_209 rfl (lv_at hl 1 rfl) ?_
                      refine tk_ViP (As := [.int 3, .int v_8]) (rest := []) (n := 2) hx hb hml hown hU hN hZ (s_X12_bad_k12 l (dC, dI) cI cL cZ cR cG cH Z kd L f_64 hG o0 mo0 ko0 3 v_8) wd_602 wd_603 wd_604 wd_5 wd_605 (by decide +kernel) ⟨Nat.le_of_ble_eq_true rfl, Nat.le_of_ble_eq_true rfl⟩ hK hP hD hS mo0 hfo_65 12 rfl rfl rfl hl.1 rfl (Nat.le_of_ble_eq_true rfl) dX12_statement_210 ⟨Nat.le_of_ble_eq_true rfl, Nat.le_of_ble_eq_true rfl⟩ (fun x_298 f_299 H locs hw hP hD hS => ?_)
                      obtain ⟨hG, bx_298, hkc_300, hra_301, hfa_302⟩ := hw
                      have hfo_304 : f_299 a_3 = .inl (cI, 1560, .inl g_218) := by rw [hkc_300 a_3 (by rw [ka_3]; decide)]; exact hfo_217
                      have hfr0 : ∀ b, kd b ≠ 12 → kd b ≠ 576 → f_299 b = f b := fun b q12 q576 => (hkc_300 b q12).trans (hfr0 b q12 q576)
                      have hrA12 : ∀ b, kd b = 12 → ∀ j, fldR (f_299 b) j = fldR (f b) j := fun b kb j => (hra_301 b kb j).trans (hrA12 b kb j)
                      have hfA12 : ∀ b, kd b = 12 → ∀ j, j ≠ 6 → j ≠ 7 → j ≠ 8 → j ≠ 11 → j ≠ 12 → j ≠ 13 → j ≠ 14 → fldI (f_299 b) j = fldI (f b) j := fun b kb j n6 n7 n8 n11 n12 n13 n14 => (hfa_302 b kb j n7 n8).trans (hfA12 b kb j n6 n7 n8 n11 n12 n13 n14)
                      have hT0 : frel kd 576 8 f_299 a_3 := hT0.keep (fun b q => hkc_300 b (by rw [q]; decide))
                      have hM : ∀ z9, fldI (f_299 o0) 6 = some z9 → v_8.toInt ≤ z9.toInt := (fun z9 h9 => hM z9 (by rw [hfa_302 o0 ko0 6 (by decide) (by decide)] at h9; exact h9))
                      obtain ⟨a_306, a_307, a_308, v_309, a_310, v_311, v_312, v_313, v_314, v_315, v_316, v_317, v_318, v_319, v_320, a_321, a_322, a_323, a_324, a_325, a_326, a_327, a_328, v_329, v_330, v_331, v_332, v_333, a_334, v_335, a_336, a_337, v_338, v_339, a_340, v_341, a_342, a_343, v_344, v_345, a_346, a_347, a_348, v_349, a_350, a_351, a_352, a_353, a_354, a_355, a_356, a_357, a_358, v_359, v_360, a_361, hfo_305, ⟨ma_306, ka_306⟩, ⟨ma_307, ka_307⟩, ⟨ma_308, ka_308⟩, bv_309, ⟨ma_310, ka_310⟩, bv_311, bv_312, bv_317, bv_318, bv_319, ⟨ma_321, ka_321⟩, ⟨ma_322, ka_322⟩, ⟨ma_323, ka_323⟩, ⟨ma_324, ka_324⟩, ⟨ma_325, ka_325⟩, ⟨ma_326, ka_326⟩, ⟨ma_327, ka_327⟩, ⟨ma_328, ka_328⟩, bv_329, bv_331, bv_333, ⟨ma_334, ka_334⟩, bv_335, ⟨ma_336, ka_336⟩, ⟨ma_337, ka_337⟩, bv_338, ⟨ma_340, ka_340⟩, bv_341, ⟨ma_342, ka_342⟩, ⟨ma_343, ka_343⟩, bv_344, ⟨ma_346, ka_346⟩, ⟨ma_347, ka_347⟩, ⟨ma_348, ka_348⟩, bv_349, ⟨ma_350, ka_350⟩, ⟨ma_351, ka_351⟩, ⟨ma_352, ka_352⟩, ⟨ma_353, ka_353⟩, ⟨ma_354, ka_354⟩, ⟨ma_355, ka_355⟩, ⟨ma_356, ka_356⟩, ⟨ma_357, ka_357⟩, ⟨ma_358, ka_358⟩, bv_359, ⟨ma_361, ka_361⟩⟩ := un_12 (hG _ mo0) ko0
                      have bv_313 : ((-2147483648) ≤ v_313.toInt ∧ v_313.toInt ≤ 2147483647) := ⟨i32_lo _, i32_hi _⟩
                      have bv_314 : ((-2147483648) ≤ v_314.toInt ∧ v_314.toInt ≤ 2147483647) := ⟨i32_lo _, i32_hi _⟩
                      have bv_315 : ((-2147483648) ≤ v_315.toInt ∧ v_315.toInt ≤ 2147483647) := ⟨i32_lo _, i32_hi _⟩
                      have bv_316 : ((-2147483648) ≤ v_316.toInt ∧ v_316.toInt ≤ 2147483647) := ⟨i32_lo _, i32_hi _⟩
                      have bv_320 : ((-2147483648) ≤ v_320.toInt ∧ v_320.toInt ≤ 2147483647) := ⟨i32_lo _, i32_hi _⟩
                      have bv_330 : ((-2147483648) ≤ v_330.toInt ∧ v_330.toInt ≤ 2147483647) := ⟨i32_lo _, i32_hi _⟩
                      have bv_332 : ((-2147483648) ≤ v_332.toInt ∧ v_332.toInt ≤ 2147483647) := ⟨i32_lo _, i32_hi _⟩
                      have bv_339 : ((-2147483648) ≤ v_339.toInt ∧ v_339.toInt ≤ 2147483647) := ⟨i32_lo _, i32_hi _⟩
                      have bv_345 : ((-2147483648) ≤ v_345.toInt ∧ v_345.toInt ≤ 2147483647) := ⟨i32_lo _, i32_hi _⟩
                      have bv_360 : ((-2147483648) ≤ v_360.toInt ∧ v_360.toInt ≤ 2147483647) := ⟨i32_lo _, i32_hi _⟩
                      obtain ⟨rfl, rfl, rfl, rfl, rfl, rfl, rfl, rfl, rfl, rfl, rfl, rfl, rfl, rfl, rfl, rfl, rfl, rfl, rfl, rfl, rfl, rfl, rfl, rfl, rfl, rfl, rfl, rfl, rfl, rfl, rfl⟩ := re_12 hfo_1 hfo_305 (hrA12 o0 ko0)
                      obtain rfl := ri_12_3 hfo_1 hfo_305 (hfA12 o0 ko0 3 (by decide) (by decide) (by decide) (by decide) (by decide) (by decide) (by decide))
                      obtain rfl := ri_12_5 hfo_1 hfo_305 (hfA12 o0 ko0 5 (by decide) (by decide) (by decide) (by decide) (by decide) (by decide) (by decide))
                      obtain rfl := ri_12_23 hfo_1 hfo_305 (hfA12 o0 ko0 23 (by decide) (by decide) (by decide) (by decide) (by decide) (by decide) (by decide))
                      obtain rfl := ri_12_25 hfo_1 hfo_305 (hfA12 o0 ko0 25 (by decide) (by decide) (by decide) (by decide) (by decide) (by decide) (by decide))
                      obtain rfl := ri_12_27 hfo_1 hfo_305 (hfA12 o0 ko0 27 (by decide) (by decide) (by decide) (by decide) (by decide) (by decide) (by decide))
                      obtain rfl := ri_12_29 hfo_1 hfo_305 (hfA12 o0 ko0 29 (by decide) (by decide) (by decide) (by decide) (by decide) (by decide) (by decide))
                      obtain rfl := ri_12_32 hfo_1 hfo_305 (hfA12 o0 ko0 32 (by decide) (by decide) (by decide) (by decide) (by decide) (by decide) (by decide))
                      obtain rfl := ri_12_33 hfo_1 hfo_305 (hfA12 o0 ko0 33 (by decide) (by decide) (by decide) (by decide) (by decide) (by decide) (by decide))
                      obtain rfl := ri_12_35 hfo_1 hfo_305 (hfA12 o0 ko0 35 (by decide) (by decide) (by decide) (by decide) (by decide) (by decide) (by decide))
                      obtain rfl := ri_12_38 hfo_1 hfo_305 (hfA12 o0 ko0 38 (by decide) (by decide) (by decide) (by decide) (by decide) (by decide) (by decide))
                      obtain rfl := ri_12_43 hfo_1 hfo_305 (hfA12 o0 ko0 43 (by decide) (by decide) (by decide) (by decide) (by decide) (by decide) (by decide))
                      obtain rfl := ri_12_53 hfo_1 hfo_305 (hfA12 o0 ko0 53 (by decide) (by decide) (by decide) (by decide) (by decide) (by decide) (by decide))
                      obtain rfl := ri_12_6 hfo_65 hfo_305 (hfa_302 o0 ko0 6 (by decide) (by decide))
                      obtain rfl := ri_12_11 hfo_65 hfo_305 (hfa_302 o0 ko0 11 (by decide) (by decide))
                      obtain rfl := ri_12_12 hfo_65 hfo_305 (hfa_302 o0 ko0 12 (by decide) (by decide))
                      obtain rfl := ri_12_13 hfo_65 hfo_305 (hfa_302 o0 ko0 13 (by decide) (by decide))
                      obtain rfl := ri_12_14 hfo_65 hfo_305 (hfa_302 o0 ko0 14 (by decide) (by decide))
                      have hM9 := hM v_72 (by rw [hfo_305]; rfl)
                      exact W.zret (v := x_298) (ty := .boolean) hx hb hr (zb_n (by constructor <;> omega)) (fun t ht hW => ⟨⟨x_298, f_299, rfl, ⟨hG, (by constructor <;> omega), hfr0, hrA12, hfA12, (by intro w6 z6 e6 d6; rw [hfo_1] at e6; rw [hfo_305] at d6; obtain rfl := Option.some.inj e6; obtain rfl := Option.some.inj d6; omega), (fun d9 h9 => by rw [hfo_305] at h9; obtain rfl := Option.some.inj h9; exact hT0)⟩, by rw [ht]; exact hP, va_K.moved hW.alike hK, pl_in hD⟩, hS.F ht⟩) hS.2.2 dX12_statement_213
                · skip
                  rw [← Int32.toInt_inj, ti_0] at c_149
                  refine lv_aload_n hx hb dX12_statement_133 rfl (lv_at hl 2 rfl) ?_
                  refine tk_getP (D := (dC, dI)) (ci := 12) (v := .ref a_3) (C := RX12) (T := TX12) (N := 56) hx hb hU inlX12 hown hK hP mo0 hfo_65 rfl 1 (by decide) (hU _ wd_170) (fun _ h9 => h9) rfl dX12_statement_134 ?_
                  refine lv_bipush (v := 18) hx hb dX12_statement_137 (by decide) ?_
                  obtain ⟨g_363, hfo_362, hbg_363⟩ := un_576 (hG _ ma_3) ka_3
                  refine tk_ildP hx hb hK hP 0 ma_3 hfo_362 rfl (vp_in_nI (n := 18) (by decide) (by decide)) dX12_statement_139 ?_
                  refine lv_topi (fun x_364 ex_364 => ?_)
                  have bx_364 : (0 ≤ x_364.toInt ∧ x_364.toInt ≤ 12) := by rw [ex_364]; exact hbg_363.2.2.2.1 _ (by decide) (by decide) (by decide)
                  refine lv_bipush (v := 12) hx hb dX12_statement_140 (by decide) ?_
                  refine lv_icmp_ne (tgt := 152) hx hb dX12_statement_142 (by decide) (fun c_365 => ?_) (fun c_365 => ?_)
                  · skip
                    rw [← Int32.toInt_inj, ti_12] at c_365
                    refine lv_aload_n hx hb dX12_statement_152 rfl (lv_at hl 2 rfl) ?_
                    refine tk_getP (D := (dC, dI)) (ci := 12) (v := .ref a_3) (C := RX12) (T := TX12) (N := 56) hx hb hU inlX12 hown hK hP mo0 hfo_65 rfl 1 (by decide) (hU _ wd_170) (fun _ h9 => h9) rfl dX12_statement_153 ?_
                    refine lv_bipush (v := 18) hx hb dX12_statement_156 (by decide) ?_
                    refine lv_dup2_11 hx hb dX12_statement_158 rfl rfl ?_
                    refine tk_ildP hx hb hK hP 0 ma_3 hfo_362 rfl (vp_in_nI (n := 18) (by decide) (by decide)) dX12_statement_159 ?_
                    refine tk_topi (y := x_364) ex_364.symm ?_
                    refine lv_iconst (v := 1) hx hb dX12_statement_160 (by decide) ?_
                    refine lv_iadd hx hb dX12_statement_161 ?_
                    refine lv_topi (fun x_366 ex_366 => ?_)
                    have hx_366 : x_366.toInt = x_364.toInt + 1 := by rw [ex_366, ad_I (by rw [ti_1]; omega) (by rw [ti_1]; omega), ti_1]
                    have bx_366 : (1 ≤ x_366.toInt ∧ x_366.toInt ≤ 12) := by constructor <;> omega
                    refine tk_istP hx hb hK hP hD hS 0 ma_3 hfo_362 rfl (vp_in_nI (n := 18) (by decide) (by decide)) dX12_statement_162 (fun H locs hP hD hS => ?_)
                    have hc9 : ((Int32.toNatClampNeg 18 : Nat) : Int) = 18 := by decide
                    obtain ⟨g_367, eqg_367⟩ : ∃ y : Nat → Int32, y = upd g_363 (Int32.toNatClampNeg 18) x_366 := ⟨_, rfl⟩
                    rw [← eqg_367] at hP hD
                    have hbg_367 : wOK g_367 := by rw [eqg_367]; exact ⟨hbg_363.1.up (fun h1 h2 h3 => by exfalso; omega), hbg_363.2.1.up (fun h1 h2 h3 => by exfalso; omega), hbg_363.2.2.1.up (fun h1 h2 h3 => by exfalso; omega), hbg_363.2.2.2.1.up (fun h1 h2 h3 => by constructor <;> omega), hbg_363.2.2.2.2.1.up (fun h1 h2 h3 => by exfalso; omega), hbg_363.2.2.2.2.2.1.up (fun h1 h2 h3 => by exfalso; omega), hbg_363.2.2.2.2.2.2.1.up (fun h1 h2 h3 => by exfalso; omega), hbg_363.2.2.2.2.2.2.2.1.up (fun h1 h2 h3 => by exfalso; omega), hbg_363.2.2.2.2.2.2.2.2.1.up (fun h1 h2 h3 => by exfalso; omega), hbg_363.2.2.2.2.2.2.2.2.2.1.up (fun h1 h2 h3 => by exfalso; omega), hbg_363.2.2.2.2.2.2.2.2.2.2.1.up (fun h1 h2 h3 => by exfalso; omega), hbg_363.2.2.2.2.2.2.2.2.2.2.2.1.up (fun h1 h2 h3 => by exfalso; omega), hbg_363.2.2.2.2.2.2.2.2.2.2.2.2.1.up (fun h1 h2 h3 => by exfalso; omega), hbg_363.2.2.2.2.2.2.2.2.2.2.2.2.2.1.up (fun h1 h2 h3 => by exfalso; omega), hbg_363.2.2.2.2.2.2.2.2.2.2.2.2.2.2.1.up (fun h1 h2 h3 => by exfalso; omega), hbg_363.2.2.2.2.2.2.2.2.2.2.2.2.2.2.2.up (fun h1 h2 h3 => by exfalso; omega)⟩
                    obtain ⟨f_369, ef_369⟩ : ∃ y : Nat → va_E, y = va_up f_64 a_3 (.inl (cI, 1560, .inl g_367)) := ⟨_, rfl⟩
                    have hP : va_P (dC, dI) vwCl (va_pl L f_369) H := by rw [ef_369]; exact hP
                    have hD : va_D (fun q => q ∈ L) (va_pl L f_369) := by rw [ef_369]; exact hD
                    have hG : GI (okc cI cL cZ cR cG cH L kd) kd L f_369 := by rw [ef_369]; exact hG.set a_3 (mk_576 ka_3 ⟨_, rfl, hbg_367⟩)
                    have hfo_370 : f_369 o0 = .inr (12, [.ref a_2, .ref a_3, .ref a_4, .int v_5, .ref a_6, .int v_7, .int v_72, .int v_73, .int v_74, .int v_75, .int v_76, .int v_77, .int v_78, .int v_79, .int v_80, .ref a_17, .ref a_18, .ref a_19, .ref a_20, .ref a_21, .ref a_22, .ref a_23, .ref a_24, .int v_25, .int v_90, .int v_27, .int v_92, .int v_29, .ref a_30, .int v_31, .ref a_32, .ref a_33, .int v_34, .int v_35, .ref a_36, .int v_37, .ref a_38, .ref a_39, .int v_40, .int v_105, .ref a_42, .ref a_43, .ref a_44, .int v_45, .ref a_46, .ref a_47, .ref a_48, .ref a_49, .ref a_50, .ref a_51, .ref a_52, .ref a_53, .ref a_54, .int v_55, .int v_120, .ref a_57]) := by rw [ef_369, up_ne (kd_ne ka_3 ko0 (by decide))]; exact hfo_65
                    have hfr0 : ∀ b, kd b ≠ 12 → kd b ≠ 576 → f_369 b = f b := fun b q12 q576 => (congrFun ef_369 b).trans ((up_ne (fun e9 => q576 (by rw [e9]; exact ka_3))).trans (hfr0 b q12 q576))
                    have hrA12 : ∀ b, kd b = 12 → ∀ j, fldR (f_369 b) j = fldR (f b) j := fun b kb j => (congrArg (fun x => fldR x j) ((congrFun ef_369 b).trans (up_ne (kd_ne ka_3 kb (by decide))))).trans (hrA12 b kb j)
                    have hfA12 : ∀ b, kd b = 12 → ∀ j, j ≠ 6 → j ≠ 7 → j ≠ 8 → j ≠ 11 → j ≠ 12 → j ≠ 13 → j ≠ 14 → fldI (f_369 b) j = fldI (f b) j := fun b kb j n6 n7 n8 n11 n12 n13 n14 => (congrArg (fun x => fldI x j) ((congrFun ef_369 b).trans (up_ne (kd_ne ka_3 kb (by decide))))).trans (hfA12 b kb j n6 n7 n8 n11 n12 n13 n14)
                    have hT0 : frel kd 576 8 f_369 a_3 := by rw [ef_369]; exact frel.mk ka_3 up_self (by rw [eqg_367]; exact (hT0.get hfo_362).up (hbg_363.2.1 16 (by decide) (by decide) (by decide)).2 (by omega) (by omega) (by omega) (fun h9 => by exfalso; omega))
                    have hM : ∀ z9, fldI (f_369 o0) 6 = some z9 → v_8.toInt ≤ z9.toInt := by rw [ef_369]; exact (fun z9 h9 => hM z9 (by rw [up_ne (kd_ne ka_3 ko0 (by decide))] at h9; exact h9))
                    have hfo_371 : f_369 a_3 = .inl (cI, 1560, .inl g_367) := by rw [ef_369]; exact up_self
                    have ql_372 : x_366 = g_367 (Int32.toNatClampNeg 18) := by rw [eqg_367, pk_us]
                    refine lv_aload_n hx hb dX12_statement_163 rfl (lv_at hl 2 rfl) ?_
                    refine lv_bipush (v := 60) hx hb dX12_statement_164 (by decide) ?_
                    refine lv_bipush (v := 8) hx hb dX12_statement_166 (by decide) ?_
                    refine lv_aload_n hx hb dX12_statement_168 rfl (lv_at hl 2 rfl) ?_
                    refine tk_getP (D := (dC, dI)) (ci := 12) (v := .ref a_3) (C := RX12) (T := TX12) (N := 56) hx hb hU inlX12 hown hK hP mo0 hfo_370 rfl 1 (by decide) (hU _ wd_170) (fun _ h9 => h9) rfl dX12_statement_169 ?_
                    refine lv_bipush (v := 18) hx hb dX12_statement_172 (by decide) ?_
                    refine tk_ildP hx hb hK hP 0 ma_3 hfo_371 rfl (vp_in_nI (n := 18) (by decide) (by decide)) dX12_statement_174 ?_
                    refine tk_topi (y := x_366) ql_372.symm ?_
                    refine lv_iconst (v := 1) hx hb dX12_statement_175 (by decide) ?_
                    refine lv_isub hx hb dX12_statement_176 ?_
                    refine lv_topi (fun x_373 ex_373 => ?_)
                    have hx_373 : x_373.toInt = x_366.toInt - 1 := by rw [ex_373, sb_I (by rw [ti_1]; omega) (by rw [ti_1]; omega), ti_1]
                    have bx_373 : (0 ≤ x_373.toInt ∧ x_373.toInt ≤ 11) := by constructor <;> omega
                    refine lv_imul hx hb dX12_statement_177 ?_
                    refine lv_topi (fun x_374 ex_374 => ?_)
                    have hx_374 : x_374.toInt = 8 * x_373.toInt := by rw [ex_374, ml_I (by rw [ti_8]; omega) (by rw [ti_8]; omega), ti_8]
                    have bx_374 : (0 ≤ x_374.toInt ∧ x_374.toInt ≤ 88) := by constructor <;> omega
                    refine lv_iadd hx hb dX12_statement_178 ?_
                    refine lv_topi (fun x_375 ex_375 => ?_)
                    have hx_375 : x_375.toInt = 60 + x_374.toInt := by rw [ex_375, ad_I (by rw [ti_60]; omega) (by rw [ti_60]; omega), ti_60]
                    have bx_375 : (60 ≤ x_375.toInt ∧ x_375.toInt ≤ 148) := by constructor <;> omega
                    refine lv_iconst (v := 1) hx hb dX12_statement_179 (by decide) ?_
                    refine tk_ViP (As := [.int x_375, .int 1]) (rest := []) (n := 2) hx hb hml hown hU hN hZ (s_X12_word_k12 l (dC, dI) cI cL cZ cR cG cH Z kd L f_369 hG o0 mo0 ko0 x_375 (by constructor <;> omega) 1 (by decide) (by (try rw [ti_1]) <;> omega) (fun d9 h9 => by rw [hfo_370] at h9; obtain rfl := Option.some.inj h9; exact hT0)) wd_659 wd_660 wd_661 wd_5 wd_662 (by decide +kernel) ⟨Nat.le_of_ble_eq_true rfl, Nat.le_of_ble_eq_true rfl⟩ hK hP hD hS mo0 hfo_370 12 rfl rfl rfl hl.1 rfl (Nat.le_of_ble_eq_true rfl) dX12_statement_180 ⟨Nat.le_of_ble_eq_true rfl, Nat.le_of_ble_eq_true rfl⟩ (fun x_376 f_377 H locs hw hP hD hS => ?_)
                    obtain ⟨hG, bx_376, hkc_378, hra_379, hfa_380, hpost_381, hTc_382⟩ := hw
                    have hfr0 : ∀ b, kd b ≠ 12 → kd b ≠ 576 → f_377 b = f b := fun b q12 q576 => (hkc_378 b q12 q576).trans (hfr0 b q12 q576)
                    have hrA12 : ∀ b, kd b = 12 → ∀ j, fldR (f_377 b) j = fldR (f b) j := fun b kb j => (hra_379 b kb j).trans (hrA12 b kb j)
                    have hfA12 : ∀ b, kd b = 12 → ∀ j, j ≠ 6 → j ≠ 7 → j ≠ 8 → j ≠ 11 → j ≠ 12 → j ≠ 13 → j ≠ 14 → fldI (f_377 b) j = fldI (f b) j := fun b kb j n6 n7 n8 n11 n12 n13 n14 => (hfa_380 b kb j n6 n7 n8).trans (hfA12 b kb j n6 n7 n8 n11 n12 n13 n14)
                    obtain ⟨a_385, a_386, a_387, v_388, a_389, v_390, v_391, v_392, v_393, v_394, v_395, v_396, v_397, v_398, v_399, a_400, a_401, a_402, a_403, a_404, a_405, a_406, a_407, v_408, v_409, v_410, v_411, v_412, a_413, v_414, a_415, a_416, v_417, v_418, a_419, v_420, a_421, a_422, v_423, v_424, a_425, a_426, a_427, v_428, a_429, a_430, a_431, a_432, a_433, a_434, a_435, a_436, a_437, v_438, v_439, a_440, hfo_384, ⟨ma_385, ka_385⟩, ⟨ma_386, ka_386⟩, ⟨ma_387, ka_387⟩, bv_388, ⟨ma_389, ka_389⟩, bv_390, bv_391, bv_396, bv_397, bv_398, ⟨ma_400, ka_400⟩, ⟨ma_401, ka_401⟩, ⟨ma_402, ka_402⟩, ⟨ma_403, ka_403⟩, ⟨ma_404, ka_404⟩, ⟨ma_405, ka_405⟩, ⟨ma_406, ka_406⟩, ⟨ma_407, ka_407⟩, bv_408, bv_410, bv_412, ⟨ma_413, ka_413⟩, bv_414, ⟨ma_415, ka_415⟩, ⟨ma_416, ka_416⟩, bv_417, ⟨ma_419, ka_419⟩, bv_420, ⟨ma_421, ka_421⟩, ⟨ma_422, ka_422⟩, bv_423, ⟨ma_425, ka_425⟩, ⟨ma_426, ka_426⟩, ⟨ma_427, ka_427⟩, bv_428, ⟨ma_429, ka_429⟩, ⟨ma_430, ka_430⟩, ⟨ma_431, ka_431⟩, ⟨ma_432, ka_432⟩, ⟨ma_433, ka_433⟩, ⟨ma_434, ka_434⟩, ⟨ma_435, ka_435⟩, ⟨ma_436, ka_436⟩, ⟨ma_437, ka_437⟩, bv_438, ⟨ma_440, ka_440⟩⟩ := un_12 (hG _ mo0) ko0
                    have bv_392 : ((-2147483648) ≤ v_392.toInt ∧ v_392.toInt ≤ 2147483647) := ⟨i32_lo _, i32_hi _⟩
                    have bv_393 : ((-2147483648) ≤ v_393.toInt ∧ v_393.toInt ≤ 2147483647) := ⟨i32_lo _, i32_hi _⟩
                    have bv_394 : ((-2147483648) ≤ v_394.toInt ∧ v_394.toInt ≤ 2147483647) := ⟨i32_lo _, i32_hi _⟩
                    have bv_395 : ((-2147483648) ≤ v_395.toInt ∧ v_395.toInt ≤ 2147483647) := ⟨i32_lo _, i32_hi _⟩
                    have bv_399 : ((-2147483648) ≤ v_399.toInt ∧ v_399.toInt ≤ 2147483647) := ⟨i32_lo _, i32_hi _⟩
                    have bv_409 : ((-2147483648) ≤ v_409.toInt ∧ v_409.toInt ≤ 2147483647) := ⟨i32_lo _, i32_hi _⟩
                    have bv_411 : ((-2147483648) ≤ v_411.toInt ∧ v_411.toInt ≤ 2147483647) := ⟨i32_lo _, i32_hi _⟩
                    have bv_418 : ((-2147483648) ≤ v_418.toInt ∧ v_418.toInt ≤ 2147483647) := ⟨i32_lo _, i32_hi _⟩
                    have bv_424 : ((-2147483648) ≤ v_424.toInt ∧ v_424.toInt ≤ 2147483647) := ⟨i32_lo _, i32_hi _⟩
                    have bv_439 : ((-2147483648) ≤ v_439.toInt ∧ v_439.toInt ≤ 2147483647) := ⟨i32_lo _, i32_hi _⟩
                    obtain ⟨rfl, rfl, rfl, rfl, rfl, rfl, rfl, rfl, rfl, rfl, rfl, rfl, rfl, rfl, rfl, rfl, rfl, rfl, rfl, rfl, rfl, rfl, rfl, rfl, rfl, rfl, rfl, rfl, rfl, rfl, rfl⟩ := re_12 hfo_1 hfo_384 (hrA12 o0 ko0)
                    obtain rfl := ri_12_3 hfo_1 hfo_384 (hfA12 o0 ko0 3 (by decide) (by decide) (by decide) (by decide) (by decide) (by decide) (by decide))
                    obtain rfl := ri_12_5 hfo_1 hfo_384 (hfA12 o0 ko0 5 (by decide) (by decide) (by decide) (by decide) (by decide) (by decide) (by decide))
                    obtain rfl := ri_12_23 hfo_1 hfo_384 (hfA12 o0 ko0 23 (by decide) (by decide) (by decide) (by decide) (by decide) (by decide) (by decide))
                    obtain rfl := ri_12_25 hfo_1 hfo_384 (hfA12 o0 ko0 25 (by decide) (by decide) (by decide) (by decide) (by decide) (by decide) (by decide))
                    obtain rfl := ri_12_27 hfo_1 hfo_384 (hfA12 o0 ko0 27 (by decide) (by decide) (by decide) (by decide) (by decide) (by decide) (by decide))
                    obtain rfl := ri_12_29 hfo_1 hfo_384 (hfA12 o0 ko0 29 (by decide) (by decide) (by decide) (by decide) (by decide) (by decide) (by decide))
                    obtain rfl := ri_12_32 hfo_1 hfo_384 (hfA12 o0 ko0 32 (by decide) (by decide) (by decide) (by decide) (by decide) (by decide) (by decide))
                    obtain rfl := ri_12_33 hfo_1 hfo_384 (hfA12 o0 ko0 33 (by decide) (by decide) (by decide) (by decide) (by decide) (by decide) (by decide))
                    obtain rfl := ri_12_35 hfo_1 hfo_384 (hfA12 o0 ko0 35 (by decide) (by decide) (by decide) (by decide) (by decide) (by decide) (by decide))
                    obtain rfl := ri_12_38 hfo_1 hfo_384 (hfA12 o0 ko0 38 (by decide) (by decide) (by decide) (by decide) (by decide) (by decide) (by decide))
                    obtain rfl := ri_12_43 hfo_1 hfo_384 (hfA12 o0 ko0 43 (by decide) (by decide) (by decide) (by decide) (by decide) (by decide) (by decide))
                    obtain rfl := ri_12_53 hfo_1 hfo_384 (hfA12 o0 ko0 53 (by decide) (by decide) (by decide) (by decide) (by decide) (by decide) (by decide))
                    obtain rfl := ri_12_11 hfo_370 hfo_384 (hfa_380 o0 ko0 11 (by decide) (by decide) (by decide))
                    obtain rfl := ri_12_12 hfo_370 hfo_384 (hfa_380 o0 ko0 12 (by decide) (by decide) (by decide))
                    obtain rfl := ri_12_13 hfo_370 hfo_384 (hfa_380 o0 ko0 13 (by decide) (by decide) (by decide))
                    obtain rfl := ri_12_14 hfo_370 hfo_384 (hfa_380 o0 ko0 14 (by decide) (by decide) (by decide))
                    have hqhpost_381 := hpost_381 v_72 v_391 (by rw [hfo_370]; rfl) (by rw [hfo_384]; rfl)
                    try rw [ti_1] at hqhpost_381
                    have hMm_441 : ∀ z9, fldI (f_377 o0) 6 = some z9 → v_8.toInt ≤ z9.toInt := fun z9 h9 => by rw [hfo_384] at h9; obtain rfl := Option.some.inj h9; have h8 := hM v_72 (by rw [hfo_370]; rfl); omega
                    have hT_442 := hTc_382 a_3 (by rw [hfo_384]; rfl)
                    have hM9 := hMm_441 v_391 (by rw [hfo_384]; rfl)
                    exact W.zret (v := x_376) (ty := .boolean) hx hb hr (zb_n (by constructor <;> omega)) (fun t ht hW => ⟨⟨x_376, f_377, rfl, ⟨hG, (by constructor <;> omega), hfr0, hrA12, hfA12, (by intro w6 z6 e6 d6; rw [hfo_1] at e6; rw [hfo_384] at d6; obtain rfl := Option.some.inj e6; obtain rfl := Option.some.inj d6; omega), (fun d9 h9 => by rw [hfo_384] at h9; obtain rfl := Option.some.inj h9; exact hT_442)⟩, by rw [ht]; exact hP, va_K.moved hW.alike hK, pl_in hD⟩, hS.F ht⟩) hS.2.2 dX12_statement_183
                  · skip
                    rw [← Int32.toInt_inj, ti_12] at c_365
                    refine lv_aload_n hx hb dX12_statement_145 rfl (lv_at hl 2 rfl) ?_
                    refine lv_iconst (v := 3) hx hb dX12_statement_146 (by decide) ?_
                    refine lv_iload_n hx hb dX12_statement_147 rfl (lv_at hl 1 rfl) ?_
                    refine tk_ViP (As := [.int 3, .int v_8]) (rest := []) (n := 2) hx hb hml hown hU hN hZ (s_X12_bad_k12 l (dC, dI) cI cL cZ cR cG cH Z kd L f_64 hG o0 mo0 ko0 3 v_8) wd_602 wd_603 wd_604 wd_5 wd_605 (by decide +kernel) ⟨Nat.le_of_ble_eq_true rfl, Nat.le_of_ble_eq_true rfl⟩ hK hP hD hS mo0 hfo_65 12 rfl rfl rfl hl.1 rfl (Nat.le_of_ble_eq_true rfl) dX12_statement_148 ⟨Nat.le_of_ble_eq_true rfl, Nat.le_of_ble_eq_true rfl⟩ (fun x_443 f_444 H locs hw hP hD hS => ?_)
                    obtain ⟨hG, bx_443, hkc_445, hra_446, hfa_447⟩ := hw
                    have hfo_449 : f_444 a_3 = .inl (cI, 1560, .inl g_363) := by rw [hkc_445 a_3 (by rw [ka_3]; decide)]; exact hfo_362
                    have hfr0 : ∀ b, kd b ≠ 12 → kd b ≠ 576 → f_444 b = f b := fun b q12 q576 => (hkc_445 b q12).trans (hfr0 b q12 q576)
                    have hrA12 : ∀ b, kd b = 12 → ∀ j, fldR (f_444 b) j = fldR (f b) j := fun b kb j => (hra_446 b kb j).trans (hrA12 b kb j)
                    have hfA12 : ∀ b, kd b = 12 → ∀ j, j ≠ 6 → j ≠ 7 → j ≠ 8 → j ≠ 11 → j ≠ 12 → j ≠ 13 → j ≠ 14 → fldI (f_444 b) j = fldI (f b) j := fun b kb j n6 n7 n8 n11 n12 n13 n14 => (hfa_447 b kb j n7 n8).trans (hfA12 b kb j n6 n7 n8 n11 n12 n13 n14)
                    have hT0 : frel kd 576 8 f_444 a_3 := hT0.keep (fun b q => hkc_445 b (by rw [q]; decide))
                    have hM : ∀ z9, fldI (f_444 o0) 6 = some z9 → v_8.toInt ≤ z9.toInt := (fun z9 h9 => hM z9 (by rw [hfa_447 o0 ko0 6 (by decide) (by decide)] at h9; exact h9))
                    obtain ⟨a_451, a_452, a_453, v_454, a_455, v_456, v_457, v_458, v_459, v_460, v_461, v_462, v_463, v_464, v_465, a_466, a_467, a_468, a_469, a_470, a_471, a_472, a_473, v_474, v_475, v_476, v_477, v_478, a_479, v_480, a_481, a_482, v_483, v_484, a_485, v_486, a_487, a_488, v_489, v_490, a_491, a_492, a_493, v_494, a_495, a_496, a_497, a_498, a_499, a_500, a_501, a_502, a_503, v_504, v_505, a_506, hfo_450, ⟨ma_451, ka_451⟩, ⟨ma_452, ka_452⟩, ⟨ma_453, ka_453⟩, bv_454, ⟨ma_455, ka_455⟩, bv_456, bv_457, bv_462, bv_463, bv_464, ⟨ma_466, ka_466⟩, ⟨ma_467, ka_467⟩, ⟨ma_468, ka_468⟩, ⟨ma_469, ka_469⟩, ⟨ma_470, ka_470⟩, ⟨ma_471, ka_471⟩, ⟨ma_472, ka_472⟩, ⟨ma_473, ka_473⟩, bv_474, bv_476, bv_478, ⟨ma_479, ka_479⟩, bv_480, ⟨ma_481, ka_481⟩, ⟨ma_482, ka_482⟩, bv_483, ⟨ma_485, ka_485⟩, bv_486, ⟨ma_487, ka_487⟩, ⟨ma_488, ka_488⟩, bv_489, ⟨ma_491, ka_491⟩, ⟨ma_492, ka_492⟩, ⟨ma_493, ka_493⟩, bv_494, ⟨ma_495, ka_495⟩, ⟨ma_496, ka_496⟩, ⟨ma_497, ka_497⟩, ⟨ma_498, ka_498⟩, ⟨ma_499, ka_499⟩, ⟨ma_500, ka_500⟩, ⟨ma_501, ka_501⟩, ⟨ma_502, ka_502⟩, ⟨ma_503, ka_503⟩, bv_504, ⟨ma_506, ka_506⟩⟩ := un_12 (hG _ mo0) ko0
                    have bv_458 : ((-2147483648) ≤ v_458.toInt ∧ v_458.toInt ≤ 2147483647) := ⟨i32_lo _, i32_hi _⟩
                    have bv_459 : ((-2147483648) ≤ v_459.toInt ∧ v_459.toInt ≤ 2147483647) := ⟨i32_lo _, i32_hi _⟩
                    have bv_460 : ((-2147483648) ≤ v_460.toInt ∧ v_460.toInt ≤ 2147483647) := ⟨i32_lo _, i32_hi _⟩
                    have bv_461 : ((-2147483648) ≤ v_461.toInt ∧ v_461.toInt ≤ 2147483647) := ⟨i32_lo _, i32_hi _⟩
                    have bv_465 : ((-2147483648) ≤ v_465.toInt ∧ v_465.toInt ≤ 2147483647) := ⟨i32_lo _, i32_hi _⟩
                    have bv_475 : ((-2147483648) ≤ v_475.toInt ∧ v_475.toInt ≤ 2147483647) := ⟨i32_lo _, i32_hi _⟩
                    have bv_477 : ((-2147483648) ≤ v_477.toInt ∧ v_477.toInt ≤ 2147483647) := ⟨i32_lo _, i32_hi _⟩
                    have bv_484 : ((-2147483648) ≤ v_484.toInt ∧ v_484.toInt ≤ 2147483647) := ⟨i32_lo _, i32_hi _⟩
                    have bv_490 : ((-2147483648) ≤ v_490.toInt ∧ v_490.toInt ≤ 2147483647) := ⟨i32_lo _, i32_hi _⟩
                    have bv_505 : ((-2147483648) ≤ v_505.toInt ∧ v_505.toInt ≤ 2147483647) := ⟨i32_lo _, i32_hi _⟩
                    obtain ⟨rfl, rfl, rfl, rfl, rfl, rfl, rfl, rfl, rfl, rfl, rfl, rfl, rfl, rfl, rfl, rfl, rfl, rfl, rfl, rfl, rfl, rfl, rfl, rfl, rfl, rfl, rfl, rfl, rfl, rfl, rfl⟩ := re_12 hfo_1 hfo_450 (hrA12 o0 ko0)
                    obtain rfl := ri_12_3 hfo_1 hfo_450 (hfA12 o0 ko0 3 (by decide) (by decide) (by decide) (by decide) (by decide) (by decide) (by decide))
                    obtain rfl := ri_12_5 hfo_1 hfo_450 (hfA12 o0 ko0 5 (by decide) (by decide) (by decide) (by decide) (by decide) (by decide) (by decide))
                    obtain rfl := ri_12_23 hfo_1 hfo_450 (hfA12 o0 ko0 23 (by decide) (by decide) (by decide) (by decide) (by decide) (by decide) (by decide))
                    obtain rfl := ri_12_25 hfo_1 hfo_450 (hfA12 o0 ko0 25 (by decide) (by decide) (by decide) (by decide) (by decide) (by decide) (by decide))
                    obtain rfl := ri_12_27 hfo_1 hfo_450 (hfA12 o0 ko0 27 (by decide) (by decide) (by decide) (by decide) (by decide) (by decide) (by decide))
                    obtain rfl := ri_12_29 hfo_1 hfo_450 (hfA12 o0 ko0 29 (by decide) (by decide) (by decide) (by decide) (by decide) (by decide) (by decide))
                    obtain rfl := ri_12_32 hfo_1 hfo_450 (hfA12 o0 ko0 32 (by decide) (by decide) (by decide) (by decide) (by decide) (by decide) (by decide))
                    obtain rfl := ri_12_33 hfo_1 hfo_450 (hfA12 o0 ko0 33 (by decide) (by decide) (by decide) (by decide) (by decide) (by decide) (by decide))
                    obtain rfl := ri_12_35 hfo_1 hfo_450 (hfA12 o0 ko0 35 (by decide) (by decide) (by decide) (by decide) (by decide) (by decide) (by decide))
                    obtain rfl := ri_12_38 hfo_1 hfo_450 (hfA12 o0 ko0 38 (by decide) (by decide) (by decide) (by decide) (by decide) (by decide) (by decide))
                    obtain rfl := ri_12_43 hfo_1 hfo_450 (hfA12 o0 ko0 43 (by decide) (by decide) (by decide) (by decide) (by decide) (by decide) (by decide))
                    obtain rfl := ri_12_53 hfo_1 hfo_450 (hfA12 o0 ko0 53 (by decide) (by decide) (by decide) (by decide) (by decide) (by decide) (by decide))
                    obtain rfl := ri_12_6 hfo_65 hfo_450 (hfa_447 o0 ko0 6 (by decide) (by decide))
                    obtain rfl := ri_12_11 hfo_65 hfo_450 (hfa_447 o0 ko0 11 (by decide) (by decide))
                    obtain rfl := ri_12_12 hfo_65 hfo_450 (hfa_447 o0 ko0 12 (by decide) (by decide))
                    obtain rfl := ri_12_13 hfo_65 hfo_450 (hfa_447 o0 ko0 13 (by decide) (by decide))
                    obtain rfl := ri_12_14 hfo_65 hfo_450 (hfa_447 o0 ko0 14 (by decide) (by decide))
                    have hM9 := hM v_72 (by rw [hfo_450]; rfl)
                    exact W.zret (v := x_443) (ty := .boolean) hx hb hr (zb_n (by constructor <;> omega)) (fun t ht hW => ⟨⟨x_443, f_444, rfl, ⟨hG, (by constructor <;> omega), hfr0, hrA12, hfA12, (by intro w6 z6 e6 d6; rw [hfo_1] at e6; rw [hfo_450] at d6; obtain rfl := Option.some.inj e6; obtain rfl := Option.some.inj d6; omega), (fun d9 h9 => by rw [hfo_450] at h9; obtain rfl := Option.some.inj h9; exact hT0)⟩, by rw [ht]; exact hP, va_K.moved hW.alike hK, pl_in hD⟩, hS.F ht⟩) hS.2.2 dX12_statement_151
              · skip
                rw [← Int32.toInt_inj, ti_0] at c_145
                refine lv_aload_n hx hb dX12_statement_96 rfl (lv_at hl 2 rfl) ?_
                refine tk_getP (D := (dC, dI)) (ci := 12) (v := .ref a_3) (C := RX12) (T := TX12) (N := 56) hx hb hU inlX12 hown hK hP mo0 hfo_65 rfl 1 (by decide) (hU _ wd_170) (fun _ h9 => h9) rfl dX12_statement_97 ?_
                refine lv_bipush (v := 17) hx hb dX12_statement_100 (by decide) ?_
                obtain ⟨g_508, hfo_507, hbg_508⟩ := un_576 (hG _ ma_3) ka_3
                refine tk_ildP hx hb hK hP 0 ma_3 hfo_507 rfl (vp_in_nI (n := 17) (by decide) (by decide)) dX12_statement_102 ?_
                refine lv_topi (fun x_509 ex_509 => ?_)
                have bx_509 : (0 ≤ x_509.toInt ∧ x_509.toInt ≤ 8) := by rw [ex_509]; exact hbg_508.2.2.1 _ (by decide) (by decide) (by decide)
                refine lv_bipush (v := 8) hx hb dX12_statement_103 (by decide) ?_
                refine lv_icmp_ne (tgt := 117) hx hb dX12_statement_105 (by decide) (fun c_510 => ?_) (fun c_510 => ?_)
                · skip
                  rw [← Int32.toInt_inj, ti_8] at c_510
                  have hTt_511 : frel kd 576 7 f_64 a_3 := frel.mk ka_3 hfo_507 ((hT0.get hfo_507).same (hbg_508.2.1 16 (by decide) (by decide) (by decide)).2 rfl rfl (fun _ _ => rfl) (by have hq2 : x_509.toInt = (g_508 17).toInt := (by rw [ex_509]; rfl); omega))
                  refine lv_aload_n hx hb dX12_statement_117 rfl (lv_at hl 2 rfl) ?_
                  refine tk_ViP (As := []) (rest := []) (n := 0) hx hb hml hown hU hN hZ (s_X12_ruled_k12 l (dC, dI) cI cL cZ cR cG cH Z kd L f_64 hG o0 mo0 ko0 (fun d9 h9 => by rw [hfo_65] at h9; obtain rfl := Option.some.inj h9; exact hTt_511)) wd_631 wd_632 wd_633 wd_5 wd_634 (by decide +kernel) ⟨Nat.le_of_ble_eq_true rfl, Nat.le_of_ble_eq_true rfl⟩ hK hP hD hS mo0 hfo_65 12 rfl rfl rfl hl.1 rfl (Nat.le_of_ble_eq_true rfl) dX12_statement_118 ⟨Nat.le_of_ble_eq_true rfl, Nat.le_of_ble_eq_true rfl⟩ (fun x_512 f_513 H locs hw hP hD hS => ?_)
                  obtain ⟨hG, bx_512, hkc_514, hra_515, hfa_516, hpost_517, hTc_518⟩ := hw
                  have hfr0 : ∀ b, kd b ≠ 12 → kd b ≠ 576 → f_513 b = f b := fun b q12 q576 => (hkc_514 b q12 q576).trans (hfr0 b q12 q576)
                  have hrA12 : ∀ b, kd b = 12 → ∀ j, fldR (f_513 b) j = fldR (f b) j := fun b kb j => (hra_515 b kb j).trans (hrA12 b kb j)
                  have hfA12 : ∀ b, kd b = 12 → ∀ j, j ≠ 6 → j ≠ 7 → j ≠ 8 → j ≠ 11 → j ≠ 12 → j ≠ 13 → j ≠ 14 → fldI (f_513 b) j = fldI (f b) j := fun b kb j n6 n7 n8 n11 n12 n13 n14 => (hfa_516 b kb j n6 n7 n8 n11 n12 n13 n14).trans (hfA12 b kb j n6 n7 n8 n11 n12 n13 n14)
                  obtain ⟨a_521, a_522, a_523, v_524, a_525, v_526, v_527, v_528, v_529, v_530, v_531, v_532, v_533, v_534, v_535, a_536, a_537, a_538, a_539, a_540, a_541, a_542, a_543, v_544, v_545, v_546, v_547, v_548, a_549, v_550, a_551, a_552, v_553, v_554, a_555, v_556, a_557, a_558, v_559, v_560, a_561, a_562, a_563, v_564, a_565, a_566, a_567, a_568, a_569, a_570, a_571, a_572, a_573, v_574, v_575, a_576, hfo_520, ⟨ma_521, ka_521⟩, ⟨ma_522, ka_522⟩, ⟨ma_523, ka_523⟩, bv_524, ⟨ma_525, ka_525⟩, bv_526, bv_527, bv_532, bv_533, bv_534, ⟨ma_536, ka_536⟩, ⟨ma_537, ka_537⟩, ⟨ma_538, ka_538⟩, ⟨ma_539, ka_539⟩, ⟨ma_540, ka_540⟩, ⟨ma_541, ka_541⟩, ⟨ma_542, ka_542⟩, ⟨ma_543, ka_543⟩, bv_544, bv_546, bv_548, ⟨ma_549, ka_549⟩, bv_550, ⟨ma_551, ka_551⟩, ⟨ma_552, ka_552⟩, bv_553, ⟨ma_555, ka_555⟩, bv_556, ⟨ma_557, ka_557⟩, ⟨ma_558, ka_558⟩, bv_559, ⟨ma_561, ka_561⟩, ⟨ma_562, ka_562⟩, ⟨ma_563, ka_563⟩, bv_564, ⟨ma_565, ka_565⟩, ⟨ma_566, ka_566⟩, ⟨ma_567, ka_567⟩, ⟨ma_568, ka_568⟩, ⟨ma_569, ka_569⟩, ⟨ma_570, ka_570⟩, ⟨ma_571, ka_571⟩, ⟨ma_572, ka_572⟩, ⟨ma_573, ka_573⟩, bv_574, ⟨ma_576, ka_576⟩⟩ := un_12 (hG _ mo0) ko0
                  have bv_528 : ((-2147483648) ≤ v_528.toInt ∧ v_528.toInt ≤ 2147483647) := ⟨i32_lo _, i32_hi _⟩
                  have bv_529 : ((-2147483648) ≤ v_529.toInt ∧ v_529.toInt ≤ 2147483647) := ⟨i32_lo _, i32_hi _⟩
                  have bv_530 : ((-2147483648) ≤ v_530.toInt ∧ v_530.toInt ≤ 2147483647) := ⟨i32_lo _, i32_hi _⟩
                  have bv_531 : ((-2147483648) ≤ v_531.toInt ∧ v_531.toInt ≤ 2147483647) := ⟨i32_lo _, i32_hi _⟩
                  have bv_535 : ((-2147483648) ≤ v_535.toInt ∧ v_535.toInt ≤ 2147483647) := ⟨i32_lo _, i32_hi _⟩
                  have bv_545 : ((-2147483648) ≤ v_545.toInt ∧ v_545.toInt ≤ 2147483647) := ⟨i32_lo _, i32_hi _⟩
                  have bv_547 : ((-2147483648) ≤ v_547.toInt ∧ v_547.toInt ≤ 2147483647) := ⟨i32_lo _, i32_hi _⟩
                  have bv_554 : ((-2147483648) ≤ v_554.toInt ∧ v_554.toInt ≤ 2147483647) := ⟨i32_lo _, i32_hi _⟩
                  have bv_560 : ((-2147483648) ≤ v_560.toInt ∧ v_560.toInt ≤ 2147483647) := ⟨i32_lo _, i32_hi _⟩
                  have bv_575 : ((-2147483648) ≤ v_575.toInt ∧ v_575.toInt ≤ 2147483647) := ⟨i32_lo _, i32_hi _⟩
                  obtain ⟨rfl, rfl, rfl, rfl, rfl, rfl, rfl, rfl, rfl, rfl, rfl, rfl, rfl, rfl, rfl, rfl, rfl, rfl, rfl, rfl, rfl, rfl, rfl, rfl, rfl, rfl, rfl, rfl, rfl, rfl, rfl⟩ := re_12 hfo_1 hfo_520 (hrA12 o0 ko0)
                  obtain rfl := ri_12_3 hfo_1 hfo_520 (hfA12 o0 ko0 3 (by decide) (by decide) (by decide) (by decide) (by decide) (by decide) (by decide))
                  obtain rfl := ri_12_5 hfo_1 hfo_520 (hfA12 o0 ko0 5 (by decide) (by decide) (by decide) (by decide) (by decide) (by decide) (by decide))
                  obtain rfl := ri_12_23 hfo_1 hfo_520 (hfA12 o0 ko0 23 (by decide) (by decide) (by decide) (by decide) (by decide) (by decide) (by decide))
                  obtain rfl := ri_12_25 hfo_1 hfo_520 (hfA12 o0 ko0 25 (by decide) (by decide) (by decide) (by decide) (by decide) (by decide) (by decide))
                  obtain rfl := ri_12_27 hfo_1 hfo_520 (hfA12 o0 ko0 27 (by decide) (by decide) (by decide) (by decide) (by decide) (by decide) (by decide))
                  obtain rfl := ri_12_29 hfo_1 hfo_520 (hfA12 o0 ko0 29 (by decide) (by decide) (by decide) (by decide) (by decide) (by decide) (by decide))
                  obtain rfl := ri_12_32 hfo_1 hfo_520 (hfA12 o0 ko0 32 (by decide) (by decide) (by decide) (by decide) (by decide) (by decide) (by decide))
                  obtain rfl := ri_12_33 hfo_1 hfo_520 (hfA12 o0 ko0 33 (by decide) (by decide) (by decide) (by decide) (by decide) (by decide) (by decide))
                  obtain rfl := ri_12_35 hfo_1 hfo_520 (hfA12 o0 ko0 35 (by decide) (by decide) (by decide) (by decide) (by decide) (by decide) (by decide))
                  obtain rfl := ri_12_38 hfo_1 hfo_520 (hfA12 o0 ko0 38 (by decide) (by decide) (by decide) (by decide) (by decide) (by decide) (by decide))
                  obtain rfl := ri_12_43 hfo_1 hfo_520 (hfA12 o0 ko0 43 (by decide) (by decide) (by decide) (by decide) (by decide) (by decide) (by decide))
                  obtain rfl := ri_12_53 hfo_1 hfo_520 (hfA12 o0 ko0 53 (by decide) (by decide) (by decide) (by decide) (by decide) (by decide) (by decide))
                  have hqhpost_517 := hpost_517 v_72 v_527 (by rw [hfo_65]; rfl) (by rw [hfo_520]; rfl)
                  have hMm_577 : ∀ z9, fldI (f_513 o0) 6 = some z9 → v_8.toInt ≤ z9.toInt := fun z9 h9 => by rw [hfo_520] at h9; obtain rfl := Option.some.inj h9; have h8 := hM v_72 (by rw [hfo_65]; rfl); omega
                  have hT_578 := hTc_518 a_3 (by rw [hfo_520]; rfl)
                  have hM9 := hMm_577 v_527 (by rw [hfo_520]; rfl)
                  exact W.zret (v := x_512) (ty := .boolean) hx hb hr (zb_n (by constructor <;> omega)) (fun t ht hW => ⟨⟨x_512, f_513, rfl, ⟨hG, (by constructor <;> omega), hfr0, hrA12, hfA12, (by intro w6 z6 e6 d6; rw [hfo_1] at e6; rw [hfo_520] at d6; obtain rfl := Option.some.inj e6; obtain rfl := Option.some.inj d6; omega), (fun d9 h9 => by rw [hfo_520] at h9; obtain rfl := Option.some.inj h9; exact hT_578)⟩, by rw [ht]; exact hP, va_K.moved hW.alike hK, pl_in hD⟩, hS.F ht⟩) hS.2.2 dX12_statement_121
                · skip
                  rw [← Int32.toInt_inj, ti_8] at c_510
                  refine lv_aload_n hx hb dX12_statement_108 rfl (lv_at hl 2 rfl) ?_
                  refine lv_iconst (v := 3) hx hb dX12_statement_109 (by decide) ?_
                  refine lv_iload_n hx hb dX12_statement_110 rfl (lv_at hl 1 rfl) ?_
                  refine tk_ViP (As := [.int 3, .int v_8]) (rest := []) (n := 2) hx hb hml hown hU hN hZ (s_X12_bad_k12 l (dC, dI) cI cL cZ cR cG cH Z kd L f_64 hG o0 mo0 ko0 3 v_8) wd_602 wd_603 wd_604 wd_5 wd_605 (by decide +kernel) ⟨Nat.le_of_ble_eq_true rfl, Nat.le_of_ble_eq_true rfl⟩ hK hP hD hS mo0 hfo_65 12 rfl rfl rfl hl.1 rfl (Nat.le_of_ble_eq_true rfl) dX12_statement_111 ⟨Nat.le_of_ble_eq_true rfl, Nat.le_of_ble_eq_true rfl⟩ (fun x_579 f_580 H locs hw hP hD hS => ?_)
                  obtain ⟨hG, bx_579, hkc_581, hra_582, hfa_583⟩ := hw
                  have hfo_585 : f_580 a_3 = .inl (cI, 1560, .inl g_508) := by rw [hkc_581 a_3 (by rw [ka_3]; decide)]; exact hfo_507
                  have hfr0 : ∀ b, kd b ≠ 12 → kd b ≠ 576 → f_580 b = f b := fun b q12 q576 => (hkc_581 b q12).trans (hfr0 b q12 q576)
                  have hrA12 : ∀ b, kd b = 12 → ∀ j, fldR (f_580 b) j = fldR (f b) j := fun b kb j => (hra_582 b kb j).trans (hrA12 b kb j)
                  have hfA12 : ∀ b, kd b = 12 → ∀ j, j ≠ 6 → j ≠ 7 → j ≠ 8 → j ≠ 11 → j ≠ 12 → j ≠ 13 → j ≠ 14 → fldI (f_580 b) j = fldI (f b) j := fun b kb j n6 n7 n8 n11 n12 n13 n14 => (hfa_583 b kb j n7 n8).trans (hfA12 b kb j n6 n7 n8 n11 n12 n13 n14)
                  have hT0 : frel kd 576 8 f_580 a_3 := hT0.keep (fun b q => hkc_581 b (by rw [q]; decide))
                  have hM : ∀ z9, fldI (f_580 o0) 6 = some z9 → v_8.toInt ≤ z9.toInt := (fun z9 h9 => hM z9 (by rw [hfa_583 o0 ko0 6 (by decide) (by decide)] at h9; exact h9))
                  obtain ⟨a_587, a_588, a_589, v_590, a_591, v_592, v_593, v_594, v_595, v_596, v_597, v_598, v_599, v_600, v_601, a_602, a_603, a_604, a_605, a_606, a_607, a_608, a_609, v_610, v_611, v_612, v_613, v_614, a_615, v_616, a_617, a_618, v_619, v_620, a_621, v_622, a_623, a_624, v_625, v_626, a_627, a_628, a_629, v_630, a_631, a_632, a_633, a_634, a_635, a_636, a_637, a_638, a_639, v_640, v_641, a_642, hfo_586, ⟨ma_587, ka_587⟩, ⟨ma_588, ka_588⟩, ⟨ma_589, ka_589⟩, bv_590, ⟨ma_591, ka_591⟩, bv_592, bv_593, bv_598, bv_599, bv_600, ⟨ma_602, ka_602⟩, ⟨ma_603, ka_603⟩, ⟨ma_604, ka_604⟩, ⟨ma_605, ka_605⟩, ⟨ma_606, ka_606⟩, ⟨ma_607, ka_607⟩, ⟨ma_608, ka_608⟩, ⟨ma_609, ka_609⟩, bv_610, bv_612, bv_614, ⟨ma_615, ka_615⟩, bv_616, ⟨ma_617, ka_617⟩, ⟨ma_618, ka_618⟩, bv_619, ⟨ma_621, ka_621⟩, bv_622, ⟨ma_623, ka_623⟩, ⟨ma_624, ka_624⟩, bv_625, ⟨ma_627, ka_627⟩, ⟨ma_628, ka_628⟩, ⟨ma_629, ka_629⟩, bv_630, ⟨ma_631, ka_631⟩, ⟨ma_632, ka_632⟩, ⟨ma_633, ka_633⟩, ⟨ma_634, ka_634⟩, ⟨ma_635, ka_635⟩, ⟨ma_636, ka_636⟩, ⟨ma_637, ka_637⟩, ⟨ma_638, ka_638⟩, ⟨ma_639, ka_639⟩, bv_640, ⟨ma_642, ka_642⟩⟩ := un_12 (hG _ mo0) ko0
                  have bv_594 : ((-2147483648) ≤ v_594.toInt ∧ v_594.toInt ≤ 2147483647) := ⟨i32_lo _, i32_hi _⟩
                  have bv_595 : ((-2147483648) ≤ v_595.toInt ∧ v_595.toInt ≤ 2147483647) := ⟨i32_lo _, i32_hi _⟩
                  have bv_596 : ((-2147483648) ≤ v_596.toInt ∧ v_596.toInt ≤ 2147483647) := ⟨i32_lo _, i32_hi _⟩
                  have bv_597 : ((-2147483648) ≤ v_597.toInt ∧ v_597.toInt ≤ 2147483647) := ⟨i32_lo _, i32_hi _⟩
                  have bv_601 : ((-2147483648) ≤ v_601.toInt ∧ v_601.toInt ≤ 2147483647) := ⟨i32_lo _, i32_hi _⟩
                  have bv_611 : ((-2147483648) ≤ v_611.toInt ∧ v_611.toInt ≤ 2147483647) := ⟨i32_lo _, i32_hi _⟩
                  have bv_613 : ((-2147483648) ≤ v_613.toInt ∧ v_613.toInt ≤ 2147483647) := ⟨i32_lo _, i32_hi _⟩
                  have bv_620 : ((-2147483648) ≤ v_620.toInt ∧ v_620.toInt ≤ 2147483647) := ⟨i32_lo _, i32_hi _⟩
                  have bv_626 : ((-2147483648) ≤ v_626.toInt ∧ v_626.toInt ≤ 2147483647) := ⟨i32_lo _, i32_hi _⟩
                  have bv_641 : ((-2147483648) ≤ v_641.toInt ∧ v_641.toInt ≤ 2147483647) := ⟨i32_lo _, i32_hi _⟩
                  obtain ⟨rfl, rfl, rfl, rfl, rfl, rfl, rfl, rfl, rfl, rfl, rfl, rfl, rfl, rfl, rfl, rfl, rfl, rfl, rfl, rfl, rfl, rfl, rfl, rfl, rfl, rfl, rfl, rfl, rfl, rfl, rfl⟩ := re_12 hfo_1 hfo_586 (hrA12 o0 ko0)
                  obtain rfl := ri_12_3 hfo_1 hfo_586 (hfA12 o0 ko0 3 (by decide) (by decide) (by decide) (by decide) (by decide) (by decide) (by decide))
                  obtain rfl := ri_12_5 hfo_1 hfo_586 (hfA12 o0 ko0 5 (by decide) (by decide) (by decide) (by decide) (by decide) (by decide) (by decide))
                  obtain rfl := ri_12_23 hfo_1 hfo_586 (hfA12 o0 ko0 23 (by decide) (by decide) (by decide) (by decide) (by decide) (by decide) (by decide))
                  obtain rfl := ri_12_25 hfo_1 hfo_586 (hfA12 o0 ko0 25 (by decide) (by decide) (by decide) (by decide) (by decide) (by decide) (by decide))
                  obtain rfl := ri_12_27 hfo_1 hfo_586 (hfA12 o0 ko0 27 (by decide) (by decide) (by decide) (by decide) (by decide) (by decide) (by decide))
                  obtain rfl := ri_12_29 hfo_1 hfo_586 (hfA12 o0 ko0 29 (by decide) (by decide) (by decide) (by decide) (by decide) (by decide) (by decide))
                  obtain rfl := ri_12_32 hfo_1 hfo_586 (hfA12 o0 ko0 32 (by decide) (by decide) (by decide) (by decide) (by decide) (by decide) (by decide))
                  obtain rfl := ri_12_33 hfo_1 hfo_586 (hfA12 o0 ko0 33 (by decide) (by decide) (by decide) (by decide) (by decide) (by decide) (by decide))
                  obtain rfl := ri_12_35 hfo_1 hfo_586 (hfA12 o0 ko0 35 (by decide) (by decide) (by decide) (by decide) (by decide) (by decide) (by decide))
                  obtain rfl := ri_12_38 hfo_1 hfo_586 (hfA12 o0 ko0 38 (by decide) (by decide) (by decide) (by decide) (by decide) (by decide) (by decide))
                  obtain rfl := ri_12_43 hfo_1 hfo_586 (hfA12 o0 ko0 43 (by decide) (by decide) (by decide) (by decide) (by decide) (by decide) (by decide))
                  obtain rfl := ri_12_53 hfo_1 hfo_586 (hfA12 o0 ko0 53 (by decide) (by decide) (by decide) (by decide) (by decide) (by decide) (by decide))
                  obtain rfl := ri_12_6 hfo_65 hfo_586 (hfa_583 o0 ko0 6 (by decide) (by decide))
                  obtain rfl := ri_12_11 hfo_65 hfo_586 (hfa_583 o0 ko0 11 (by decide) (by decide))
                  obtain rfl := ri_12_12 hfo_65 hfo_586 (hfa_583 o0 ko0 12 (by decide) (by decide))
                  obtain rfl := ri_12_13 hfo_65 hfo_586 (hfa_583 o0 ko0 13 (by decide) (by decide))
                  obtain rfl := ri_12_14 hfo_65 hfo_586 (hfa_583 o0 ko0 14 (by decide) (by decide))
                  refine lv_goto (tgt := 121) hx hb dX12_statement_114 (by decide) ?_
                  have hM9 := hM v_72 (by rw [hfo_586]; rfl)
                  exact W.zret (v := x_579) (ty := .boolean) hx hb hr (zb_n (by constructor <;> omega)) (fun t ht hW => ⟨⟨x_579, f_580, rfl, ⟨hG, (by constructor <;> omega), hfr0, hrA12, hfA12, (by intro w6 z6 e6 d6; rw [hfo_1] at e6; rw [hfo_586] at d6; obtain rfl := Option.some.inj e6; obtain rfl := Option.some.inj d6; omega), (fun d9 h9 => by rw [hfo_586] at h9; obtain rfl := Option.some.inj h9; exact hT0)⟩, by rw [ht]; exact hP, va_K.moved hW.alike hK, pl_in hD⟩, hS.F ht⟩) hS.2.2 dX12_statement_121
            · skip
              rw [← Int32.toInt_inj, ti_0] at c_141
              refine lv_aload_n hx hb dX12_statement_80 rfl (lv_at hl 2 rfl) ?_
              refine tk_ViP (As := []) (rest := []) (n := 0) hx hb hml hown hU hN hZ (s_X12_takesPair_k12_F8 l (dC, dI) cI cL cZ cR cG cH Z kd L f_64 hG o0 mo0 ko0 (fun d9 h9 => by rw [hfo_65] at h9; obtain rfl := Option.some.inj h9; exact hT0)) wd_613 wd_614 wd_615 wd_5 wd_616 (by decide +kernel) ⟨Nat.le_of_ble_eq_true rfl, Nat.le_of_ble_eq_true rfl⟩ hK hP hD hS mo0 hfo_65 12 rfl rfl rfl hl.1 rfl (Nat.le_of_ble_eq_true rfl) dX12_statement_81 ⟨Nat.le_of_ble_eq_true rfl, Nat.le_of_ble_eq_true rfl⟩ (fun x_643 f_644 H locs hw hP hD hS => ?_)
              obtain ⟨hG, bx_643, hkc_645, hra_646, hfa_647, hpost_648, hTc_649⟩ := hw
              have hfr0 : ∀ b, kd b ≠ 12 → kd b ≠ 576 → f_644 b = f b := fun b q12 q576 => (hkc_645 b q12 q576).trans (hfr0 b q12 q576)
              have hrA12 : ∀ b, kd b = 12 → ∀ j, fldR (f_644 b) j = fldR (f b) j := fun b kb j => (hra_646 b kb j).trans (hrA12 b kb j)
              have hfA12 : ∀ b, kd b = 12 → ∀ j, j ≠ 6 → j ≠ 7 → j ≠ 8 → j ≠ 11 → j ≠ 12 → j ≠ 13 → j ≠ 14 → fldI (f_644 b) j = fldI (f b) j := fun b kb j n6 n7 n8 n11 n12 n13 n14 => (hfa_647 b kb j n6 n7 n8 n11 n12 n13).trans (hfA12 b kb j n6 n7 n8 n11 n12 n13 n14)
              obtain ⟨a_652, a_653, a_654, v_655, a_656, v_657, v_658, v_659, v_660, v_661, v_662, v_663, v_664, v_665, v_666, a_667, a_668, a_669, a_670, a_671, a_672, a_673, a_674, v_675, v_676, v_677, v_678, v_679, a_680, v_681, a_682, a_683, v_684, v_685, a_686, v_687, a_688, a_689, v_690, v_691, a_692, a_693, a_694, v_695, a_696, a_697, a_698, a_699, a_700, a_701, a_702, a_703, a_704, v_705, v_706, a_707, hfo_651, ⟨ma_652, ka_652⟩, ⟨ma_653, ka_653⟩, ⟨ma_654, ka_654⟩, bv_655, ⟨ma_656, ka_656⟩, bv_657, bv_658, bv_663, bv_664, bv_665, ⟨ma_667, ka_667⟩, ⟨ma_668, ka_668⟩, ⟨ma_669, ka_669⟩, ⟨ma_670, ka_670⟩, ⟨ma_671, ka_671⟩, ⟨ma_672, ka_672⟩, ⟨ma_673, ka_673⟩, ⟨ma_674, ka_674⟩, bv_675, bv_677, bv_679, ⟨ma_680, ka_680⟩, bv_681, ⟨ma_682, ka_682⟩, ⟨ma_683, ka_683⟩, bv_684, ⟨ma_686, ka_686⟩, bv_687, ⟨ma_688, ka_688⟩, ⟨ma_689, ka_689⟩, bv_690, ⟨ma_692, ka_692⟩, ⟨ma_693, ka_693⟩, ⟨ma_694, ka_694⟩, bv_695, ⟨ma_696, ka_696⟩, ⟨ma_697, ka_697⟩, ⟨ma_698, ka_698⟩, ⟨ma_699, ka_699⟩, ⟨ma_700, ka_700⟩, ⟨ma_701, ka_701⟩, ⟨ma_702, ka_702⟩, ⟨ma_703, ka_703⟩, ⟨ma_704, ka_704⟩, bv_705, ⟨ma_707, ka_707⟩⟩ := un_12 (hG _ mo0) ko0
              have bv_659 : ((-2147483648) ≤ v_659.toInt ∧ v_659.toInt ≤ 2147483647) := ⟨i32_lo _, i32_hi _⟩
              have bv_660 : ((-2147483648) ≤ v_660.toInt ∧ v_660.toInt ≤ 2147483647) := ⟨i32_lo _, i32_hi _⟩
              have bv_661 : ((-2147483648) ≤ v_661.toInt ∧ v_661.toInt ≤ 2147483647) := ⟨i32_lo _, i32_hi _⟩
              have bv_662 : ((-2147483648) ≤ v_662.toInt ∧ v_662.toInt ≤ 2147483647) := ⟨i32_lo _, i32_hi _⟩
              have bv_666 : ((-2147483648) ≤ v_666.toInt ∧ v_666.toInt ≤ 2147483647) := ⟨i32_lo _, i32_hi _⟩
              have bv_676 : ((-2147483648) ≤ v_676.toInt ∧ v_676.toInt ≤ 2147483647) := ⟨i32_lo _, i32_hi _⟩
              have bv_678 : ((-2147483648) ≤ v_678.toInt ∧ v_678.toInt ≤ 2147483647) := ⟨i32_lo _, i32_hi _⟩
              have bv_685 : ((-2147483648) ≤ v_685.toInt ∧ v_685.toInt ≤ 2147483647) := ⟨i32_lo _, i32_hi _⟩
              have bv_691 : ((-2147483648) ≤ v_691.toInt ∧ v_691.toInt ≤ 2147483647) := ⟨i32_lo _, i32_hi _⟩
              have bv_706 : ((-2147483648) ≤ v_706.toInt ∧ v_706.toInt ≤ 2147483647) := ⟨i32_lo _, i32_hi _⟩
              obtain ⟨rfl, rfl, rfl, rfl, rfl, rfl, rfl, rfl, rfl, rfl, rfl, rfl, rfl, rfl, rfl, rfl, rfl, rfl, rfl, rfl, rfl, rfl, rfl, rfl, rfl, rfl, rfl, rfl, rfl, rfl, rfl⟩ := re_12 hfo_1 hfo_651 (hrA12 o0 ko0)
              obtain rfl := ri_12_3 hfo_1 hfo_651 (hfA12 o0 ko0 3 (by decide) (by decide) (by decide) (by decide) (by decide) (by decide) (by decide))
              obtain rfl := ri_12_5 hfo_1 hfo_651 (hfA12 o0 ko0 5 (by decide) (by decide) (by decide) (by decide) (by decide) (by decide) (by decide))
              obtain rfl := ri_12_23 hfo_1 hfo_651 (hfA12 o0 ko0 23 (by decide) (by decide) (by decide) (by decide) (by decide) (by decide) (by decide))
              obtain rfl := ri_12_25 hfo_1 hfo_651 (hfA12 o0 ko0 25 (by decide) (by decide) (by decide) (by decide) (by decide) (by decide) (by decide))
              obtain rfl := ri_12_27 hfo_1 hfo_651 (hfA12 o0 ko0 27 (by decide) (by decide) (by decide) (by decide) (by decide) (by decide) (by decide))
              obtain rfl := ri_12_29 hfo_1 hfo_651 (hfA12 o0 ko0 29 (by decide) (by decide) (by decide) (by decide) (by decide) (by decide) (by decide))
              obtain rfl := ri_12_32 hfo_1 hfo_651 (hfA12 o0 ko0 32 (by decide) (by decide) (by decide) (by decide) (by decide) (by decide) (by decide))
              obtain rfl := ri_12_33 hfo_1 hfo_651 (hfA12 o0 ko0 33 (by decide) (by decide) (by decide) (by decide) (by decide) (by decide) (by decide))
              obtain rfl := ri_12_35 hfo_1 hfo_651 (hfA12 o0 ko0 35 (by decide) (by decide) (by decide) (by decide) (by decide) (by decide) (by decide))
              obtain rfl := ri_12_38 hfo_1 hfo_651 (hfA12 o0 ko0 38 (by decide) (by decide) (by decide) (by decide) (by decide) (by decide) (by decide))
              obtain rfl := ri_12_43 hfo_1 hfo_651 (hfA12 o0 ko0 43 (by decide) (by decide) (by decide) (by decide) (by decide) (by decide) (by decide))
              obtain rfl := ri_12_53 hfo_1 hfo_651 (hfA12 o0 ko0 53 (by decide) (by decide) (by decide) (by decide) (by decide) (by decide) (by decide))
              obtain rfl := ri_12_14 hfo_65 hfo_651 (hfa_647 o0 ko0 14 (by decide) (by decide) (by decide) (by decide) (by decide) (by decide))
              have hqhpost_648 := hpost_648 v_72 v_658 (by rw [hfo_65]; rfl) (by rw [hfo_651]; rfl)
              have hMm_708 : ∀ z9, fldI (f_644 o0) 6 = some z9 → v_8.toInt ≤ z9.toInt := fun z9 h9 => by rw [hfo_651] at h9; obtain rfl := Option.some.inj h9; have h8 := hM v_72 (by rw [hfo_65]; rfl); omega
              have hT_709 := hTc_649 a_3 (by rw [hfo_651]; rfl)
              have hM9 := hMm_708 v_658 (by rw [hfo_651]; rfl)
              exact W.zret (v := x_643) (ty := .boolean) hx hb hr (zb_n (by constructor <;> omega)) (fun t ht hW => ⟨⟨x_643, f_644, rfl, ⟨hG, (by constructor <;> omega), hfr0, hrA12, hfA12, (by intro w6 z6 e6 d6; rw [hfo_1] at e6; rw [hfo_651] at d6; obtain rfl := Option.some.inj e6; obtain rfl := Option.some.inj d6; omega), (fun d9 h9 => by rw [hfo_651] at h9; obtain rfl := Option.some.inj h9; exact hT_709)⟩, by rw [ht]; exact hP, va_K.moved hW.alike hK, pl_in hD⟩, hS.F ht⟩) hS.2.2 dX12_statement_84
          · skip
            rw [← Int32.toInt_inj, ti_0] at c_137
            refine lv_aload_n hx hb dX12_statement_64 rfl (lv_at hl 2 rfl) ?_
            refine tk_ViP (As := []) (rest := []) (n := 0) hx hb hml hown hU hN hZ (s_X12_classOf_k12 l (dC, dI) cI cL cZ cR cG cH Z kd L f_64 hG o0 mo0 ko0 (fun d9 h9 => by rw [hfo_65] at h9; obtain rfl := Option.some.inj h9; exact hT0)) wd_609 wd_610 wd_611 wd_5 wd_612 (by decide +kernel) ⟨Nat.le_of_ble_eq_true rfl, Nat.le_of_ble_eq_true rfl⟩ hK hP hD hS mo0 hfo_65 12 rfl rfl rfl hl.1 rfl (Nat.le_of_ble_eq_true rfl) dX12_statement_65 ⟨Nat.le_of_ble_eq_true rfl, Nat.le_of_ble_eq_true rfl⟩ (fun x_710 f_711 H locs hw hP hD hS => ?_)
            obtain ⟨hG, bx_710, hkc_712, hra_713, hfa_714, hpost_715, hTc_716⟩ := hw
            have hfr0 : ∀ b, kd b ≠ 12 → kd b ≠ 576 → f_711 b = f b := fun b q12 q576 => (hkc_712 b q12 q576).trans (hfr0 b q12 q576)
            have hrA12 : ∀ b, kd b = 12 → ∀ j, fldR (f_711 b) j = fldR (f b) j := fun b kb j => (hra_713 b kb j).trans (hrA12 b kb j)
            have hfA12 : ∀ b, kd b = 12 → ∀ j, j ≠ 6 → j ≠ 7 → j ≠ 8 → j ≠ 11 → j ≠ 12 → j ≠ 13 → j ≠ 14 → fldI (f_711 b) j = fldI (f b) j := fun b kb j n6 n7 n8 n11 n12 n13 n14 => (hfa_714 b kb j n6 n7 n8).trans (hfA12 b kb j n6 n7 n8 n11 n12 n13 n14)
            obtain ⟨a_719, a_720, a_721, v_722, a_723, v_724, v_725, v_726, v_727, v_728, v_729, v_730, v_731, v_732, v_733, a_734, a_735, a_736, a_737, a_738, a_739, a_740, a_741, v_742, v_743, v_744, v_745, v_746, a_747, v_748, a_749, a_750, v_751, v_752, a_753, v_754, a_755, a_756, v_757, v_758, a_759, a_760, a_761, v_762, a_763, a_764, a_765, a_766, a_767, a_768, a_769, a_770, a_771, v_772, v_773, a_774, hfo_718, ⟨ma_719, ka_719⟩, ⟨ma_720, ka_720⟩, ⟨ma_721, ka_721⟩, bv_722, ⟨ma_723, ka_723⟩, bv_724, bv_725, bv_730, bv_731, bv_732, ⟨ma_734, ka_734⟩, ⟨ma_735, ka_735⟩, ⟨ma_736, ka_736⟩, ⟨ma_737, ka_737⟩, ⟨ma_738, ka_738⟩, ⟨ma_739, ka_739⟩, ⟨ma_740, ka_740⟩, ⟨ma_741, ka_741⟩, bv_742, bv_744, bv_746, ⟨ma_747, ka_747⟩, bv_748, ⟨ma_749, ka_749⟩, ⟨ma_750, ka_750⟩, bv_751, ⟨ma_753, ka_753⟩, bv_754, ⟨ma_755, ka_755⟩, ⟨ma_756, ka_756⟩, bv_757, ⟨ma_759, ka_759⟩, ⟨ma_760, ka_760⟩, ⟨ma_761, ka_761⟩, bv_762, ⟨ma_763, ka_763⟩, ⟨ma_764, ka_764⟩, ⟨ma_765, ka_765⟩, ⟨ma_766, ka_766⟩, ⟨ma_767, ka_767⟩, ⟨ma_768, ka_768⟩, ⟨ma_769, ka_769⟩, ⟨ma_770, ka_770⟩, ⟨ma_771, ka_771⟩, bv_772, ⟨ma_774, ka_774⟩⟩ := un_12 (hG _ mo0) ko0
            have bv_726 : ((-2147483648) ≤ v_726.toInt ∧ v_726.toInt ≤ 2147483647) := ⟨i32_lo _, i32_hi _⟩
            have bv_727 : ((-2147483648) ≤ v_727.toInt ∧ v_727.toInt ≤ 2147483647) := ⟨i32_lo _, i32_hi _⟩
            have bv_728 : ((-2147483648) ≤ v_728.toInt ∧ v_728.toInt ≤ 2147483647) := ⟨i32_lo _, i32_hi _⟩
            have bv_729 : ((-2147483648) ≤ v_729.toInt ∧ v_729.toInt ≤ 2147483647) := ⟨i32_lo _, i32_hi _⟩
            have bv_733 : ((-2147483648) ≤ v_733.toInt ∧ v_733.toInt ≤ 2147483647) := ⟨i32_lo _, i32_hi _⟩
            have bv_743 : ((-2147483648) ≤ v_743.toInt ∧ v_743.toInt ≤ 2147483647) := ⟨i32_lo _, i32_hi _⟩
            have bv_745 : ((-2147483648) ≤ v_745.toInt ∧ v_745.toInt ≤ 2147483647) := ⟨i32_lo _, i32_hi _⟩
            have bv_752 : ((-2147483648) ≤ v_752.toInt ∧ v_752.toInt ≤ 2147483647) := ⟨i32_lo _, i32_hi _⟩
            have bv_758 : ((-2147483648) ≤ v_758.toInt ∧ v_758.toInt ≤ 2147483647) := ⟨i32_lo _, i32_hi _⟩
            have bv_773 : ((-2147483648) ≤ v_773.toInt ∧ v_773.toInt ≤ 2147483647) := ⟨i32_lo _, i32_hi _⟩
            obtain ⟨rfl, rfl, rfl, rfl, rfl, rfl, rfl, rfl, rfl, rfl, rfl, rfl, rfl, rfl, rfl, rfl, rfl, rfl, rfl, rfl, rfl, rfl, rfl, rfl, rfl, rfl, rfl, rfl, rfl, rfl, rfl⟩ := re_12 hfo_1 hfo_718 (hrA12 o0 ko0)
            obtain rfl := ri_12_3 hfo_1 hfo_718 (hfA12 o0 ko0 3 (by decide) (by decide) (by decide) (by decide) (by decide) (by decide) (by decide))
            obtain rfl := ri_12_5 hfo_1 hfo_718 (hfA12 o0 ko0 5 (by decide) (by decide) (by decide) (by decide) (by decide) (by decide) (by decide))
            obtain rfl := ri_12_23 hfo_1 hfo_718 (hfA12 o0 ko0 23 (by decide) (by decide) (by decide) (by decide) (by decide) (by decide) (by decide))
            obtain rfl := ri_12_25 hfo_1 hfo_718 (hfA12 o0 ko0 25 (by decide) (by decide) (by decide) (by decide) (by decide) (by decide) (by decide))
            obtain rfl := ri_12_27 hfo_1 hfo_718 (hfA12 o0 ko0 27 (by decide) (by decide) (by decide) (by decide) (by decide) (by decide) (by decide))
            obtain rfl := ri_12_29 hfo_1 hfo_718 (hfA12 o0 ko0 29 (by decide) (by decide) (by decide) (by decide) (by decide) (by decide) (by decide))
            obtain rfl := ri_12_32 hfo_1 hfo_718 (hfA12 o0 ko0 32 (by decide) (by decide) (by decide) (by decide) (by decide) (by decide) (by decide))
            obtain rfl := ri_12_33 hfo_1 hfo_718 (hfA12 o0 ko0 33 (by decide) (by decide) (by decide) (by decide) (by decide) (by decide) (by decide))
            obtain rfl := ri_12_35 hfo_1 hfo_718 (hfA12 o0 ko0 35 (by decide) (by decide) (by decide) (by decide) (by decide) (by decide) (by decide))
            obtain rfl := ri_12_38 hfo_1 hfo_718 (hfA12 o0 ko0 38 (by decide) (by decide) (by decide) (by decide) (by decide) (by decide) (by decide))
            obtain rfl := ri_12_43 hfo_1 hfo_718 (hfA12 o0 ko0 43 (by decide) (by decide) (by decide) (by decide) (by decide) (by decide) (by decide))
            obtain rfl := ri_12_53 hfo_1 hfo_718 (hfA12 o0 ko0 53 (by decide) (by decide) (by decide) (by decide) (by decide) (by decide) (by decide))
            obtain rfl := ri_12_11 hfo_65 hfo_718 (hfa_714 o0 ko0 11 (by decide) (by decide) (by decide))
            obtain rfl := ri_12_12 hfo_65 hfo_718 (hfa_714 o0 ko0 12 (by decide) (by decide) (by decide))
            obtain rfl := ri_12_13 hfo_65 hfo_718 (hfa_714 o0 ko0 13 (by decide) (by decide) (by decide))
            obtain rfl := ri_12_14 hfo_65 hfo_718 (hfa_714 o0 ko0 14 (by decide) (by decide) (by decide))
            have hqhpost_715 := hpost_715 v_72 v_725 (by rw [hfo_65]; rfl) (by rw [hfo_718]; rfl)
            have hMm_775 : ∀ z9, fldI (f_711 o0) 6 = some z9 → v_8.toInt ≤ z9.toInt := fun z9 h9 => by rw [hfo_718] at h9; obtain rfl := Option.some.inj h9; have h8 := hM v_72 (by rw [hfo_65]; rfl); omega
            have hT_776 := hTc_716 a_3 (by rw [hfo_718]; rfl)
            have hM9 := hMm_775 v_725 (by rw [hfo_718]; rfl)
            exact W.zret (v := x_710) (ty := .boolean) hx hb hr (zb_n (by constructor <;> omega)) (fun t ht hW => ⟨⟨x_710, f_711, rfl, ⟨hG, (by constructor <;> omega), hfr0, hrA12, hfA12, (by intro w6 z6 e6 d6; rw [hfo_1] at e6; rw [hfo_718] at d6; obtain rfl := Option.some.inj e6; obtain rfl := Option.some.inj d6; omega), (fun d9 h9 => by rw [hfo_718] at h9; obtain rfl := Option.some.inj h9; exact hT_776)⟩, by rw [ht]; exact hP, va_K.moved hW.alike hK, pl_in hD⟩, hS.F ht⟩) hS.2.2 dX12_statement_68
        · skip
          rw [← Int32.toInt_inj, ti_0] at c_133
          refine lv_aload_n hx hb dX12_statement_48 rfl (lv_at hl 2 rfl) ?_
          refine tk_ViP (As := []) (rest := []) (n := 0) hx hb hml hown hU hN hZ (s_X12_letters_k12 l (dC, dI) cI cL cZ cR cG cH Z kd L f_64 hG o0 mo0 ko0 (fun d9 h9 => by rw [hfo_65] at h9; obtain rfl := Option.some.inj h9; exact hT0)) wd_598 wd_599 wd_600 wd_5 wd_601 (by decide +kernel) ⟨Nat.le_of_ble_eq_true rfl, Nat.le_of_ble_eq_true rfl⟩ hK hP hD hS mo0 hfo_65 12 rfl rfl rfl hl.1 rfl (Nat.le_of_ble_eq_true rfl) dX12_statement_49 ⟨Nat.le_of_ble_eq_true rfl, Nat.le_of_ble_eq_true rfl⟩ (fun x_777 f_778 H locs hw hP hD hS => ?_)
          obtain ⟨hG, bx_777, hkc_779, hra_780, hfa_781, hpost_782, hTc_783⟩ := hw
          have hfr0 : ∀ b, kd b ≠ 12 → kd b ≠ 576 → f_778 b = f b := fun b q12 q576 => (hkc_779 b q12 q576).trans (hfr0 b q12 q576)
          have hrA12 : ∀ b, kd b = 12 → ∀ j, fldR (f_778 b) j = fldR (f b) j := fun b kb j => (hra_780 b kb j).trans (hrA12 b kb j)
          have hfA12 : ∀ b, kd b = 12 → ∀ j, j ≠ 6 → j ≠ 7 → j ≠ 8 → j ≠ 11 → j ≠ 12 → j ≠ 13 → j ≠ 14 → fldI (f_778 b) j = fldI (f b) j := fun b kb j n6 n7 n8 n11 n12 n13 n14 => (hfa_781 b kb j n6 n7 n8).trans (hfA12 b kb j n6 n7 n8 n11 n12 n13 n14)
          obtain ⟨a_786, a_787, a_788, v_789, a_790, v_791, v_792, v_793, v_794, v_795, v_796, v_797, v_798, v_799, v_800, a_801, a_802, a_803, a_804, a_805, a_806, a_807, a_808, v_809, v_810, v_811, v_812, v_813, a_814, v_815, a_816, a_817, v_818, v_819, a_820, v_821, a_822, a_823, v_824, v_825, a_826, a_827, a_828, v_829, a_830, a_831, a_832, a_833, a_834, a_835, a_836, a_837, a_838, v_839, v_840, a_841, hfo_785, ⟨ma_786, ka_786⟩, ⟨ma_787, ka_787⟩, ⟨ma_788, ka_788⟩, bv_789, ⟨ma_790, ka_790⟩, bv_791, bv_792, bv_797, bv_798, bv_799, ⟨ma_801, ka_801⟩, ⟨ma_802, ka_802⟩, ⟨ma_803, ka_803⟩, ⟨ma_804, ka_804⟩, ⟨ma_805, ka_805⟩, ⟨ma_806, ka_806⟩, ⟨ma_807, ka_807⟩, ⟨ma_808, ka_808⟩, bv_809, bv_811, bv_813, ⟨ma_814, ka_814⟩, bv_815, ⟨ma_816, ka_816⟩, ⟨ma_817, ka_817⟩, bv_818, ⟨ma_820, ka_820⟩, bv_821, ⟨ma_822, ka_822⟩, ⟨ma_823, ka_823⟩, bv_824, ⟨ma_826, ka_826⟩, ⟨ma_827, ka_827⟩, ⟨ma_828, ka_828⟩, bv_829, ⟨ma_830, ka_830⟩, ⟨ma_831, ka_831⟩, ⟨ma_832, ka_832⟩, ⟨ma_833, ka_833⟩, ⟨ma_834, ka_834⟩, ⟨ma_835, ka_835⟩, ⟨ma_836, ka_836⟩, ⟨ma_837, ka_837⟩, ⟨ma_838, ka_838⟩, bv_839, ⟨ma_841, ka_841⟩⟩ := un_12 (hG _ mo0) ko0
          have bv_793 : ((-2147483648) ≤ v_793.toInt ∧ v_793.toInt ≤ 2147483647) := ⟨i32_lo _, i32_hi _⟩
          have bv_794 : ((-2147483648) ≤ v_794.toInt ∧ v_794.toInt ≤ 2147483647) := ⟨i32_lo _, i32_hi _⟩
          have bv_795 : ((-2147483648) ≤ v_795.toInt ∧ v_795.toInt ≤ 2147483647) := ⟨i32_lo _, i32_hi _⟩
          have bv_796 : ((-2147483648) ≤ v_796.toInt ∧ v_796.toInt ≤ 2147483647) := ⟨i32_lo _, i32_hi _⟩
          have bv_800 : ((-2147483648) ≤ v_800.toInt ∧ v_800.toInt ≤ 2147483647) := ⟨i32_lo _, i32_hi _⟩
          have bv_810 : ((-2147483648) ≤ v_810.toInt ∧ v_810.toInt ≤ 2147483647) := ⟨i32_lo _, i32_hi _⟩
          have bv_812 : ((-2147483648) ≤ v_812.toInt ∧ v_812.toInt ≤ 2147483647) := ⟨i32_lo _, i32_hi _⟩
          have bv_819 : ((-2147483648) ≤ v_819.toInt ∧ v_819.toInt ≤ 2147483647) := ⟨i32_lo _, i32_hi _⟩
          have bv_825 : ((-2147483648) ≤ v_825.toInt ∧ v_825.toInt ≤ 2147483647) := ⟨i32_lo _, i32_hi _⟩
          have bv_840 : ((-2147483648) ≤ v_840.toInt ∧ v_840.toInt ≤ 2147483647) := ⟨i32_lo _, i32_hi _⟩
          obtain ⟨rfl, rfl, rfl, rfl, rfl, rfl, rfl, rfl, rfl, rfl, rfl, rfl, rfl, rfl, rfl, rfl, rfl, rfl, rfl, rfl, rfl, rfl, rfl, rfl, rfl, rfl, rfl, rfl, rfl, rfl, rfl⟩ := re_12 hfo_1 hfo_785 (hrA12 o0 ko0)
          obtain rfl := ri_12_3 hfo_1 hfo_785 (hfA12 o0 ko0 3 (by decide) (by decide) (by decide) (by decide) (by decide) (by decide) (by decide))
          obtain rfl := ri_12_5 hfo_1 hfo_785 (hfA12 o0 ko0 5 (by decide) (by decide) (by decide) (by decide) (by decide) (by decide) (by decide))
          obtain rfl := ri_12_23 hfo_1 hfo_785 (hfA12 o0 ko0 23 (by decide) (by decide) (by decide) (by decide) (by decide) (by decide) (by decide))
          obtain rfl := ri_12_25 hfo_1 hfo_785 (hfA12 o0 ko0 25 (by decide) (by decide) (by decide) (by decide) (by decide) (by decide) (by decide))
          obtain rfl := ri_12_27 hfo_1 hfo_785 (hfA12 o0 ko0 27 (by decide) (by decide) (by decide) (by decide) (by decide) (by decide) (by decide))
          obtain rfl := ri_12_29 hfo_1 hfo_785 (hfA12 o0 ko0 29 (by decide) (by decide) (by decide) (by decide) (by decide) (by decide) (by decide))
          obtain rfl := ri_12_32 hfo_1 hfo_785 (hfA12 o0 ko0 32 (by decide) (by decide) (by decide) (by decide) (by decide) (by decide) (by decide))
          obtain rfl := ri_12_33 hfo_1 hfo_785 (hfA12 o0 ko0 33 (by decide) (by decide) (by decide) (by decide) (by decide) (by decide) (by decide))
          obtain rfl := ri_12_35 hfo_1 hfo_785 (hfA12 o0 ko0 35 (by decide) (by decide) (by decide) (by decide) (by decide) (by decide) (by decide))
          obtain rfl := ri_12_38 hfo_1 hfo_785 (hfA12 o0 ko0 38 (by decide) (by decide) (by decide) (by decide) (by decide) (by decide) (by decide))
          obtain rfl := ri_12_43 hfo_1 hfo_785 (hfA12 o0 ko0 43 (by decide) (by decide) (by decide) (by decide) (by decide) (by decide) (by decide))
          obtain rfl := ri_12_53 hfo_1 hfo_785 (hfA12 o0 ko0 53 (by decide) (by decide) (by decide) (by decide) (by decide) (by decide) (by decide))
          obtain rfl := ri_12_11 hfo_65 hfo_785 (hfa_781 o0 ko0 11 (by decide) (by decide) (by decide))
          obtain rfl := ri_12_12 hfo_65 hfo_785 (hfa_781 o0 ko0 12 (by decide) (by decide) (by decide))
          obtain rfl := ri_12_13 hfo_65 hfo_785 (hfa_781 o0 ko0 13 (by decide) (by decide) (by decide))
          obtain rfl := ri_12_14 hfo_65 hfo_785 (hfa_781 o0 ko0 14 (by decide) (by decide) (by decide))
          have hqhpost_782 := hpost_782 v_72 v_792 (by rw [hfo_65]; rfl) (by rw [hfo_785]; rfl)
          have hMm_842 : ∀ z9, fldI (f_778 o0) 6 = some z9 → v_8.toInt ≤ z9.toInt := fun z9 h9 => by rw [hfo_785] at h9; obtain rfl := Option.some.inj h9; have h8 := hM v_72 (by rw [hfo_65]; rfl); omega
          have hT_843 := hTc_783 a_3 (by rw [hfo_785]; rfl)
          have hM9 := hMm_842 v_792 (by rw [hfo_785]; rfl)
          exact W.zret (v := x_777) (ty := .boolean) hx hb hr (zb_n (by constructor <;> omega)) (fun t ht hW => ⟨⟨x_777, f_778, rfl, ⟨hG, (by constructor <;> omega), hfr0, hrA12, hfA12, (by intro w6 z6 e6 d6; rw [hfo_1] at e6; rw [hfo_785] at d6; obtain rfl := Option.some.inj e6; obtain rfl := Option.some.inj d6; omega), (fun d9 h9 => by rw [hfo_785] at h9; obtain rfl := Option.some.inj h9; exact hT_843)⟩, by rw [ht]; exact hP, va_K.moved hW.alike hK, pl_in hD⟩, hS.F ht⟩) hS.2.2 dX12_statement_52
      · skip
        rw [← Int32.toInt_inj, ti_0] at c_129
        have hclc_844 : (0 ≤ v_72.toInt ∧ v_72.toInt ≤ 599) := by constructor <;> omega
        refine lv_aload_n hx hb dX12_statement_19 rfl (lv_at hl 1 rfl) ?_
        refine lv_dup hx hb dX12_statement_20 rfl ?_
        refine tk_getP (D := (dC, dI)) (ci := 12) (v := .int v_72) (C := RX12) (T := TX12) (N := 56) hx hb hU inlX12 hown hK hP mo0 hfo_65 rfl 6 (by decide) (hU _ wd_566) (fun _ h9 => h9) rfl dX12_statement_21 ?_
        refine lv_iconst (v := 1) hx hb dX12_statement_24 (by decide) ?_
        refine lv_iadd hx hb dX12_statement_25 ?_
        refine lv_topi (fun x_845 ex_845 => ?_)
        have hx_845 : x_845.toInt = v_72.toInt + 1 := by rw [ex_845, ad_I (by rw [ti_1]; omega) (by rw [ti_1]; omega), ti_1]
        have bx_845 : (1 ≤ x_845.toInt ∧ x_845.toInt ≤ 600) := by constructor <;> omega
        refine tk_putP (D := (dC, dI)) (ci := 12) (v := .int x_845) (ty := .int) (C := RX12) (T := TX12) (N := 56) hx hb hU inlX12 tyX12 tyX12_ok nmX12 hown hK hP hD hS mo0 hfo_65 rfl 6 (by decide) (hU _ wd_566) (fun _ h9 => h9) rfl (by decide +kernel) rfl rfl (Nat.le_of_ble_eq_true rfl) dX12_statement_26 (fun H locs hP hD hS => ?_)
        obtain ⟨f_847, ef_847⟩ : ∃ y : Nat → va_E, y = va_up f_64 o0 (.inr (12, [.ref a_2, .ref a_3, .ref a_4, .int v_5, .ref a_6, .int v_7, .int x_845, .int v_73, .int v_74, .int v_75, .int v_76, .int v_77, .int v_78, .int v_79, .int v_80, .ref a_17, .ref a_18, .ref a_19, .ref a_20, .ref a_21, .ref a_22, .ref a_23, .ref a_24, .int v_25, .int v_90, .int v_27, .int v_92, .int v_29, .ref a_30, .int v_31, .ref a_32, .ref a_33, .int v_34, .int v_35, .ref a_36, .int v_37, .ref a_38, .ref a_39, .int v_40, .int v_105, .ref a_42, .ref a_43, .ref a_44, .int v_45, .ref a_46, .ref a_47, .ref a_48, .ref a_49, .ref a_50, .ref a_51, .ref a_52, .ref a_53, .ref a_54, .int v_55, .int v_120, .ref a_57])) := ⟨_, rfl⟩
        have hP : va_P (dC, dI) vwCl (va_pl L f_847) H := by rw [ef_847]; exact hP
        have hD : va_D (fun q => q ∈ L) (va_pl L f_847) := by rw [ef_847]; exact hD
        have hG : GI (okc cI cL cZ cR cG cH L kd) kd L f_847 := by rw [ef_847]; exact hG.set o0 (mk_12 ko0 ⟨a_2, a_3, a_4, v_5, a_6, v_7, x_845, v_73, v_74, v_75, v_76, v_77, v_78, v_79, v_80, a_17, a_18, a_19, a_20, a_21, a_22, a_23, a_24, v_25, v_90, v_27, v_92, v_29, a_30, v_31, a_32, a_33, v_34, v_35, a_36, v_37, a_38, a_39, v_40, v_105, a_42, a_43, a_44, v_45, a_46, a_47, a_48, a_49, a_50, a_51, a_52, a_53, a_54, v_55, v_120, a_57, rfl, ⟨ma_2, ka_2⟩, ⟨ma_3, ka_3⟩, ⟨ma_4, ka_4⟩, (by constructor <;> omega), ⟨ma_6, ka_6⟩, (by constructor <;> omega), (by constructor <;> omega), (by constructor <;> omega), (by constructor <;> omega), (by constructor <;> omega), ⟨ma_17, ka_17⟩, ⟨ma_18, ka_18⟩, ⟨ma_19, ka_19⟩, ⟨ma_20, ka_20⟩, ⟨ma_21, ka_21⟩, ⟨ma_22, ka_22⟩, ⟨ma_23, ka_23⟩, ⟨ma_24, ka_24⟩, (by constructor <;> omega), (by constructor <;> omega), (by constructor <;> omega), ⟨ma_30, ka_30⟩, (by constructor <;> omega), ⟨ma_32, ka_32⟩, ⟨ma_33, ka_33⟩, (by constructor <;> omega), ⟨ma_36, ka_36⟩, (by constructor <;> omega), ⟨ma_38, ka_38⟩, ⟨ma_39, ka_39⟩, (by constructor <;> omega), ⟨ma_42, ka_42⟩, ⟨ma_43, ka_43⟩, ⟨ma_44, ka_44⟩, (by constructor <;> omega), ⟨ma_46, ka_46⟩, ⟨ma_47, ka_47⟩, ⟨ma_48, ka_48⟩, ⟨ma_49, ka_49⟩, ⟨ma_50, ka_50⟩, ⟨ma_51, ka_51⟩, ⟨ma_52, ka_52⟩, ⟨ma_53, ka_53⟩, ⟨ma_54, ka_54⟩, (by constructor <;> omega), ⟨ma_57, ka_57⟩⟩)
        have hfr0 : ∀ b, kd b ≠ 12 → kd b ≠ 576 → f_847 b = f b := fun b q12 q576 => (congrFun ef_847 b).trans ((up_ne (fun e9 => q12 (by rw [e9]; exact ko0))).trans (hfr0 b q12 q576))
        have hrA12 : ∀ b, kd b = 12 → ∀ j, fldR (f_847 b) j = fldR (f b) j := fun b kb j => ((congrArg (fun x => fldR x j) (congrFun ef_847 b)).trans (fra_up (fun j => by rw [hfo_65]; exact fr_set (k := 6) rfl rfl j) j b)).trans (hrA12 b kb j)
        have hfA12 : ∀ b, kd b = 12 → ∀ j, j ≠ 6 → j ≠ 7 → j ≠ 8 → j ≠ 11 → j ≠ 12 → j ≠ 13 → j ≠ 14 → fldI (f_847 b) j = fldI (f b) j := fun b kb j n6 n7 n8 n11 n12 n13 n14 => ((congrArg (fun x => fldI x j) (congrFun ef_847 b)).trans (fia_up (fun h9 => by rw [hfo_65]; exact fi_set (k := 6) rfl h9) n6 b)).trans (hfA12 b kb j n6 n7 n8 n11 n12 n13 n14)
        have hT0 : frel kd 576 8 f_847 a_3 := by rw [ef_847]; exact hT0.keep (fun b q => up_ne (kd_ne ko0 q (by decide)))
        have hM : ∀ z9, fldI (f_847 o0) 6 = some z9 → v_8.toInt ≤ z9.toInt := by rw [ef_847]; exact (fun z9 h9 => by rw [up_self] at h9; obtain rfl := Option.some.inj h9; have h8 := hM v_72 (by rw [hfo_65]; rfl); omega)
        have hfo_848 : f_847 o0 = .inr (12, [.ref a_2, .ref a_3, .ref a_4, .int v_5, .ref a_6, .int v_7, .int x_845, .int v_73, .int v_74, .int v_75, .int v_76, .int v_77, .int v_78, .int v_79, .int v_80, .ref a_17, .ref a_18, .ref a_19, .ref a_20, .ref a_21, .ref a_22, .ref a_23, .ref a_24, .int v_25, .int v_90, .int v_27, .int v_92, .int v_29, .ref a_30, .int v_31, .ref a_32, .ref a_33, .int v_34, .int v_35, .ref a_36, .int v_37, .ref a_38, .ref a_39, .int v_40, .int v_105, .ref a_42, .ref a_43, .ref a_44, .int v_45, .ref a_46, .ref a_47, .ref a_48, .ref a_49, .ref a_50, .ref a_51, .ref a_52, .ref a_53, .ref a_54, .int v_55, .int v_120, .ref a_57]) := by rw [ef_847]; exact up_self
        refine lv_goto (tgt := 5) hx hb dX12_statement_29 (by decide) ?_
        exact ih_hloop_62 f_847 hG _ _ hP hS hD hfr0 hrA12 hfA12 hT0 hM x_845 (by rw [hfo_848]; rfl) (by omega) (by omega) (by omega) ls (lv_sub hl [0, 1] rfl)
  exact hloop_62 601 f hG _ _ hP hS hD hfr0 hrA12 hfA12 hT0 hM v_8 (by rw [hfo_1]; rfl) (by omega) (by omega) (by omega) ls hl
