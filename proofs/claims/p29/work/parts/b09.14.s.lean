set_option maxHeartbeats 8000000 in
set_option maxRecDepth 100000 in
theorem s_X12_statement_k12 (l : Launch) (D : va_G) (cI cL cZ cR cG cH : ClassId) (Z : zT) (kd : Nat → Nat) (L : List Nat) (f : Nat → va_E) (hG : GI (okc cI cL cZ cR cG cH L kd) kd L f) (o0 : Nat) (mo0 : o0 ∈ L) (ko0 : kd o0 = 12) (hxtr0 : ∀ d9, fldR (f o0) 1 = some d9 → frel kd 576 8 f d9) : mPI l D cI cL cZ cR cG cH Z yX12_statement cX12_statement 3 (some .boolean) 8 175 [.ref o0] L f (fun (r : Int32) (f9 : Nat → va_E) => GI (okc cI cL cZ cR cG cH L kd) kd L f9 ∧ (0 ≤ r.toInt ∧ r.toInt ≤ 1) ∧ (∀ b, kd b ≠ 12 → kd b ≠ 576 → f9 b = f b) ∧ (∀ b, kd b = 12 → ∀ j, fldR (f9 b) j = fldR (f b) j) ∧ (∀ b, kd b = 12 → ∀ j, j ≠ 6 → j ≠ 7 → j ≠ 8 → j ≠ 11 → j ≠ 12 → j ≠ 13 → j ≠ 14 → fldI (f9 b) j = fldI (f b) j) ∧ (∀ (w6 z6 : Int32), fldI (f o0) 6 = some w6 → fldI (f9 o0) 6 = some z6 → w6.toInt ≤ z6.toInt) ∧ (∀ d9, fldR (f9 o0) 1 = some d9 → frel kd 576 8 f9 d9)) := by
  obtain ⟨dC, dI⟩ := D
  refine Met.ofW (cc := cX12_statement) (maxL := 3) (ret := (some .boolean)) (by decide) rfl ?_
  intro p e s m args below meth c s₁ B hml hv
  obtain ⟨rfl, hP, hK, hD0, hN, hZ⟩ := hv
  have hx := B.exec
  have hb := B.bytes
  have hr := B.returns
  have hU : ∀ w ∈ wsU, w.before _ s = true := fun w h => atoms_spec (ws := wU yX12_statement cX12_statement 3 (some .boolean)) B.pre w (List.mem_cons_of_mem _ h)
  have hown : s.vm.findClass RX12 = some m.cls := findClass_of_methodNamed B.named
  have hlocks := B.notSynchronized
  have hD := pl_in hD0
  have hS : va_S (fun q => q ∈ L) s.heap s.heap [] := va_S.rf
  have hl := lv_entry ([.ref o0]) (n := 3) (Nat.le_of_ble_eq_true rfl)
  rw [lg_entry_eq]
  generalize (lg_sl ([.ref o0]) ++ List.replicate (3 - (lg_sl ([.ref o0])).length) Slot.unset).toArray = ls at hl ⊢
  have hl : lv_has ls 3 [(0, .ref o0)] := hl
  have hfr0 : ∀ b, kd b ≠ 12 → kd b ≠ 576 → f b = f b := fun _ _ _ => rfl
  have hrA12 : ∀ b, kd b = 12 → ∀ j, fldR (f b) j = fldR (f b) j := fun _ _ _ => rfl
  have hfA12 : ∀ b, kd b = 12 → ∀ j, j ≠ 6 → j ≠ 7 → j ≠ 8 → j ≠ 11 → j ≠ 12 → j ≠ 13 → j ≠ 14 → fldI (f b) j = fldI (f b) j := fun _ _ _ _ _ _ _ _ _ _ => rfl
  obtain ⟨a_1, a_2, a_3, v_4, a_5, v_6, v_7, v_8, v_9, v_10, v_11, v_12, v_13, v_14, v_15, a_16, a_17, a_18, a_19, a_20, a_21, a_22, a_23, v_24, v_25, v_26, v_27, v_28, a_29, v_30, a_31, a_32, v_33, v_34, a_35, v_36, a_37, a_38, v_39, v_40, a_41, a_42, a_43, v_44, a_45, a_46, a_47, a_48, a_49, a_50, a_51, a_52, a_53, v_54, v_55, a_56, hfo_57, fa_58⟩ := un12 (hG _ mo0) ko0
  obtain ⟨ma_2, ka_2⟩ := fa12_1 fa_58
  have bv_6 : (0 ≤ v_6.toInt ∧ v_6.toInt ≤ 600) := fa12_5 fa_58
  have bv_7 : (0 ≤ v_7.toInt ∧ v_7.toInt ≤ 600) := fa12_6 fa_58
  have hT0 := hxtr0 a_2 (by rw [hfo_57]; rfl)
  have hM : (∀ z9, fldI (f o0) 6 = some z9 → v_7.toInt ≤ z9.toInt) := fun z9 h9 => by rw [hfo_57] at h9; obtain rfl := Option.some.inj h9; exact Int.le_refl _
  refine lv_aload_n hx hb dX12_statement_0 rfl (lv_at hl 0 rfl) ?_
  refine tk_getP (D := (dC, dI)) (ci := 12) (v := .int v_7) (C := RX12) (T := TX12) (N := 56) hx hb hU inlX12 hown hK hP mo0 hfo_57 rfl 6 (by decide) (hU _ wd_566) (fun _ h9 => h9) rfl dX12_statement_1 ?_
  refine lv_istore_n (lv' := [(1, .int v_7), (0, .ref o0)]) hx hb dX12_statement_4 rfl hl (by decide) rfl (fun ls hl => ?_)
  have hloop_63 : ∀ (n : Nat), ∀ (f_65 : Nat → va_E), GI (okc cI cL cZ cR cG cH L kd) kd L f_65 → ∀ (H : Heap) (locs : List Loc), va_P (dC, dI) vwCl (va_pl L f_65) H → va_S (fun q => q ∈ L) s.heap H locs → va_D (fun q => q ∈ L) (va_pl L f_65) → (∀ b, kd b ≠ 12 → kd b ≠ 576 → f_65 b = f b) → (∀ b, kd b = 12 → ∀ j, fldR (f_65 b) j = fldR (f b) j) → (∀ b, kd b = 12 → ∀ j, j ≠ 6 → j ≠ 7 → j ≠ 8 → j ≠ 11 → j ≠ 12 → j ≠ 13 → j ≠ 14 → fldI (f_65 b) j = fldI (f b) j) → frel kd 576 8 f_65 a_2 → (∀ z9, fldI (f_65 o0) 6 = some z9 → v_7.toInt ≤ z9.toInt) → ∀ (whloop_63_0_6 : Int32), fldI (f_65 o0) 6 = some whloop_63_0_6 → (v_7.toInt ≤ whloop_63_0_6.toInt) → (0 ≤ whloop_63_0_6.toInt ∧ whloop_63_0_6.toInt ≤ 600) → 600 - whloop_63_0_6.toInt < (n : Int) → ∀ (ls : Array Slot), lv_has ls 3 [(1, .int v_7), (0, .ref o0)] → W p l e (headSpec (wU yX12_statement cX12_statement 3 (some .boolean)) { frames := 8, cells := 0, slots := 0, locals := 175 }).room s m [.ref o0].toArray below meth c H locs 0 0 (MQ below (va_Qi (fun (r : Int32) (f9 : Nat → va_E) => GI (okc cI cL cZ cR cG cH L kd) kd L f9 ∧ (0 ≤ r.toInt ∧ r.toInt ≤ 1) ∧ (∀ b, kd b ≠ 12 → kd b ≠ 576 → f9 b = f b) ∧ (∀ b, kd b = 12 → ∀ j, fldR (f9 b) j = fldR (f b) j) ∧ (∀ b, kd b = 12 → ∀ j, j ≠ 6 → j ≠ 7 → j ≠ 8 → j ≠ 11 → j ≠ 12 → j ≠ 13 → j ≠ 14 → fldI (f9 b) j = fldI (f b) j) ∧ (∀ (w6 z6 : Int32), fldI (f o0) 6 = some w6 → fldI (f9 o0) 6 = some z6 → w6.toInt ≤ z6.toInt) ∧ (∀ d9, fldR (f9 o0) 1 = some d9 → frel kd 576 8 f9 d9)) (qP (dC, dI) cI cL cZ cR cG cH L) (fun q => q ∈ L)) [.ref o0].toArray s 0 0 (fun q => q ∈ L)) (F0 m 5 ls []) := by
    intro n
    induction n with
    | zero => intro f_65 hG H locs hP hS hD hfr0 hrA12 hfA12 hT0 hM whloop_63_0_6 hghloop_63_0_6 hrelhloop_63_0 hrelhloop_63_1 hmuhloop_63 ls hl; exfalso; omega
    | succ n ih_hloop_63 =>
      intro f_65 hG H locs hP hS hD hfr0 hrA12 hfA12 hT0 hM whloop_63_0_6 hghloop_63_0_6 hrelhloop_63_0 hrelhloop_63_1 hmuhloop_63 ls hl
      obtain ⟨v_66, v_67, v_68, v_69, v_70, v_71, v_72, hfo_73, fa_74⟩ := op12_6_7_8_11_12_13_14 hfo_57 (hG _ mo0) ko0 (hrA12 o0 ko0) (hfA12 o0 ko0)
      have bv_66 : (0 ≤ v_66.toInt ∧ v_66.toInt ≤ 600) := fa12_6 fa_74
      have bv_67 : ((-2147483648) ≤ v_67.toInt ∧ v_67.toInt ≤ 2147483647) := ⟨i32_lo _, i32_hi _⟩
      have bv_68 : ((-2147483648) ≤ v_68.toInt ∧ v_68.toInt ≤ 2147483647) := ⟨i32_lo _, i32_hi _⟩
      have bv_69 : (0 ≤ v_69.toInt ∧ v_69.toInt ≤ 8) := fa12_11 fa_74
      have bv_70 : (0 ≤ v_70.toInt ∧ v_70.toInt ≤ 8) := fa12_12 fa_74
      have bv_71 : (0 ≤ v_71.toInt ∧ v_71.toInt ≤ 8) := fa12_13 fa_74
      have bv_72 : ((-2147483648) ≤ v_72.toInt ∧ v_72.toInt ≤ 2147483647) := ⟨i32_lo _, i32_hi _⟩
      obtain rfl : v_66 = whloop_63_0_6 := by rw [hfo_73] at hghloop_63_0_6; exact Option.some.inj hghloop_63_0_6
      refine lv_aload_n hx hb dX12_statement_5 rfl (lv_at hl 1 rfl) ?_
      refine lv_aload_n hx hb dX12_statement_6 rfl (lv_at hl 1 rfl) ?_
      refine tk_getP (D := (dC, dI)) (ci := 12) (v := .int v_66) (C := RX12) (T := TX12) (N := 56) hx hb hU inlX12 hown hK hP mo0 hfo_73 rfl 6 (by decide) (hU _ wd_566) (fun _ h9 => h9) rfl dX12_statement_7 ?_
      refine tk_ViP (As := [.int v_66]) (rest := []) (n := 1) hx hb hml hown hU hN hZ (s_X12_see_k12 l (dC, dI) cI cL cZ cR cG cH Z kd L f_65 hG o0 mo0 ko0 v_66 (by constructor <;> omega)) wd_581 wd_582 wd_583 wd_5 wd_584 (by decide +kernel) ⟨Nat.le_of_ble_eq_true rfl, Nat.le_of_ble_eq_true rfl⟩ hK hP hD hS mo0 hfo_73 12 rfl rfl rfl hl.1 rfl (Nat.le_of_ble_eq_true rfl) dX12_statement_10 ⟨Nat.le_of_ble_eq_true rfl, Nat.le_of_ble_eq_true rfl⟩ (fun x_75 f_76 H locs hw hP hD hS => ?_)
      obtain ⟨rfl, bx_75, hxp_77⟩ := hw
      have hsex_75 := hxp_77 v_6 (by rw [hfo_73]; rfl)
      refine tk_SiP (As := [.int x_75]) (rest := []) (n := 1) hx hb hml hown hU hN hZ (s_X12_isSmall l (dC, dI) cI cL cZ cR cG cH Z kd L f_65 hG x_75) wd_589 wd_590 wd_5 wd_591 (by decide +kernel) ⟨Nat.le_of_ble_eq_true rfl, Nat.le_of_ble_eq_true rfl⟩ hK hP hD hS rfl hl.1 rfl (Nat.le_of_ble_eq_true rfl) dX12_statement_13 ⟨Nat.le_of_ble_eq_true rfl, Nat.le_of_ble_eq_true rfl⟩ (fun x_79 f_80 H locs hw hP hD hS => ?_)
      obtain ⟨rfl, bx_79, relx_79⟩ := hw
      refine lv_if_eq (tgt := 32) hx hb dX12_statement_16 (by decide) (fun c_82 => ?_) (fun c_82 => ?_)
      · skip
        rw [← Int32.toInt_inj, ti_0] at c_82
        refine lv_aload_n hx hb dX12_statement_32 rfl (lv_at hl 1 rfl) ?_
        refine tk_getP (D := (dC, dI)) (ci := 12) (v := .int v_66) (C := RX12) (T := TX12) (N := 56) hx hb hU inlX12 hown hK hP mo0 hfo_73 rfl 6 (by decide) (hU _ wd_566) (fun _ h9 => h9) rfl dX12_statement_33 ?_
        refine lv_istore_n (lv' := [(2, .int v_66), (1, .int v_7), (0, .ref o0)]) hx hb dX12_statement_36 rfl hl (by decide) rfl (fun ls hl => ?_)
        refine lv_aload_n hx hb dX12_statement_37 rfl (lv_at hl 2 rfl) ?_
        refine lv_iload_n hx hb dX12_statement_38 rfl (lv_at hl 1 rfl) ?_
        refine lv_iload_n hx hb dX12_statement_39 rfl (lv_at hl 0 rfl) ?_
        refine va_ldcS hx hb hown hZ.2.2.2.2.2.2.2.2.2.2.2.2.2.2.2.1 dX12_statement_40 ?_
        refine tk_ViP (As := [.int v_7, .int v_66, .ref (Z.1 0)]) (rest := []) (n := 3) hx hb hml hown hU hN hZ (s_X12_is_k12 l (dC, dI) cI cL cZ cR cG cH Z kd L f_65 hG o0 mo0 ko0 v_7 (by constructor <;> omega) v_66 (by constructor <;> omega) 0 (by decide)) wd_592 wd_593 wd_594 wd_5 wd_595 (by decide +kernel) ⟨Nat.le_of_ble_eq_true rfl, Nat.le_of_ble_eq_true rfl⟩ hK hP hD hS mo0 hfo_73 12 rfl rfl rfl hl.1 rfl (Nat.le_of_ble_eq_true rfl) dX12_statement_42 ⟨Nat.le_of_ble_eq_true rfl, Nat.le_of_ble_eq_true rfl⟩ (fun x_83 f_84 H locs hw hP hD hS => ?_)
        obtain ⟨rfl, bx_83⟩ := hw
        refine lv_if_eq (tgt := 53) hx hb dX12_statement_45 (by decide) (fun c_86 => ?_) (fun c_86 => ?_)
        · skip
          rw [← Int32.toInt_inj, ti_0] at c_86
          refine lv_aload_n hx hb dX12_statement_53 rfl (lv_at hl 2 rfl) ?_
          refine lv_iload_n hx hb dX12_statement_54 rfl (lv_at hl 1 rfl) ?_
          refine lv_iload_n hx hb dX12_statement_55 rfl (lv_at hl 0 rfl) ?_
          refine va_ldcS hx hb hown hZ.2.2.2.2.2.2.2.2.2.2.2.2.2.2.2.2.1 dX12_statement_56 ?_
          refine tk_ViP (As := [.int v_7, .int v_66, .ref (Z.1 1)]) (rest := []) (n := 3) hx hb hml hown hU hN hZ (s_X12_is_k12 l (dC, dI) cI cL cZ cR cG cH Z kd L f_65 hG o0 mo0 ko0 v_7 (by constructor <;> omega) v_66 (by constructor <;> omega) 1 (by decide)) wd_592 wd_593 wd_594 wd_5 wd_595 (by decide +kernel) ⟨Nat.le_of_ble_eq_true rfl, Nat.le_of_ble_eq_true rfl⟩ hK hP hD hS mo0 hfo_73 12 rfl rfl rfl hl.1 rfl (Nat.le_of_ble_eq_true rfl) dX12_statement_58 ⟨Nat.le_of_ble_eq_true rfl, Nat.le_of_ble_eq_true rfl⟩ (fun x_87 f_88 H locs hw hP hD hS => ?_)
          obtain ⟨rfl, bx_87⟩ := hw
          refine lv_if_eq (tgt := 69) hx hb dX12_statement_61 (by decide) (fun c_90 => ?_) (fun c_90 => ?_)
          · skip
            rw [← Int32.toInt_inj, ti_0] at c_90
            refine lv_aload_n hx hb dX12_statement_69 rfl (lv_at hl 2 rfl) ?_
            refine lv_iload_n hx hb dX12_statement_70 rfl (lv_at hl 1 rfl) ?_
            refine lv_iload_n hx hb dX12_statement_71 rfl (lv_at hl 0 rfl) ?_
            refine va_ldcS hx hb hown hZ.2.2.2.2.2.2.2.2.2.2.2.2.2.2.2.2.2.1 dX12_statement_72 ?_
            refine tk_ViP (As := [.int v_7, .int v_66, .ref (Z.1 2)]) (rest := []) (n := 3) hx hb hml hown hU hN hZ (s_X12_is_k12 l (dC, dI) cI cL cZ cR cG cH Z kd L f_65 hG o0 mo0 ko0 v_7 (by constructor <;> omega) v_66 (by constructor <;> omega) 2 (by decide)) wd_592 wd_593 wd_594 wd_5 wd_595 (by decide +kernel) ⟨Nat.le_of_ble_eq_true rfl, Nat.le_of_ble_eq_true rfl⟩ hK hP hD hS mo0 hfo_73 12 rfl rfl rfl hl.1 rfl (Nat.le_of_ble_eq_true rfl) dX12_statement_74 ⟨Nat.le_of_ble_eq_true rfl, Nat.le_of_ble_eq_true rfl⟩ (fun x_91 f_92 H locs hw hP hD hS => ?_)
            obtain ⟨rfl, bx_91⟩ := hw
            refine lv_if_eq (tgt := 85) hx hb dX12_statement_77 (by decide) (fun c_94 => ?_) (fun c_94 => ?_)
            · skip
              rw [← Int32.toInt_inj, ti_0] at c_94
              refine lv_aload_n hx hb dX12_statement_85 rfl (lv_at hl 2 rfl) ?_
              refine lv_iload_n hx hb dX12_statement_86 rfl (lv_at hl 1 rfl) ?_
              refine lv_iload_n hx hb dX12_statement_87 rfl (lv_at hl 0 rfl) ?_
              refine va_ldcS hx hb hown hZ.2.2.2.2.2.2.2.2.2.2.2.2.2.2.2.2.2.2.1 dX12_statement_88 ?_
              refine tk_ViP (As := [.int v_7, .int v_66, .ref (Z.1 3)]) (rest := []) (n := 3) hx hb hml hown hU hN hZ (s_X12_is_k12 l (dC, dI) cI cL cZ cR cG cH Z kd L f_65 hG o0 mo0 ko0 v_7 (by constructor <;> omega) v_66 (by constructor <;> omega) 3 (by decide)) wd_592 wd_593 wd_594 wd_5 wd_595 (by decide +kernel) ⟨Nat.le_of_ble_eq_true rfl, Nat.le_of_ble_eq_true rfl⟩ hK hP hD hS mo0 hfo_73 12 rfl rfl rfl hl.1 rfl (Nat.le_of_ble_eq_true rfl) dX12_statement_90 ⟨Nat.le_of_ble_eq_true rfl, Nat.le_of_ble_eq_true rfl⟩ (fun x_95 f_96 H locs hw hP hD hS => ?_)
              obtain ⟨rfl, bx_95⟩ := hw
              refine lv_if_eq (tgt := 122) hx hb dX12_statement_93 (by decide) (fun c_98 => ?_) (fun c_98 => ?_)
              · skip
                rw [← Int32.toInt_inj, ti_0] at c_98
                refine lv_aload_n hx hb dX12_statement_122 rfl (lv_at hl 2 rfl) ?_
                refine lv_iload_n hx hb dX12_statement_123 rfl (lv_at hl 1 rfl) ?_
                refine lv_iload_n hx hb dX12_statement_124 rfl (lv_at hl 0 rfl) ?_
                refine va_ldcS hx hb hown hZ.2.2.2.2.2.2.2.2.2.2.2.2.2.2.2.2.2.2.2.1 dX12_statement_125 ?_
                refine tk_ViP (As := [.int v_7, .int v_66, .ref (Z.1 4)]) (rest := []) (n := 3) hx hb hml hown hU hN hZ (s_X12_is_k12 l (dC, dI) cI cL cZ cR cG cH Z kd L f_65 hG o0 mo0 ko0 v_7 (by constructor <;> omega) v_66 (by constructor <;> omega) 4 (by decide)) wd_592 wd_593 wd_594 wd_5 wd_595 (by decide +kernel) ⟨Nat.le_of_ble_eq_true rfl, Nat.le_of_ble_eq_true rfl⟩ hK hP hD hS mo0 hfo_73 12 rfl rfl rfl hl.1 rfl (Nat.le_of_ble_eq_true rfl) dX12_statement_127 ⟨Nat.le_of_ble_eq_true rfl, Nat.le_of_ble_eq_true rfl⟩ (fun x_99 f_100 H locs hw hP hD hS => ?_)
                obtain ⟨rfl, bx_99⟩ := hw
                refine lv_if_eq (tgt := 184) hx hb dX12_statement_130 (by decide) (fun c_102 => ?_) (fun c_102 => ?_)
                · skip
                  rw [← Int32.toInt_inj, ti_0] at c_102
                  refine lv_aload_n hx hb dX12_statement_184 rfl (lv_at hl 2 rfl) ?_
                  refine lv_iload_n hx hb dX12_statement_185 rfl (lv_at hl 1 rfl) ?_
                  refine lv_iload_n hx hb dX12_statement_186 rfl (lv_at hl 0 rfl) ?_
                  refine va_ldcS hx hb hown hZ.2.2.2.2.2.2.2.2.2.2.2.2.2.2.2.2.2.2.2.2 dX12_statement_187 ?_
                  refine tk_ViP (As := [.int v_7, .int v_66, .ref (Z.1 5)]) (rest := []) (n := 3) hx hb hml hown hU hN hZ (s_X12_is_k12 l (dC, dI) cI cL cZ cR cG cH Z kd L f_65 hG o0 mo0 ko0 v_7 (by constructor <;> omega) v_66 (by constructor <;> omega) 5 (by decide)) wd_592 wd_593 wd_594 wd_5 wd_595 (by decide +kernel) ⟨Nat.le_of_ble_eq_true rfl, Nat.le_of_ble_eq_true rfl⟩ hK hP hD hS mo0 hfo_73 12 rfl rfl rfl hl.1 rfl (Nat.le_of_ble_eq_true rfl) dX12_statement_189 ⟨Nat.le_of_ble_eq_true rfl, Nat.le_of_ble_eq_true rfl⟩ (fun x_103 f_104 H locs hw hP hD hS => ?_)
                  obtain ⟨rfl, bx_103⟩ := hw
                  refine lv_if_eq (tgt := 247) hx hb dX12_statement_192 (by decide) (fun c_106 => ?_) (fun c_106 => ?_)
                  · skip
                    rw [← Int32.toInt_inj, ti_0] at c_106
                    refine lv_aload_n hx hb dX12_statement_247 rfl (lv_at hl 2 rfl) ?_
                    refine lv_iconst (v := 1) hx hb dX12_statement_248 (by decide) ?_
                    refine lv_iload_n hx hb dX12_statement_249 rfl (lv_at hl 1 rfl) ?_
                    refine tk_ViP (As := [.int 1, .int v_7]) (rest := []) (n := 2) hx hb hml hown hU hN hZ (s_X12_bad_k12 l (dC, dI) cI cL cZ cR cG cH Z kd L f_65 hG o0 mo0 ko0 1 v_7) wd_602 wd_603 wd_604 wd_5 wd_605 (by decide +kernel) ⟨Nat.le_of_ble_eq_true rfl, Nat.le_of_ble_eq_true rfl⟩ hK hP hD hS mo0 hfo_73 12 rfl rfl rfl hl.1 rfl (Nat.le_of_ble_eq_true rfl) dX12_statement_250 ⟨Nat.le_of_ble_eq_true rfl, Nat.le_of_ble_eq_true rfl⟩ (fun x_107 f_108 H locs hw hP hD hS => ?_)
                    obtain ⟨hG, bx_107, hkc_109, hra_110, hfa_111⟩ := hw
                    have hfr0 : ∀ b, kd b ≠ 12 → kd b ≠ 576 → f_108 b = f b := fun b q12 q576 => (hkc_109 b q12).trans (hfr0 b q12 q576)
                    have hrA12 : ∀ b, kd b = 12 → ∀ j, fldR (f_108 b) j = fldR (f b) j := fun b kb j => (hra_110 b kb j).trans (hrA12 b kb j)
                    have hfA12 : ∀ b, kd b = 12 → ∀ j, j ≠ 6 → j ≠ 7 → j ≠ 8 → j ≠ 11 → j ≠ 12 → j ≠ 13 → j ≠ 14 → fldI (f_108 b) j = fldI (f b) j := fun b kb j n6 n7 n8 n11 n12 n13 n14 => (hfa_111 b kb j n7 n8).trans (hfA12 b kb j n6 n7 n8 n11 n12 n13 n14)
                    have hT0 : frel kd 576 8 f_108 a_2 := hT0.keep (fun b q => hkc_109 b (by rw [q]; decide))
                    have hM : (∀ z9, fldI (f_108 o0) 6 = some z9 → v_7.toInt ≤ z9.toInt) := (fun z9 h9 => hM z9 (by rw [hfa_111 o0 ko0 6 (by decide) (by decide)] at h9; exact h9))
                    obtain ⟨v_113, v_114, hfo_115, fa_116⟩ := op12_7_8 hfo_73 (hG _ mo0) ko0 (hra_110 o0 ko0) (hfa_111 o0 ko0)
                    have bv_113 : ((-2147483648) ≤ v_113.toInt ∧ v_113.toInt ≤ 2147483647) := ⟨i32_lo _, i32_hi _⟩
                    have bv_114 : ((-2147483648) ≤ v_114.toInt ∧ v_114.toInt ≤ 2147483647) := ⟨i32_lo _, i32_hi _⟩
                    have hM9 := hM v_66 (by rw [hfo_115]; rfl)
                    exact W.zret (v := x_107) (ty := .boolean) hx hb hr (zb_n (by constructor <;> omega)) (fun t ht hW => ⟨⟨x_107, f_108, rfl, ⟨hG, (by constructor <;> omega), hfr0, hrA12, hfA12, (by intro w6 z6 e6 d6; rw [hfo_57] at e6; rw [hfo_115] at d6; obtain rfl := Option.some.inj e6; obtain rfl := Option.some.inj d6; omega), (fun d9 h9 => by rw [hfo_115] at h9; obtain rfl := Option.some.inj h9; exact hT0)⟩, by rw [ht]; exact hP, va_K.moved hW.alike hK, pl_in hD⟩, hS.F ht⟩) hS.2.2 dX12_statement_253
                  · skip
                    rw [← Int32.toInt_inj, ti_0] at c_106
                    refine lv_aload_n hx hb dX12_statement_195 rfl (lv_at hl 2 rfl) ?_
                    refine tk_getP (D := (dC, dI)) (ci := 12) (v := .ref a_2) (C := RX12) (T := TX12) (N := 56) hx hb hU inlX12 hown hK hP mo0 hfo_73 rfl 1 (by decide) (hU _ wd_170) (fun _ h9 => h9) rfl dX12_statement_196 ?_
                    refine lv_bipush (v := 19) hx hb dX12_statement_199 (by decide) ?_
                    obtain ⟨g_118, hfo_117, hbg_118⟩ := un_576 (hG _ ma_2) ka_2
                    refine tk_ildP hx hb hK hP 0 ma_2 hfo_117 rfl (vp_in_nI (n := 19) (by decide) (by decide)) dX12_statement_201 ?_
                    refine lv_topi (fun x_119 ex_119 => ?_)
                    have bx_119 : (0 ≤ x_119.toInt ∧ x_119.toInt ≤ 8) := by rw [ex_119]; exact hbg_118.2.2.2.2.1 _ (by decide) (by decide) (by decide)
                    refine lv_bipush (v := 8) hx hb dX12_statement_202 (by decide) ?_
                    refine lv_icmp_ne (tgt := 214) hx hb dX12_statement_204 (by decide) (fun c_120 => ?_) (fun c_120 => ?_)
                    · skip
                      rw [← Int32.toInt_inj, ti_8] at c_120
                      refine lv_aload_n hx hb dX12_statement_214 rfl (lv_at hl 2 rfl) ?_
                      refine tk_getP (D := (dC, dI)) (ci := 12) (v := .ref a_2) (C := RX12) (T := TX12) (N := 56) hx hb hU inlX12 hown hK hP mo0 hfo_73 rfl 1 (by decide) (hU _ wd_170) (fun _ h9 => h9) rfl dX12_statement_215 ?_
                      refine lv_bipush (v := 19) hx hb dX12_statement_218 (by decide) ?_
                      refine lv_dup2_11 hx hb dX12_statement_220 rfl rfl ?_
                      refine tk_ildP hx hb hK hP 0 ma_2 hfo_117 rfl (vp_in_nI (n := 19) (by decide) (by decide)) dX12_statement_221 ?_
                      refine tk_topi (y := x_119) ex_119.symm ?_
                      refine lv_iconst (v := 1) hx hb dX12_statement_222 (by decide) ?_
                      refine lv_iadd hx hb dX12_statement_223 ?_
                      refine lv_topi (fun x_121 ex_121 => ?_)
                      have hx_121 : x_121.toInt = x_119.toInt + 1 := by rw [ex_121, ad_I (by rw [ti_1]; omega) (by rw [ti_1]; omega), ti_1]
                      have bx_121 : (1 ≤ x_121.toInt ∧ x_121.toInt ≤ 8) := by constructor <;> omega
                      refine tk_istP hx hb hK hP hD hS 0 ma_2 hfo_117 rfl (vp_in_nI (n := 19) (by decide) (by decide)) dX12_statement_224 (fun H locs hP hD hS => ?_)
                      have hc9 : ((Int32.toNatClampNeg 19 : Nat) : Int) = 19 := by decide
                      obtain ⟨g_122, eqg_122⟩ : ∃ y : Nat → Int32, y = upd g_118 (Int32.toNatClampNeg 19) x_121 := ⟨_, rfl⟩
                      rw [← eqg_122] at hP hD
                      have hbg_122 : wOK g_122 := by rw [eqg_122]; exact ⟨hbg_118.1.up (fun h1 h2 h3 => by exfalso; omega), hbg_118.2.1.up (fun h1 h2 h3 => by exfalso; omega), hbg_118.2.2.1.up (fun h1 h2 h3 => by exfalso; omega), hbg_118.2.2.2.1.up (fun h1 h2 h3 => by exfalso; omega), hbg_118.2.2.2.2.1.up (fun h1 h2 h3 => by constructor <;> omega), hbg_118.2.2.2.2.2.1.up (fun h1 h2 h3 => by exfalso; omega), hbg_118.2.2.2.2.2.2.1.up (fun h1 h2 h3 => by exfalso; omega), hbg_118.2.2.2.2.2.2.2.1.up (fun h1 h2 h3 => by exfalso; omega), hbg_118.2.2.2.2.2.2.2.2.1.up (fun h1 h2 h3 => by exfalso; omega), hbg_118.2.2.2.2.2.2.2.2.2.1.up (fun h1 h2 h3 => by exfalso; omega), hbg_118.2.2.2.2.2.2.2.2.2.2.1.up (fun h1 h2 h3 => by exfalso; omega), hbg_118.2.2.2.2.2.2.2.2.2.2.2.1.up (fun h1 h2 h3 => by exfalso; omega), hbg_118.2.2.2.2.2.2.2.2.2.2.2.2.1.up (fun h1 h2 h3 => by exfalso; omega), hbg_118.2.2.2.2.2.2.2.2.2.2.2.2.2.1.up (fun h1 h2 h3 => by exfalso; omega), hbg_118.2.2.2.2.2.2.2.2.2.2.2.2.2.2.1.up (fun h1 h2 h3 => by exfalso; omega), hbg_118.2.2.2.2.2.2.2.2.2.2.2.2.2.2.2.up (fun h1 h2 h3 => by exfalso; omega)⟩
                      obtain ⟨f_124, ef_124⟩ : ∃ y : Nat → va_E, y = va_up f_65 a_2 (.inl (cI, 1560, .inl g_122)) := ⟨_, rfl⟩
                      have hP : va_P (dC, dI) vwCl (va_pl L f_124) H := by rw [ef_124]; exact hP
                      have hD : va_D (fun q => q ∈ L) (va_pl L f_124) := by rw [ef_124]; exact hD
                      have hG : GI (okc cI cL cZ cR cG cH L kd) kd L f_124 := by rw [ef_124]; exact hG.set a_2 (mk_576 ka_2 ⟨_, rfl, hbg_122⟩)
                      have hfo_125 : f_124 o0 = .inr (12, [.ref a_1, .ref a_2, .ref a_3, .int v_4, .ref a_5, .int v_6, .int v_66, .int v_67, .int v_68, .int v_10, .int v_11, .int v_69, .int v_70, .int v_71, .int v_72, .ref a_16, .ref a_17, .ref a_18, .ref a_19, .ref a_20, .ref a_21, .ref a_22, .ref a_23, .int v_24, .int v_25, .int v_26, .int v_27, .int v_28, .ref a_29, .int v_30, .ref a_31, .ref a_32, .int v_33, .int v_34, .ref a_35, .int v_36, .ref a_37, .ref a_38, .int v_39, .int v_40, .ref a_41, .ref a_42, .ref a_43, .int v_44, .ref a_45, .ref a_46, .ref a_47, .ref a_48, .ref a_49, .ref a_50, .ref a_51, .ref a_52, .ref a_53, .int v_54, .int v_55, .ref a_56]) := by rw [ef_124, up_ne (kd_ne ka_2 ko0 (by decide))]; exact hfo_73
                      have hfr0 : ∀ b, kd b ≠ 12 → kd b ≠ 576 → f_124 b = f b := fun b q12 q576 => (congrFun ef_124 b).trans ((up_ne (fun e9 => q576 (by rw [e9]; exact ka_2))).trans (hfr0 b q12 q576))
                      have hrA12 : ∀ b, kd b = 12 → ∀ j, fldR (f_124 b) j = fldR (f b) j := fun b kb j => (congrArg (fun x => fldR x j) ((congrFun ef_124 b).trans (up_ne (kd_ne ka_2 kb (by decide))))).trans (hrA12 b kb j)
                      have hfA12 : ∀ b, kd b = 12 → ∀ j, j ≠ 6 → j ≠ 7 → j ≠ 8 → j ≠ 11 → j ≠ 12 → j ≠ 13 → j ≠ 14 → fldI (f_124 b) j = fldI (f b) j := fun b kb j n6 n7 n8 n11 n12 n13 n14 => (congrArg (fun x => fldI x j) ((congrFun ef_124 b).trans (up_ne (kd_ne ka_2 kb (by decide))))).trans (hfA12 b kb j n6 n7 n8 n11 n12 n13 n14)
                      have hT0 : frel kd 576 8 f_124 a_2 := by rw [ef_124]; exact frel.mk ka_2 up_self (by rw [eqg_122]; exact (hT0.get hfo_117).up (hbg_118.2.1 16 (by decide) (by decide) (by decide)).2 (by omega) (by omega) (by omega) (fun h9 => by exfalso; omega))
                      have hM : (∀ z9, fldI (f_124 o0) 6 = some z9 → v_7.toInt ≤ z9.toInt) := by rw [ef_124]; exact (fun z9 h9 => hM z9 (by rw [up_ne (kd_ne ka_2 ko0 (by decide))] at h9; exact h9))
                      have hfo_126 : f_124 a_2 = .inl (cI, 1560, .inl g_122) := by rw [ef_124]; exact up_self
                      have ql_127 : x_121 = g_122 (Int32.toNatClampNeg 19) := by rw [eqg_122, pk_us]
                      refine lv_aload_n hx hb dX12_statement_225 rfl (lv_at hl 2 rfl) ?_
                      refine lv_sipush (v := 156) hx hb dX12_statement_226 (by decide) ?_
                      refine lv_bipush (v := 8) hx hb dX12_statement_229 (by decide) ?_
                      refine lv_aload_n hx hb dX12_statement_231 rfl (lv_at hl 2 rfl) ?_
                      refine tk_getP (D := (dC, dI)) (ci := 12) (v := .ref a_2) (C := RX12) (T := TX12) (N := 56) hx hb hU inlX12 hown hK hP mo0 hfo_125 rfl 1 (by decide) (hU _ wd_170) (fun _ h9 => h9) rfl dX12_statement_232 ?_
                      refine lv_bipush (v := 19) hx hb dX12_statement_235 (by decide) ?_
                      refine tk_ildP hx hb hK hP 0 ma_2 hfo_126 rfl (vp_in_nI (n := 19) (by decide) (by decide)) dX12_statement_237 ?_
                      refine tk_topi (y := x_121) ql_127.symm ?_
                      refine lv_iconst (v := 1) hx hb dX12_statement_238 (by decide) ?_
                      refine lv_isub hx hb dX12_statement_239 ?_
                      refine lv_topi (fun x_128 ex_128 => ?_)
                      have hx_128 : x_128.toInt = x_121.toInt - 1 := by rw [ex_128, sb_I (by rw [ti_1]; omega) (by rw [ti_1]; omega), ti_1]
                      have bx_128 : (0 ≤ x_128.toInt ∧ x_128.toInt ≤ 7) := by constructor <;> omega
                      refine lv_imul hx hb dX12_statement_240 ?_
                      refine lv_topi (fun x_129 ex_129 => ?_)
                      have hx_129 : x_129.toInt = 8 * x_128.toInt := by rw [ex_129, ml_I (by rw [ti_8]; omega) (by rw [ti_8]; omega), ti_8]
                      have bx_129 : (0 ≤ x_129.toInt ∧ x_129.toInt ≤ 56) := by constructor <;> omega
                      refine lv_iadd hx hb dX12_statement_241 ?_
                      refine lv_topi (fun x_130 ex_130 => ?_)
                      have hx_130 : x_130.toInt = 156 + x_129.toInt := by rw [ex_130, ad_I (by rw [ti_156]; omega) (by rw [ti_156]; omega), ti_156]
                      have bx_130 : (156 ≤ x_130.toInt ∧ x_130.toInt ≤ 212) := by constructor <;> omega
                      refine lv_iconst (v := 0) hx hb dX12_statement_242 (by decide) ?_
                      refine tk_ViP (As := [.int x_130, .int 0]) (rest := []) (n := 2) hx hb hml hown hU hN hZ (s_X12_word_k12 l (dC, dI) cI cL cZ cR cG cH Z kd L f_124 hG o0 mo0 ko0 x_130 (by constructor <;> omega) 0 (by decide) (by (try rw [ti_0]) <;> omega) (fun d9 h9 => by rw [hfo_125] at h9; obtain rfl := Option.some.inj h9; exact hT0)) wd_659 wd_660 wd_661 wd_5 wd_662 (by decide +kernel) ⟨Nat.le_of_ble_eq_true rfl, Nat.le_of_ble_eq_true rfl⟩ hK hP hD hS mo0 hfo_125 12 rfl rfl rfl hl.1 rfl (Nat.le_of_ble_eq_true rfl) dX12_statement_243 ⟨Nat.le_of_ble_eq_true rfl, Nat.le_of_ble_eq_true rfl⟩ (fun x_131 f_132 H locs hw hP hD hS => ?_)
                      obtain ⟨hG, bx_131, hkc_133, hra_134, hfa_135, hpost_136, hTc_137⟩ := hw
                      have hfr0 : ∀ b, kd b ≠ 12 → kd b ≠ 576 → f_132 b = f b := fun b q12 q576 => (hkc_133 b q12 q576).trans (hfr0 b q12 q576)
                      have hrA12 : ∀ b, kd b = 12 → ∀ j, fldR (f_132 b) j = fldR (f b) j := fun b kb j => (hra_134 b kb j).trans (hrA12 b kb j)
                      have hfA12 : ∀ b, kd b = 12 → ∀ j, j ≠ 6 → j ≠ 7 → j ≠ 8 → j ≠ 11 → j ≠ 12 → j ≠ 13 → j ≠ 14 → fldI (f_132 b) j = fldI (f b) j := fun b kb j n6 n7 n8 n11 n12 n13 n14 => (hfa_135 b kb j n6 n7 n8).trans (hfA12 b kb j n6 n7 n8 n11 n12 n13 n14)
                      obtain ⟨v_139, v_140, v_141, hfo_142, fa_143⟩ := op12_6_7_8 hfo_125 (hG _ mo0) ko0 (hra_134 o0 ko0) (hfa_135 o0 ko0)
                      have bv_139 : (0 ≤ v_139.toInt ∧ v_139.toInt ≤ 600) := fa12_6 fa_143
                      have bv_140 : ((-2147483648) ≤ v_140.toInt ∧ v_140.toInt ≤ 2147483647) := ⟨i32_lo _, i32_hi _⟩
                      have bv_141 : ((-2147483648) ≤ v_141.toInt ∧ v_141.toInt ≤ 2147483647) := ⟨i32_lo _, i32_hi _⟩
                      have hqhpost_136 := hpost_136 v_66 v_139 (by rw [hfo_125]; rfl) (by rw [hfo_142]; rfl)
                      try rw [ti_0] at hqhpost_136
                      have hMm_144 : (∀ z9, fldI (f_132 o0) 6 = some z9 → v_7.toInt ≤ z9.toInt) := fun z9 h9 => by rw [hfo_142] at h9; obtain rfl := Option.some.inj h9; have h8 := hM v_66 (by rw [hfo_125]; rfl); omega
                      have hT_145 := hTc_137 a_2 (by rw [hfo_142]; rfl)
                      have hM9 := hMm_144 v_139 (by rw [hfo_142]; rfl)
                      exact W.zret (v := x_131) (ty := .boolean) hx hb hr (zb_n (by constructor <;> omega)) (fun t ht hW => ⟨⟨x_131, f_132, rfl, ⟨hG, (by constructor <;> omega), hfr0, hrA12, hfA12, (by intro w6 z6 e6 d6; rw [hfo_57] at e6; rw [hfo_142] at d6; obtain rfl := Option.some.inj e6; obtain rfl := Option.some.inj d6; omega), (fun d9 h9 => by rw [hfo_142] at h9; obtain rfl := Option.some.inj h9; exact hT_145)⟩, by rw [ht]; exact hP, va_K.moved hW.alike hK, pl_in hD⟩, hS.F ht⟩) hS.2.2 dX12_statement_246
                    · skip
                      rw [← Int32.toInt_inj, ti_8] at c_120
                      refine lv_aload_n hx hb dX12_statement_207 rfl (lv_at hl 2 rfl) ?_
                      refine lv_iconst (v := 3) hx hb dX12_statement_208 (by decide) ?_
                      refine lv_iload_n hx hb dX12_statement_209 rfl (lv_at hl 1 rfl) ?_
                      refine tk_ViP (As := [.int 3, .int v_7]) (rest := []) (n := 2) hx hb hml hown hU hN hZ (s_X12_bad_k12 l (dC, dI) cI cL cZ cR cG cH Z kd L f_65 hG o0 mo0 ko0 3 v_7) wd_602 wd_603 wd_604 wd_5 wd_605 (by decide +kernel) ⟨Nat.le_of_ble_eq_true rfl, Nat.le_of_ble_eq_true rfl⟩ hK hP hD hS mo0 hfo_73 12 rfl rfl rfl hl.1 rfl (Nat.le_of_ble_eq_true rfl) dX12_statement_210 ⟨Nat.le_of_ble_eq_true rfl, Nat.le_of_ble_eq_true rfl⟩ (fun x_146 f_147 H locs hw hP hD hS => ?_)
                      obtain ⟨hG, bx_146, hkc_148, hra_149, hfa_150⟩ := hw
                      have hfo_152 : f_147 a_2 = .inl (cI, 1560, .inl g_118) := by rw [hkc_148 a_2 (by rw [ka_2]; decide)]; exact hfo_117
                      have hfr0 : ∀ b, kd b ≠ 12 → kd b ≠ 576 → f_147 b = f b := fun b q12 q576 => (hkc_148 b q12).trans (hfr0 b q12 q576)
                      have hrA12 : ∀ b, kd b = 12 → ∀ j, fldR (f_147 b) j = fldR (f b) j := fun b kb j => (hra_149 b kb j).trans (hrA12 b kb j)
                      have hfA12 : ∀ b, kd b = 12 → ∀ j, j ≠ 6 → j ≠ 7 → j ≠ 8 → j ≠ 11 → j ≠ 12 → j ≠ 13 → j ≠ 14 → fldI (f_147 b) j = fldI (f b) j := fun b kb j n6 n7 n8 n11 n12 n13 n14 => (hfa_150 b kb j n7 n8).trans (hfA12 b kb j n6 n7 n8 n11 n12 n13 n14)
                      have hT0 : frel kd 576 8 f_147 a_2 := hT0.keep (fun b q => hkc_148 b (by rw [q]; decide))
                      have hM : (∀ z9, fldI (f_147 o0) 6 = some z9 → v_7.toInt ≤ z9.toInt) := (fun z9 h9 => hM z9 (by rw [hfa_150 o0 ko0 6 (by decide) (by decide)] at h9; exact h9))
                      obtain ⟨v_153, v_154, hfo_155, fa_156⟩ := op12_7_8 hfo_73 (hG _ mo0) ko0 (hra_149 o0 ko0) (hfa_150 o0 ko0)
                      have bv_153 : ((-2147483648) ≤ v_153.toInt ∧ v_153.toInt ≤ 2147483647) := ⟨i32_lo _, i32_hi _⟩
                      have bv_154 : ((-2147483648) ≤ v_154.toInt ∧ v_154.toInt ≤ 2147483647) := ⟨i32_lo _, i32_hi _⟩
                      have hM9 := hM v_66 (by rw [hfo_155]; rfl)
                      exact W.zret (v := x_146) (ty := .boolean) hx hb hr (zb_n (by constructor <;> omega)) (fun t ht hW => ⟨⟨x_146, f_147, rfl, ⟨hG, (by constructor <;> omega), hfr0, hrA12, hfA12, (by intro w6 z6 e6 d6; rw [hfo_57] at e6; rw [hfo_155] at d6; obtain rfl := Option.some.inj e6; obtain rfl := Option.some.inj d6; omega), (fun d9 h9 => by rw [hfo_155] at h9; obtain rfl := Option.some.inj h9; exact hT0)⟩, by rw [ht]; exact hP, va_K.moved hW.alike hK, pl_in hD⟩, hS.F ht⟩) hS.2.2 dX12_statement_213
                · skip
                  rw [← Int32.toInt_inj, ti_0] at c_102
                  refine lv_aload_n hx hb dX12_statement_133 rfl (lv_at hl 2 rfl) ?_
                  refine tk_getP (D := (dC, dI)) (ci := 12) (v := .ref a_2) (C := RX12) (T := TX12) (N := 56) hx hb hU inlX12 hown hK hP mo0 hfo_73 rfl 1 (by decide) (hU _ wd_170) (fun _ h9 => h9) rfl dX12_statement_134 ?_
                  refine lv_bipush (v := 18) hx hb dX12_statement_137 (by decide) ?_
                  obtain ⟨g_158, hfo_157, hbg_158⟩ := un_576 (hG _ ma_2) ka_2
                  refine tk_ildP hx hb hK hP 0 ma_2 hfo_157 rfl (vp_in_nI (n := 18) (by decide) (by decide)) dX12_statement_139 ?_
                  refine lv_topi (fun x_159 ex_159 => ?_)
                  have bx_159 : (0 ≤ x_159.toInt ∧ x_159.toInt ≤ 12) := by rw [ex_159]; exact hbg_158.2.2.2.1 _ (by decide) (by decide) (by decide)
                  refine lv_bipush (v := 12) hx hb dX12_statement_140 (by decide) ?_
                  refine lv_icmp_ne (tgt := 152) hx hb dX12_statement_142 (by decide) (fun c_160 => ?_) (fun c_160 => ?_)
                  · skip
                    rw [← Int32.toInt_inj, ti_12] at c_160
                    refine lv_aload_n hx hb dX12_statement_152 rfl (lv_at hl 2 rfl) ?_
                    refine tk_getP (D := (dC, dI)) (ci := 12) (v := .ref a_2) (C := RX12) (T := TX12) (N := 56) hx hb hU inlX12 hown hK hP mo0 hfo_73 rfl 1 (by decide) (hU _ wd_170) (fun _ h9 => h9) rfl dX12_statement_153 ?_
                    refine lv_bipush (v := 18) hx hb dX12_statement_156 (by decide) ?_
                    refine lv_dup2_11 hx hb dX12_statement_158 rfl rfl ?_
                    refine tk_ildP hx hb hK hP 0 ma_2 hfo_157 rfl (vp_in_nI (n := 18) (by decide) (by decide)) dX12_statement_159 ?_
                    refine tk_topi (y := x_159) ex_159.symm ?_
                    refine lv_iconst (v := 1) hx hb dX12_statement_160 (by decide) ?_
                    refine lv_iadd hx hb dX12_statement_161 ?_
                    refine lv_topi (fun x_161 ex_161 => ?_)
                    have hx_161 : x_161.toInt = x_159.toInt + 1 := by rw [ex_161, ad_I (by rw [ti_1]; omega) (by rw [ti_1]; omega), ti_1]
                    have bx_161 : (1 ≤ x_161.toInt ∧ x_161.toInt ≤ 12) := by constructor <;> omega
                    refine tk_istP hx hb hK hP hD hS 0 ma_2 hfo_157 rfl (vp_in_nI (n := 18) (by decide) (by decide)) dX12_statement_162 (fun H locs hP hD hS => ?_)
                    have hc9 : ((Int32.toNatClampNeg 18 : Nat) : Int) = 18 := by decide
                    obtain ⟨g_162, eqg_162⟩ : ∃ y : Nat → Int32, y = upd g_158 (Int32.toNatClampNeg 18) x_161 := ⟨_, rfl⟩
                    rw [← eqg_162] at hP hD
                    have hbg_162 : wOK g_162 := by rw [eqg_162]; exact ⟨hbg_158.1.up (fun h1 h2 h3 => by exfalso; omega), hbg_158.2.1.up (fun h1 h2 h3 => by exfalso; omega), hbg_158.2.2.1.up (fun h1 h2 h3 => by exfalso; omega), hbg_158.2.2.2.1.up (fun h1 h2 h3 => by constructor <;> omega), hbg_158.2.2.2.2.1.up (fun h1 h2 h3 => by exfalso; omega), hbg_158.2.2.2.2.2.1.up (fun h1 h2 h3 => by exfalso; omega), hbg_158.2.2.2.2.2.2.1.up (fun h1 h2 h3 => by exfalso; omega), hbg_158.2.2.2.2.2.2.2.1.up (fun h1 h2 h3 => by exfalso; omega), hbg_158.2.2.2.2.2.2.2.2.1.up (fun h1 h2 h3 => by exfalso; omega), hbg_158.2.2.2.2.2.2.2.2.2.1.up (fun h1 h2 h3 => by exfalso; omega), hbg_158.2.2.2.2.2.2.2.2.2.2.1.up (fun h1 h2 h3 => by exfalso; omega), hbg_158.2.2.2.2.2.2.2.2.2.2.2.1.up (fun h1 h2 h3 => by exfalso; omega), hbg_158.2.2.2.2.2.2.2.2.2.2.2.2.1.up (fun h1 h2 h3 => by exfalso; omega), hbg_158.2.2.2.2.2.2.2.2.2.2.2.2.2.1.up (fun h1 h2 h3 => by exfalso; omega), hbg_158.2.2.2.2.2.2.2.2.2.2.2.2.2.2.1.up (fun h1 h2 h3 => by exfalso; omega), hbg_158.2.2.2.2.2.2.2.2.2.2.2.2.2.2.2.up (fun h1 h2 h3 => by exfalso; omega)⟩
                    obtain ⟨f_164, ef_164⟩ : ∃ y : Nat → va_E, y = va_up f_65 a_2 (.inl (cI, 1560, .inl g_162)) := ⟨_, rfl⟩
                    have hP : va_P (dC, dI) vwCl (va_pl L f_164) H := by rw [ef_164]; exact hP
                    have hD : va_D (fun q => q ∈ L) (va_pl L f_164) := by rw [ef_164]; exact hD
                    have hG : GI (okc cI cL cZ cR cG cH L kd) kd L f_164 := by rw [ef_164]; exact hG.set a_2 (mk_576 ka_2 ⟨_, rfl, hbg_162⟩)
                    have hfo_165 : f_164 o0 = .inr (12, [.ref a_1, .ref a_2, .ref a_3, .int v_4, .ref a_5, .int v_6, .int v_66, .int v_67, .int v_68, .int v_10, .int v_11, .int v_69, .int v_70, .int v_71, .int v_72, .ref a_16, .ref a_17, .ref a_18, .ref a_19, .ref a_20, .ref a_21, .ref a_22, .ref a_23, .int v_24, .int v_25, .int v_26, .int v_27, .int v_28, .ref a_29, .int v_30, .ref a_31, .ref a_32, .int v_33, .int v_34, .ref a_35, .int v_36, .ref a_37, .ref a_38, .int v_39, .int v_40, .ref a_41, .ref a_42, .ref a_43, .int v_44, .ref a_45, .ref a_46, .ref a_47, .ref a_48, .ref a_49, .ref a_50, .ref a_51, .ref a_52, .ref a_53, .int v_54, .int v_55, .ref a_56]) := by rw [ef_164, up_ne (kd_ne ka_2 ko0 (by decide))]; exact hfo_73
                    have hfr0 : ∀ b, kd b ≠ 12 → kd b ≠ 576 → f_164 b = f b := fun b q12 q576 => (congrFun ef_164 b).trans ((up_ne (fun e9 => q576 (by rw [e9]; exact ka_2))).trans (hfr0 b q12 q576))
                    have hrA12 : ∀ b, kd b = 12 → ∀ j, fldR (f_164 b) j = fldR (f b) j := fun b kb j => (congrArg (fun x => fldR x j) ((congrFun ef_164 b).trans (up_ne (kd_ne ka_2 kb (by decide))))).trans (hrA12 b kb j)
                    have hfA12 : ∀ b, kd b = 12 → ∀ j, j ≠ 6 → j ≠ 7 → j ≠ 8 → j ≠ 11 → j ≠ 12 → j ≠ 13 → j ≠ 14 → fldI (f_164 b) j = fldI (f b) j := fun b kb j n6 n7 n8 n11 n12 n13 n14 => (congrArg (fun x => fldI x j) ((congrFun ef_164 b).trans (up_ne (kd_ne ka_2 kb (by decide))))).trans (hfA12 b kb j n6 n7 n8 n11 n12 n13 n14)
                    have hT0 : frel kd 576 8 f_164 a_2 := by rw [ef_164]; exact frel.mk ka_2 up_self (by rw [eqg_162]; exact (hT0.get hfo_157).up (hbg_158.2.1 16 (by decide) (by decide) (by decide)).2 (by omega) (by omega) (by omega) (fun h9 => by exfalso; omega))
                    have hM : (∀ z9, fldI (f_164 o0) 6 = some z9 → v_7.toInt ≤ z9.toInt) := by rw [ef_164]; exact (fun z9 h9 => hM z9 (by rw [up_ne (kd_ne ka_2 ko0 (by decide))] at h9; exact h9))
                    have hfo_166 : f_164 a_2 = .inl (cI, 1560, .inl g_162) := by rw [ef_164]; exact up_self
                    have ql_167 : x_161 = g_162 (Int32.toNatClampNeg 18) := by rw [eqg_162, pk_us]
                    refine lv_aload_n hx hb dX12_statement_163 rfl (lv_at hl 2 rfl) ?_
                    refine lv_bipush (v := 60) hx hb dX12_statement_164 (by decide) ?_
                    refine lv_bipush (v := 8) hx hb dX12_statement_166 (by decide) ?_
                    refine lv_aload_n hx hb dX12_statement_168 rfl (lv_at hl 2 rfl) ?_
                    refine tk_getP (D := (dC, dI)) (ci := 12) (v := .ref a_2) (C := RX12) (T := TX12) (N := 56) hx hb hU inlX12 hown hK hP mo0 hfo_165 rfl 1 (by decide) (hU _ wd_170) (fun _ h9 => h9) rfl dX12_statement_169 ?_
                    refine lv_bipush (v := 18) hx hb dX12_statement_172 (by decide) ?_
                    refine tk_ildP hx hb hK hP 0 ma_2 hfo_166 rfl (vp_in_nI (n := 18) (by decide) (by decide)) dX12_statement_174 ?_
                    refine tk_topi (y := x_161) ql_167.symm ?_
                    refine lv_iconst (v := 1) hx hb dX12_statement_175 (by decide) ?_
                    refine lv_isub hx hb dX12_statement_176 ?_
                    refine lv_topi (fun x_168 ex_168 => ?_)
                    have hx_168 : x_168.toInt = x_161.toInt - 1 := by rw [ex_168, sb_I (by rw [ti_1]; omega) (by rw [ti_1]; omega), ti_1]
                    have bx_168 : (0 ≤ x_168.toInt ∧ x_168.toInt ≤ 11) := by constructor <;> omega
                    refine lv_imul hx hb dX12_statement_177 ?_
                    refine lv_topi (fun x_169 ex_169 => ?_)
                    have hx_169 : x_169.toInt = 8 * x_168.toInt := by rw [ex_169, ml_I (by rw [ti_8]; omega) (by rw [ti_8]; omega), ti_8]
                    have bx_169 : (0 ≤ x_169.toInt ∧ x_169.toInt ≤ 88) := by constructor <;> omega
                    refine lv_iadd hx hb dX12_statement_178 ?_
                    refine lv_topi (fun x_170 ex_170 => ?_)
                    have hx_170 : x_170.toInt = 60 + x_169.toInt := by rw [ex_170, ad_I (by rw [ti_60]; omega) (by rw [ti_60]; omega), ti_60]
                    have bx_170 : (60 ≤ x_170.toInt ∧ x_170.toInt ≤ 148) := by constructor <;> omega
                    refine lv_iconst (v := 1) hx hb dX12_statement_179 (by decide) ?_
                    refine tk_ViP (As := [.int x_170, .int 1]) (rest := []) (n := 2) hx hb hml hown hU hN hZ (s_X12_word_k12 l (dC, dI) cI cL cZ cR cG cH Z kd L f_164 hG o0 mo0 ko0 x_170 (by constructor <;> omega) 1 (by decide) (by (try rw [ti_1]) <;> omega) (fun d9 h9 => by rw [hfo_165] at h9; obtain rfl := Option.some.inj h9; exact hT0)) wd_659 wd_660 wd_661 wd_5 wd_662 (by decide +kernel) ⟨Nat.le_of_ble_eq_true rfl, Nat.le_of_ble_eq_true rfl⟩ hK hP hD hS mo0 hfo_165 12 rfl rfl rfl hl.1 rfl (Nat.le_of_ble_eq_true rfl) dX12_statement_180 ⟨Nat.le_of_ble_eq_true rfl, Nat.le_of_ble_eq_true rfl⟩ (fun x_171 f_172 H locs hw hP hD hS => ?_)
                    obtain ⟨hG, bx_171, hkc_173, hra_174, hfa_175, hpost_176, hTc_177⟩ := hw
                    have hfr0 : ∀ b, kd b ≠ 12 → kd b ≠ 576 → f_172 b = f b := fun b q12 q576 => (hkc_173 b q12 q576).trans (hfr0 b q12 q576)
                    have hrA12 : ∀ b, kd b = 12 → ∀ j, fldR (f_172 b) j = fldR (f b) j := fun b kb j => (hra_174 b kb j).trans (hrA12 b kb j)
                    have hfA12 : ∀ b, kd b = 12 → ∀ j, j ≠ 6 → j ≠ 7 → j ≠ 8 → j ≠ 11 → j ≠ 12 → j ≠ 13 → j ≠ 14 → fldI (f_172 b) j = fldI (f b) j := fun b kb j n6 n7 n8 n11 n12 n13 n14 => (hfa_175 b kb j n6 n7 n8).trans (hfA12 b kb j n6 n7 n8 n11 n12 n13 n14)
                    obtain ⟨v_179, v_180, v_181, hfo_182, fa_183⟩ := op12_6_7_8 hfo_165 (hG _ mo0) ko0 (hra_174 o0 ko0) (hfa_175 o0 ko0)
                    have bv_179 : (0 ≤ v_179.toInt ∧ v_179.toInt ≤ 600) := fa12_6 fa_183
                    have bv_180 : ((-2147483648) ≤ v_180.toInt ∧ v_180.toInt ≤ 2147483647) := ⟨i32_lo _, i32_hi _⟩
                    have bv_181 : ((-2147483648) ≤ v_181.toInt ∧ v_181.toInt ≤ 2147483647) := ⟨i32_lo _, i32_hi _⟩
                    have hqhpost_176 := hpost_176 v_66 v_179 (by rw [hfo_165]; rfl) (by rw [hfo_182]; rfl)
                    try rw [ti_1] at hqhpost_176
                    have hMm_184 : (∀ z9, fldI (f_172 o0) 6 = some z9 → v_7.toInt ≤ z9.toInt) := fun z9 h9 => by rw [hfo_182] at h9; obtain rfl := Option.some.inj h9; have h8 := hM v_66 (by rw [hfo_165]; rfl); omega
                    have hT_185 := hTc_177 a_2 (by rw [hfo_182]; rfl)
                    have hM9 := hMm_184 v_179 (by rw [hfo_182]; rfl)
                    exact W.zret (v := x_171) (ty := .boolean) hx hb hr (zb_n (by constructor <;> omega)) (fun t ht hW => ⟨⟨x_171, f_172, rfl, ⟨hG, (by constructor <;> omega), hfr0, hrA12, hfA12, (by intro w6 z6 e6 d6; rw [hfo_57] at e6; rw [hfo_182] at d6; obtain rfl := Option.some.inj e6; obtain rfl := Option.some.inj d6; omega), (fun d9 h9 => by rw [hfo_182] at h9; obtain rfl := Option.some.inj h9; exact hT_185)⟩, by rw [ht]; exact hP, va_K.moved hW.alike hK, pl_in hD⟩, hS.F ht⟩) hS.2.2 dX12_statement_183
                  · skip
                    rw [← Int32.toInt_inj, ti_12] at c_160
                    refine lv_aload_n hx hb dX12_statement_145 rfl (lv_at hl 2 rfl) ?_
                    refine lv_iconst (v := 3) hx hb dX12_statement_146 (by decide) ?_
                    refine lv_iload_n hx hb dX12_statement_147 rfl (lv_at hl 1 rfl) ?_
                    refine tk_ViP (As := [.int 3, .int v_7]) (rest := []) (n := 2) hx hb hml hown hU hN hZ (s_X12_bad_k12 l (dC, dI) cI cL cZ cR cG cH Z kd L f_65 hG o0 mo0 ko0 3 v_7) wd_602 wd_603 wd_604 wd_5 wd_605 (by decide +kernel) ⟨Nat.le_of_ble_eq_true rfl, Nat.le_of_ble_eq_true rfl⟩ hK hP hD hS mo0 hfo_73 12 rfl rfl rfl hl.1 rfl (Nat.le_of_ble_eq_true rfl) dX12_statement_148 ⟨Nat.le_of_ble_eq_true rfl, Nat.le_of_ble_eq_true rfl⟩ (fun x_186 f_187 H locs hw hP hD hS => ?_)
                    obtain ⟨hG, bx_186, hkc_188, hra_189, hfa_190⟩ := hw
                    have hfo_192 : f_187 a_2 = .inl (cI, 1560, .inl g_158) := by rw [hkc_188 a_2 (by rw [ka_2]; decide)]; exact hfo_157
                    have hfr0 : ∀ b, kd b ≠ 12 → kd b ≠ 576 → f_187 b = f b := fun b q12 q576 => (hkc_188 b q12).trans (hfr0 b q12 q576)
                    have hrA12 : ∀ b, kd b = 12 → ∀ j, fldR (f_187 b) j = fldR (f b) j := fun b kb j => (hra_189 b kb j).trans (hrA12 b kb j)
                    have hfA12 : ∀ b, kd b = 12 → ∀ j, j ≠ 6 → j ≠ 7 → j ≠ 8 → j ≠ 11 → j ≠ 12 → j ≠ 13 → j ≠ 14 → fldI (f_187 b) j = fldI (f b) j := fun b kb j n6 n7 n8 n11 n12 n13 n14 => (hfa_190 b kb j n7 n8).trans (hfA12 b kb j n6 n7 n8 n11 n12 n13 n14)
                    have hT0 : frel kd 576 8 f_187 a_2 := hT0.keep (fun b q => hkc_188 b (by rw [q]; decide))
                    have hM : (∀ z9, fldI (f_187 o0) 6 = some z9 → v_7.toInt ≤ z9.toInt) := (fun z9 h9 => hM z9 (by rw [hfa_190 o0 ko0 6 (by decide) (by decide)] at h9; exact h9))
                    obtain ⟨v_193, v_194, hfo_195, fa_196⟩ := op12_7_8 hfo_73 (hG _ mo0) ko0 (hra_189 o0 ko0) (hfa_190 o0 ko0)
                    have bv_193 : ((-2147483648) ≤ v_193.toInt ∧ v_193.toInt ≤ 2147483647) := ⟨i32_lo _, i32_hi _⟩
                    have bv_194 : ((-2147483648) ≤ v_194.toInt ∧ v_194.toInt ≤ 2147483647) := ⟨i32_lo _, i32_hi _⟩
                    have hM9 := hM v_66 (by rw [hfo_195]; rfl)
                    exact W.zret (v := x_186) (ty := .boolean) hx hb hr (zb_n (by constructor <;> omega)) (fun t ht hW => ⟨⟨x_186, f_187, rfl, ⟨hG, (by constructor <;> omega), hfr0, hrA12, hfA12, (by intro w6 z6 e6 d6; rw [hfo_57] at e6; rw [hfo_195] at d6; obtain rfl := Option.some.inj e6; obtain rfl := Option.some.inj d6; omega), (fun d9 h9 => by rw [hfo_195] at h9; obtain rfl := Option.some.inj h9; exact hT0)⟩, by rw [ht]; exact hP, va_K.moved hW.alike hK, pl_in hD⟩, hS.F ht⟩) hS.2.2 dX12_statement_151
              · skip
                rw [← Int32.toInt_inj, ti_0] at c_98
                refine lv_aload_n hx hb dX12_statement_96 rfl (lv_at hl 2 rfl) ?_
                refine tk_getP (D := (dC, dI)) (ci := 12) (v := .ref a_2) (C := RX12) (T := TX12) (N := 56) hx hb hU inlX12 hown hK hP mo0 hfo_73 rfl 1 (by decide) (hU _ wd_170) (fun _ h9 => h9) rfl dX12_statement_97 ?_
                refine lv_bipush (v := 17) hx hb dX12_statement_100 (by decide) ?_
                obtain ⟨g_198, hfo_197, hbg_198⟩ := un_576 (hG _ ma_2) ka_2
                refine tk_ildP hx hb hK hP 0 ma_2 hfo_197 rfl (vp_in_nI (n := 17) (by decide) (by decide)) dX12_statement_102 ?_
                refine lv_topi (fun x_199 ex_199 => ?_)
                have bx_199 : (0 ≤ x_199.toInt ∧ x_199.toInt ≤ 8) := by rw [ex_199]; exact hbg_198.2.2.1 _ (by decide) (by decide) (by decide)
                refine lv_bipush (v := 8) hx hb dX12_statement_103 (by decide) ?_
                refine lv_icmp_ne (tgt := 117) hx hb dX12_statement_105 (by decide) (fun c_200 => ?_) (fun c_200 => ?_)
                · skip
                  rw [← Int32.toInt_inj, ti_8] at c_200
                  have hTt_201 : frel kd 576 7 f_65 a_2 := frel.mk ka_2 hfo_197 ((hT0.get hfo_197).same (hbg_198.2.1 16 (by decide) (by decide) (by decide)).2 rfl rfl (fun _ _ => rfl) (by have hq2 : x_199.toInt = (g_198 17).toInt := (by rw [ex_199]; rfl); omega))
                  refine lv_aload_n hx hb dX12_statement_117 rfl (lv_at hl 2 rfl) ?_
                  refine tk_ViP (As := []) (rest := []) (n := 0) hx hb hml hown hU hN hZ (s_X12_ruled_k12 l (dC, dI) cI cL cZ cR cG cH Z kd L f_65 hG o0 mo0 ko0 (fun d9 h9 => by rw [hfo_73] at h9; obtain rfl := Option.some.inj h9; exact hTt_201)) wd_631 wd_632 wd_633 wd_5 wd_634 (by decide +kernel) ⟨Nat.le_of_ble_eq_true rfl, Nat.le_of_ble_eq_true rfl⟩ hK hP hD hS mo0 hfo_73 12 rfl rfl rfl hl.1 rfl (Nat.le_of_ble_eq_true rfl) dX12_statement_118 ⟨Nat.le_of_ble_eq_true rfl, Nat.le_of_ble_eq_true rfl⟩ (fun x_202 f_203 H locs hw hP hD hS => ?_)
                  obtain ⟨hG, bx_202, hkc_204, hra_205, hfa_206, hpost_207, hTc_208⟩ := hw
                  have hfr0 : ∀ b, kd b ≠ 12 → kd b ≠ 576 → f_203 b = f b := fun b q12 q576 => (hkc_204 b q12 q576).trans (hfr0 b q12 q576)
                  have hrA12 : ∀ b, kd b = 12 → ∀ j, fldR (f_203 b) j = fldR (f b) j := fun b kb j => (hra_205 b kb j).trans (hrA12 b kb j)
                  have hfA12 : ∀ b, kd b = 12 → ∀ j, j ≠ 6 → j ≠ 7 → j ≠ 8 → j ≠ 11 → j ≠ 12 → j ≠ 13 → j ≠ 14 → fldI (f_203 b) j = fldI (f b) j := fun b kb j n6 n7 n8 n11 n12 n13 n14 => (hfa_206 b kb j n6 n7 n8 n11 n12 n13 n14).trans (hfA12 b kb j n6 n7 n8 n11 n12 n13 n14)
                  obtain ⟨v_210, v_211, v_212, v_213, v_214, v_215, v_216, hfo_217, fa_218⟩ := op12_6_7_8_11_12_13_14 hfo_73 (hG _ mo0) ko0 (hra_205 o0 ko0) (hfa_206 o0 ko0)
                  have bv_210 : (0 ≤ v_210.toInt ∧ v_210.toInt ≤ 600) := fa12_6 fa_218
                  have bv_211 : ((-2147483648) ≤ v_211.toInt ∧ v_211.toInt ≤ 2147483647) := ⟨i32_lo _, i32_hi _⟩
                  have bv_212 : ((-2147483648) ≤ v_212.toInt ∧ v_212.toInt ≤ 2147483647) := ⟨i32_lo _, i32_hi _⟩
                  have bv_213 : (0 ≤ v_213.toInt ∧ v_213.toInt ≤ 8) := fa12_11 fa_218
                  have bv_214 : (0 ≤ v_214.toInt ∧ v_214.toInt ≤ 8) := fa12_12 fa_218
                  have bv_215 : (0 ≤ v_215.toInt ∧ v_215.toInt ≤ 8) := fa12_13 fa_218
                  have bv_216 : ((-2147483648) ≤ v_216.toInt ∧ v_216.toInt ≤ 2147483647) := ⟨i32_lo _, i32_hi _⟩
                  have hqhpost_207 := hpost_207 v_66 v_210 (by rw [hfo_73]; rfl) (by rw [hfo_217]; rfl)
                  have hMm_219 : (∀ z9, fldI (f_203 o0) 6 = some z9 → v_7.toInt ≤ z9.toInt) := fun z9 h9 => by rw [hfo_217] at h9; obtain rfl := Option.some.inj h9; have h8 := hM v_66 (by rw [hfo_73]; rfl); omega
                  have hT_220 := hTc_208 a_2 (by rw [hfo_217]; rfl)
                  have hM9 := hMm_219 v_210 (by rw [hfo_217]; rfl)
                  exact W.zret (v := x_202) (ty := .boolean) hx hb hr (zb_n (by constructor <;> omega)) (fun t ht hW => ⟨⟨x_202, f_203, rfl, ⟨hG, (by constructor <;> omega), hfr0, hrA12, hfA12, (by intro w6 z6 e6 d6; rw [hfo_57] at e6; rw [hfo_217] at d6; obtain rfl := Option.some.inj e6; obtain rfl := Option.some.inj d6; omega), (fun d9 h9 => by rw [hfo_217] at h9; obtain rfl := Option.some.inj h9; exact hT_220)⟩, by rw [ht]; exact hP, va_K.moved hW.alike hK, pl_in hD⟩, hS.F ht⟩) hS.2.2 dX12_statement_121
                · skip
                  rw [← Int32.toInt_inj, ti_8] at c_200
                  refine lv_aload_n hx hb dX12_statement_108 rfl (lv_at hl 2 rfl) ?_
                  refine lv_iconst (v := 3) hx hb dX12_statement_109 (by decide) ?_
                  refine lv_iload_n hx hb dX12_statement_110 rfl (lv_at hl 1 rfl) ?_
                  refine tk_ViP (As := [.int 3, .int v_7]) (rest := []) (n := 2) hx hb hml hown hU hN hZ (s_X12_bad_k12 l (dC, dI) cI cL cZ cR cG cH Z kd L f_65 hG o0 mo0 ko0 3 v_7) wd_602 wd_603 wd_604 wd_5 wd_605 (by decide +kernel) ⟨Nat.le_of_ble_eq_true rfl, Nat.le_of_ble_eq_true rfl⟩ hK hP hD hS mo0 hfo_73 12 rfl rfl rfl hl.1 rfl (Nat.le_of_ble_eq_true rfl) dX12_statement_111 ⟨Nat.le_of_ble_eq_true rfl, Nat.le_of_ble_eq_true rfl⟩ (fun x_221 f_222 H locs hw hP hD hS => ?_)
                  obtain ⟨hG, bx_221, hkc_223, hra_224, hfa_225⟩ := hw
                  have hfo_227 : f_222 a_2 = .inl (cI, 1560, .inl g_198) := by rw [hkc_223 a_2 (by rw [ka_2]; decide)]; exact hfo_197
                  have hfr0 : ∀ b, kd b ≠ 12 → kd b ≠ 576 → f_222 b = f b := fun b q12 q576 => (hkc_223 b q12).trans (hfr0 b q12 q576)
                  have hrA12 : ∀ b, kd b = 12 → ∀ j, fldR (f_222 b) j = fldR (f b) j := fun b kb j => (hra_224 b kb j).trans (hrA12 b kb j)
                  have hfA12 : ∀ b, kd b = 12 → ∀ j, j ≠ 6 → j ≠ 7 → j ≠ 8 → j ≠ 11 → j ≠ 12 → j ≠ 13 → j ≠ 14 → fldI (f_222 b) j = fldI (f b) j := fun b kb j n6 n7 n8 n11 n12 n13 n14 => (hfa_225 b kb j n7 n8).trans (hfA12 b kb j n6 n7 n8 n11 n12 n13 n14)
                  have hT0 : frel kd 576 8 f_222 a_2 := hT0.keep (fun b q => hkc_223 b (by rw [q]; decide))
                  have hM : (∀ z9, fldI (f_222 o0) 6 = some z9 → v_7.toInt ≤ z9.toInt) := (fun z9 h9 => hM z9 (by rw [hfa_225 o0 ko0 6 (by decide) (by decide)] at h9; exact h9))
                  obtain ⟨v_228, v_229, hfo_230, fa_231⟩ := op12_7_8 hfo_73 (hG _ mo0) ko0 (hra_224 o0 ko0) (hfa_225 o0 ko0)
                  have bv_228 : ((-2147483648) ≤ v_228.toInt ∧ v_228.toInt ≤ 2147483647) := ⟨i32_lo _, i32_hi _⟩
                  have bv_229 : ((-2147483648) ≤ v_229.toInt ∧ v_229.toInt ≤ 2147483647) := ⟨i32_lo _, i32_hi _⟩
                  refine lv_goto (tgt := 121) hx hb dX12_statement_114 (by decide) ?_
                  have hM9 := hM v_66 (by rw [hfo_230]; rfl)
                  exact W.zret (v := x_221) (ty := .boolean) hx hb hr (zb_n (by constructor <;> omega)) (fun t ht hW => ⟨⟨x_221, f_222, rfl, ⟨hG, (by constructor <;> omega), hfr0, hrA12, hfA12, (by intro w6 z6 e6 d6; rw [hfo_57] at e6; rw [hfo_230] at d6; obtain rfl := Option.some.inj e6; obtain rfl := Option.some.inj d6; omega), (fun d9 h9 => by rw [hfo_230] at h9; obtain rfl := Option.some.inj h9; exact hT0)⟩, by rw [ht]; exact hP, va_K.moved hW.alike hK, pl_in hD⟩, hS.F ht⟩) hS.2.2 dX12_statement_121
            · skip
              rw [← Int32.toInt_inj, ti_0] at c_94
              refine lv_aload_n hx hb dX12_statement_80 rfl (lv_at hl 2 rfl) ?_
              refine tk_ViP (As := []) (rest := []) (n := 0) hx hb hml hown hU hN hZ (s_X12_takesPair_k12_F8 l (dC, dI) cI cL cZ cR cG cH Z kd L f_65 hG o0 mo0 ko0 (fun d9 h9 => by rw [hfo_73] at h9; obtain rfl := Option.some.inj h9; exact hT0)) wd_613 wd_614 wd_615 wd_5 wd_616 (by decide +kernel) ⟨Nat.le_of_ble_eq_true rfl, Nat.le_of_ble_eq_true rfl⟩ hK hP hD hS mo0 hfo_73 12 rfl rfl rfl hl.1 rfl (Nat.le_of_ble_eq_true rfl) dX12_statement_81 ⟨Nat.le_of_ble_eq_true rfl, Nat.le_of_ble_eq_true rfl⟩ (fun x_232 f_233 H locs hw hP hD hS => ?_)
              obtain ⟨hG, bx_232, hkc_234, hra_235, hfa_236, hpost_237, hTc_238⟩ := hw
              have hfr0 : ∀ b, kd b ≠ 12 → kd b ≠ 576 → f_233 b = f b := fun b q12 q576 => (hkc_234 b q12 q576).trans (hfr0 b q12 q576)
              have hrA12 : ∀ b, kd b = 12 → ∀ j, fldR (f_233 b) j = fldR (f b) j := fun b kb j => (hra_235 b kb j).trans (hrA12 b kb j)
              have hfA12 : ∀ b, kd b = 12 → ∀ j, j ≠ 6 → j ≠ 7 → j ≠ 8 → j ≠ 11 → j ≠ 12 → j ≠ 13 → j ≠ 14 → fldI (f_233 b) j = fldI (f b) j := fun b kb j n6 n7 n8 n11 n12 n13 n14 => (hfa_236 b kb j n6 n7 n8 n11 n12 n13).trans (hfA12 b kb j n6 n7 n8 n11 n12 n13 n14)
              obtain ⟨v_240, v_241, v_242, v_243, v_244, v_245, hfo_246, fa_247⟩ := op12_6_7_8_11_12_13 hfo_73 (hG _ mo0) ko0 (hra_235 o0 ko0) (hfa_236 o0 ko0)
              have bv_240 : (0 ≤ v_240.toInt ∧ v_240.toInt ≤ 600) := fa12_6 fa_247
              have bv_241 : ((-2147483648) ≤ v_241.toInt ∧ v_241.toInt ≤ 2147483647) := ⟨i32_lo _, i32_hi _⟩
              have bv_242 : ((-2147483648) ≤ v_242.toInt ∧ v_242.toInt ≤ 2147483647) := ⟨i32_lo _, i32_hi _⟩
              have bv_243 : (0 ≤ v_243.toInt ∧ v_243.toInt ≤ 8) := fa12_11 fa_247
              have bv_244 : (0 ≤ v_244.toInt ∧ v_244.toInt ≤ 8) := fa12_12 fa_247
              have bv_245 : (0 ≤ v_245.toInt ∧ v_245.toInt ≤ 8) := fa12_13 fa_247
              have hqhpost_237 := hpost_237 v_66 v_240 (by rw [hfo_73]; rfl) (by rw [hfo_246]; rfl)
              have hMm_248 : (∀ z9, fldI (f_233 o0) 6 = some z9 → v_7.toInt ≤ z9.toInt) := fun z9 h9 => by rw [hfo_246] at h9; obtain rfl := Option.some.inj h9; have h8 := hM v_66 (by rw [hfo_73]; rfl); omega
              have hT_249 := hTc_238 a_2 (by rw [hfo_246]; rfl)
              have hM9 := hMm_248 v_240 (by rw [hfo_246]; rfl)
              exact W.zret (v := x_232) (ty := .boolean) hx hb hr (zb_n (by constructor <;> omega)) (fun t ht hW => ⟨⟨x_232, f_233, rfl, ⟨hG, (by constructor <;> omega), hfr0, hrA12, hfA12, (by intro w6 z6 e6 d6; rw [hfo_57] at e6; rw [hfo_246] at d6; obtain rfl := Option.some.inj e6; obtain rfl := Option.some.inj d6; omega), (fun d9 h9 => by rw [hfo_246] at h9; obtain rfl := Option.some.inj h9; exact hT_249)⟩, by rw [ht]; exact hP, va_K.moved hW.alike hK, pl_in hD⟩, hS.F ht⟩) hS.2.2 dX12_statement_84
          · skip
            rw [← Int32.toInt_inj, ti_0] at c_90
            refine lv_aload_n hx hb dX12_statement_64 rfl (lv_at hl 2 rfl) ?_
            refine tk_ViP (As := []) (rest := []) (n := 0) hx hb hml hown hU hN hZ (s_X12_classOf_k12 l (dC, dI) cI cL cZ cR cG cH Z kd L f_65 hG o0 mo0 ko0 (fun d9 h9 => by rw [hfo_73] at h9; obtain rfl := Option.some.inj h9; exact hT0)) wd_609 wd_610 wd_611 wd_5 wd_612 (by decide +kernel) ⟨Nat.le_of_ble_eq_true rfl, Nat.le_of_ble_eq_true rfl⟩ hK hP hD hS mo0 hfo_73 12 rfl rfl rfl hl.1 rfl (Nat.le_of_ble_eq_true rfl) dX12_statement_65 ⟨Nat.le_of_ble_eq_true rfl, Nat.le_of_ble_eq_true rfl⟩ (fun x_250 f_251 H locs hw hP hD hS => ?_)
            obtain ⟨hG, bx_250, hkc_252, hra_253, hfa_254, hpost_255, hTc_256⟩ := hw
            have hfr0 : ∀ b, kd b ≠ 12 → kd b ≠ 576 → f_251 b = f b := fun b q12 q576 => (hkc_252 b q12 q576).trans (hfr0 b q12 q576)
            have hrA12 : ∀ b, kd b = 12 → ∀ j, fldR (f_251 b) j = fldR (f b) j := fun b kb j => (hra_253 b kb j).trans (hrA12 b kb j)
            have hfA12 : ∀ b, kd b = 12 → ∀ j, j ≠ 6 → j ≠ 7 → j ≠ 8 → j ≠ 11 → j ≠ 12 → j ≠ 13 → j ≠ 14 → fldI (f_251 b) j = fldI (f b) j := fun b kb j n6 n7 n8 n11 n12 n13 n14 => (hfa_254 b kb j n6 n7 n8).trans (hfA12 b kb j n6 n7 n8 n11 n12 n13 n14)
            obtain ⟨v_258, v_259, v_260, hfo_261, fa_262⟩ := op12_6_7_8 hfo_73 (hG _ mo0) ko0 (hra_253 o0 ko0) (hfa_254 o0 ko0)
            have bv_258 : (0 ≤ v_258.toInt ∧ v_258.toInt ≤ 600) := fa12_6 fa_262
            have bv_259 : ((-2147483648) ≤ v_259.toInt ∧ v_259.toInt ≤ 2147483647) := ⟨i32_lo _, i32_hi _⟩
            have bv_260 : ((-2147483648) ≤ v_260.toInt ∧ v_260.toInt ≤ 2147483647) := ⟨i32_lo _, i32_hi _⟩
            have hqhpost_255 := hpost_255 v_66 v_258 (by rw [hfo_73]; rfl) (by rw [hfo_261]; rfl)
            have hMm_263 : (∀ z9, fldI (f_251 o0) 6 = some z9 → v_7.toInt ≤ z9.toInt) := fun z9 h9 => by rw [hfo_261] at h9; obtain rfl := Option.some.inj h9; have h8 := hM v_66 (by rw [hfo_73]; rfl); omega
            have hT_264 := hTc_256 a_2 (by rw [hfo_261]; rfl)
            have hM9 := hMm_263 v_258 (by rw [hfo_261]; rfl)
            exact W.zret (v := x_250) (ty := .boolean) hx hb hr (zb_n (by constructor <;> omega)) (fun t ht hW => ⟨⟨x_250, f_251, rfl, ⟨hG, (by constructor <;> omega), hfr0, hrA12, hfA12, (by intro w6 z6 e6 d6; rw [hfo_57] at e6; rw [hfo_261] at d6; obtain rfl := Option.some.inj e6; obtain rfl := Option.some.inj d6; omega), (fun d9 h9 => by rw [hfo_261] at h9; obtain rfl := Option.some.inj h9; exact hT_264)⟩, by rw [ht]; exact hP, va_K.moved hW.alike hK, pl_in hD⟩, hS.F ht⟩) hS.2.2 dX12_statement_68
        · skip
          rw [← Int32.toInt_inj, ti_0] at c_86
          refine lv_aload_n hx hb dX12_statement_48 rfl (lv_at hl 2 rfl) ?_
          refine tk_ViP (As := []) (rest := []) (n := 0) hx hb hml hown hU hN hZ (s_X12_letters_k12 l (dC, dI) cI cL cZ cR cG cH Z kd L f_65 hG o0 mo0 ko0 (fun d9 h9 => by rw [hfo_73] at h9; obtain rfl := Option.some.inj h9; exact hT0)) wd_598 wd_599 wd_600 wd_5 wd_601 (by decide +kernel) ⟨Nat.le_of_ble_eq_true rfl, Nat.le_of_ble_eq_true rfl⟩ hK hP hD hS mo0 hfo_73 12 rfl rfl rfl hl.1 rfl (Nat.le_of_ble_eq_true rfl) dX12_statement_49 ⟨Nat.le_of_ble_eq_true rfl, Nat.le_of_ble_eq_true rfl⟩ (fun x_265 f_266 H locs hw hP hD hS => ?_)
          obtain ⟨hG, bx_265, hkc_267, hra_268, hfa_269, hpost_270, hTc_271⟩ := hw
          have hfr0 : ∀ b, kd b ≠ 12 → kd b ≠ 576 → f_266 b = f b := fun b q12 q576 => (hkc_267 b q12 q576).trans (hfr0 b q12 q576)
          have hrA12 : ∀ b, kd b = 12 → ∀ j, fldR (f_266 b) j = fldR (f b) j := fun b kb j => (hra_268 b kb j).trans (hrA12 b kb j)
          have hfA12 : ∀ b, kd b = 12 → ∀ j, j ≠ 6 → j ≠ 7 → j ≠ 8 → j ≠ 11 → j ≠ 12 → j ≠ 13 → j ≠ 14 → fldI (f_266 b) j = fldI (f b) j := fun b kb j n6 n7 n8 n11 n12 n13 n14 => (hfa_269 b kb j n6 n7 n8).trans (hfA12 b kb j n6 n7 n8 n11 n12 n13 n14)
          obtain ⟨v_273, v_274, v_275, hfo_276, fa_277⟩ := op12_6_7_8 hfo_73 (hG _ mo0) ko0 (hra_268 o0 ko0) (hfa_269 o0 ko0)
          have bv_273 : (0 ≤ v_273.toInt ∧ v_273.toInt ≤ 600) := fa12_6 fa_277
          have bv_274 : ((-2147483648) ≤ v_274.toInt ∧ v_274.toInt ≤ 2147483647) := ⟨i32_lo _, i32_hi _⟩
          have bv_275 : ((-2147483648) ≤ v_275.toInt ∧ v_275.toInt ≤ 2147483647) := ⟨i32_lo _, i32_hi _⟩
          have hqhpost_270 := hpost_270 v_66 v_273 (by rw [hfo_73]; rfl) (by rw [hfo_276]; rfl)
          have hMm_278 : (∀ z9, fldI (f_266 o0) 6 = some z9 → v_7.toInt ≤ z9.toInt) := fun z9 h9 => by rw [hfo_276] at h9; obtain rfl := Option.some.inj h9; have h8 := hM v_66 (by rw [hfo_73]; rfl); omega
          have hT_279 := hTc_271 a_2 (by rw [hfo_276]; rfl)
          have hM9 := hMm_278 v_273 (by rw [hfo_276]; rfl)
          exact W.zret (v := x_265) (ty := .boolean) hx hb hr (zb_n (by constructor <;> omega)) (fun t ht hW => ⟨⟨x_265, f_266, rfl, ⟨hG, (by constructor <;> omega), hfr0, hrA12, hfA12, (by intro w6 z6 e6 d6; rw [hfo_57] at e6; rw [hfo_276] at d6; obtain rfl := Option.some.inj e6; obtain rfl := Option.some.inj d6; omega), (fun d9 h9 => by rw [hfo_276] at h9; obtain rfl := Option.some.inj h9; exact hT_279)⟩, by rw [ht]; exact hP, va_K.moved hW.alike hK, pl_in hD⟩, hS.F ht⟩) hS.2.2 dX12_statement_52
      · skip
        rw [← Int32.toInt_inj, ti_0] at c_82
        have hclc_280 : (0 ≤ v_66.toInt ∧ v_66.toInt ≤ 599) := by constructor <;> omega
        refine lv_aload_n hx hb dX12_statement_19 rfl (lv_at hl 1 rfl) ?_
        refine lv_dup hx hb dX12_statement_20 rfl ?_
        refine tk_getP (D := (dC, dI)) (ci := 12) (v := .int v_66) (C := RX12) (T := TX12) (N := 56) hx hb hU inlX12 hown hK hP mo0 hfo_73 rfl 6 (by decide) (hU _ wd_566) (fun _ h9 => h9) rfl dX12_statement_21 ?_
        refine lv_iconst (v := 1) hx hb dX12_statement_24 (by decide) ?_
        refine lv_iadd hx hb dX12_statement_25 ?_
        refine lv_topi (fun x_281 ex_281 => ?_)
        have hx_281 : x_281.toInt = v_66.toInt + 1 := by rw [ex_281, ad_I (by rw [ti_1]; omega) (by rw [ti_1]; omega), ti_1]
        have bx_281 : (1 ≤ x_281.toInt ∧ x_281.toInt ≤ 600) := by constructor <;> omega
        refine tk_putP (D := (dC, dI)) (ci := 12) (v := .int x_281) (ty := .int) (C := RX12) (T := TX12) (N := 56) hx hb hU inlX12 tyX12 tyX12_ok nmX12 hown hK hP hD hS mo0 hfo_73 rfl 6 (by decide) (hU _ wd_566) (fun _ h9 => h9) rfl (by decide +kernel) rfl rfl (Nat.le_of_ble_eq_true rfl) dX12_statement_26 (fun H locs hP hD hS => ?_)
        have fa_282 := fu12_6 (y := x_281) fa_74 (by constructor <;> omega)
        obtain ⟨f_284, ef_284⟩ : ∃ y : Nat → va_E, y = va_up f_65 o0 (.inr (12, [.ref a_1, .ref a_2, .ref a_3, .int v_4, .ref a_5, .int v_6, .int x_281, .int v_67, .int v_68, .int v_10, .int v_11, .int v_69, .int v_70, .int v_71, .int v_72, .ref a_16, .ref a_17, .ref a_18, .ref a_19, .ref a_20, .ref a_21, .ref a_22, .ref a_23, .int v_24, .int v_25, .int v_26, .int v_27, .int v_28, .ref a_29, .int v_30, .ref a_31, .ref a_32, .int v_33, .int v_34, .ref a_35, .int v_36, .ref a_37, .ref a_38, .int v_39, .int v_40, .ref a_41, .ref a_42, .ref a_43, .int v_44, .ref a_45, .ref a_46, .ref a_47, .ref a_48, .ref a_49, .ref a_50, .ref a_51, .ref a_52, .ref a_53, .int v_54, .int v_55, .ref a_56])) := ⟨_, rfl⟩
        have hP : va_P (dC, dI) vwCl (va_pl L f_284) H := by rw [ef_284]; exact hP
        have hD : va_D (fun q => q ∈ L) (va_pl L f_284) := by rw [ef_284]; exact hD
        have hG : GI (okc cI cL cZ cR cG cH L kd) kd L f_284 := by rw [ef_284]; exact hG.set o0 (mk_12 ko0 (fo12 fa_282))
        have hfr0 : ∀ b, kd b ≠ 12 → kd b ≠ 576 → f_284 b = f b := fun b q12 q576 => (congrFun ef_284 b).trans ((up_ne (fun e9 => q12 (by rw [e9]; exact ko0))).trans (hfr0 b q12 q576))
        have hrA12 : ∀ b, kd b = 12 → ∀ j, fldR (f_284 b) j = fldR (f b) j := fun b kb j => ((congrArg (fun x => fldR x j) (congrFun ef_284 b)).trans (fra_up (fun j => by rw [hfo_73]; exact fr_set (k := 6) rfl rfl) j b)).trans (hrA12 b kb j)
        have hfA12 : ∀ b, kd b = 12 → ∀ j, j ≠ 6 → j ≠ 7 → j ≠ 8 → j ≠ 11 → j ≠ 12 → j ≠ 13 → j ≠ 14 → fldI (f_284 b) j = fldI (f b) j := fun b kb j n6 n7 n8 n11 n12 n13 n14 => ((congrArg (fun x => fldI x j) (congrFun ef_284 b)).trans (fia_up (fun h9 => by rw [hfo_73]; exact fi_set (k := 6) rfl h9) n6 b)).trans (hfA12 b kb j n6 n7 n8 n11 n12 n13 n14)
        have hT0 : frel kd 576 8 f_284 a_2 := by rw [ef_284]; exact hT0.keep (fun b q => up_ne (kd_ne ko0 q (by decide)))
        have hM : (∀ z9, fldI (f_284 o0) 6 = some z9 → v_7.toInt ≤ z9.toInt) := by rw [ef_284]; exact (fun z9 h9 => by rw [up_self] at h9; obtain rfl := Option.some.inj h9; have h8 := hM v_66 (by rw [hfo_73]; rfl); omega)
        have hfo_285 : f_284 o0 = .inr (12, [.ref a_1, .ref a_2, .ref a_3, .int v_4, .ref a_5, .int v_6, .int x_281, .int v_67, .int v_68, .int v_10, .int v_11, .int v_69, .int v_70, .int v_71, .int v_72, .ref a_16, .ref a_17, .ref a_18, .ref a_19, .ref a_20, .ref a_21, .ref a_22, .ref a_23, .int v_24, .int v_25, .int v_26, .int v_27, .int v_28, .ref a_29, .int v_30, .ref a_31, .ref a_32, .int v_33, .int v_34, .ref a_35, .int v_36, .ref a_37, .ref a_38, .int v_39, .int v_40, .ref a_41, .ref a_42, .ref a_43, .int v_44, .ref a_45, .ref a_46, .ref a_47, .ref a_48, .ref a_49, .ref a_50, .ref a_51, .ref a_52, .ref a_53, .int v_54, .int v_55, .ref a_56]) := by rw [ef_284]; exact up_self
        refine lv_goto (tgt := 5) hx hb dX12_statement_29 (by decide) ?_
        exact ih_hloop_63 f_284 hG _ _ hP hS hD hfr0 hrA12 hfA12 hT0 hM x_281 (by rw [hfo_285]; rfl) (by omega) (by omega) (by omega) ls (lv_sub hl [0, 1] rfl)
  exact hloop_63 601 f hG _ _ hP hS hD hfr0 hrA12 hfA12 hT0 hM v_7 (by rw [hfo_57]; rfl) (by omega) (by omega) (by omega) ls hl
