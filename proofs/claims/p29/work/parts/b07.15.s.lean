set_option maxHeartbeats 8000000 in
set_option maxRecDepth 100000 in
theorem s_X11_parts_k11 (l : Launch) (D : va_G) (cI cL cZ cR cG cH : ClassId) (Z : zT) (kd : Nat → Nat) (L : List Nat) (f : Nat → va_E) (hG : GI (okc cI cL cZ cR cG cH L kd) kd L f) (o0 : Nat) (mo0 : o0 ∈ L) (ko0 : kd o0 = 11) (p1 : Int32) (p2 : Int32) (p3 : Int32) (hxtr0 : ∀ r9 d9, fldR (f o0) 2 = some r9 → fldR (f r9) 3 = some d9 → drel kd 1 521 522 f d9) : mPI l D cI cL cZ cR cG cH Z yX11_parts cX11_parts 4 (some .int) 17 571 [.ref o0, .int p1, .int p2, .int p3] L f (fun (r : Int32) (f9 : Nat → va_E) => GI (okc cI cL cZ cR cG cH L kd) kd L f9 ∧ ((-2147483648) ≤ r.toInt ∧ r.toInt ≤ 2147483647) ∧ (∀ b, kd b ≠ 1 → kd b ≠ 3 → kd b ≠ 10 → kd b ≠ 507 → kd b ≠ 517 → kd b ≠ 518 → kd b ≠ 519 → kd b ≠ 520 → kd b ≠ 521 → kd b ≠ 522 → kd b ≠ 523 → kd b ≠ 524 → kd b ≠ 525 → kd b ≠ 526 → kd b ≠ 527 → kd b ≠ 528 → f9 b = f b) ∧ (∀ b, kd b = 1 → fldR (f9 b) 0 = fldR (f b) 0) ∧ (∀ b, kd b = 1 → fldR (f9 b) 1 = fldR (f b) 1) ∧ (∀ b, kd b = 3 → fldR (f9 b) 0 = fldR (f b) 0) ∧ (∀ b, kd b = 3 → fldR (f9 b) 3 = fldR (f b) 3) ∧ (∀ r9 d9, fldR (f9 o0) 2 = some r9 → fldR (f9 r9) 3 = some d9 → drel kd 1 521 522 f9 d9)) := by
  obtain ⟨dC, dI⟩ := D
  refine Met.ofW (cc := cX11_parts) (maxL := 4) (ret := (some .int)) (by decide) rfl ?_
  intro p e s m args below meth c s₁ B hml hv
  obtain ⟨rfl, hP, hK, hD0, hN, hZ⟩ := hv
  have hx := B.exec
  have hb := B.bytes
  have hr := B.returns
  have hU : ∀ w ∈ wsU, w.before _ s = true := fun w h => atoms_spec (ws := wU yX11_parts cX11_parts 4 (some .int)) B.pre w (List.mem_cons_of_mem _ h)
  have hown : s.vm.findClass RX11 = some m.cls := findClass_of_methodNamed B.named
  have hlocks := B.notSynchronized
  have hD := pl_in hD0
  have hS : va_S (fun q => q ∈ L) s.heap s.heap [] := va_S.rf
  have hl := lv_entry ([.ref o0, .int p1, .int p2, .int p3]) (n := 4) (Nat.le_of_ble_eq_true rfl)
  rw [lg_entry_eq]
  generalize (lg_sl ([.ref o0, .int p1, .int p2, .int p3]) ++ List.replicate (4 - (lg_sl ([.ref o0, .int p1, .int p2, .int p3])).length) Slot.unset).toArray = ls at hl ⊢
  have hl : lv_has ls 4 [(0, .ref o0), (1, .int p1), (2, .int p2), (3, .int p3)] := hl
  have bp1 : ((-2147483648) ≤ p1.toInt ∧ p1.toInt ≤ 2147483647) := ⟨i32_lo _, i32_hi _⟩
  have bp2 : ((-2147483648) ≤ p2.toInt ∧ p2.toInt ≤ 2147483647) := ⟨i32_lo _, i32_hi _⟩
  have bp3 : ((-2147483648) ≤ p3.toInt ∧ p3.toInt ≤ 2147483647) := ⟨i32_lo _, i32_hi _⟩
  have hfr0 : ∀ b, kd b ≠ 1 → kd b ≠ 3 → kd b ≠ 10 → kd b ≠ 507 → kd b ≠ 517 → kd b ≠ 518 → kd b ≠ 519 → kd b ≠ 520 → kd b ≠ 521 → kd b ≠ 522 → kd b ≠ 523 → kd b ≠ 524 → kd b ≠ 525 → kd b ≠ 526 → kd b ≠ 527 → kd b ≠ 528 → f b = f b := fun _ _ _ _ _ _ _ _ _ _ _ _ _ _ _ _ _ => rfl
  have hrr1_0 : ∀ b, kd b = 1 → fldR (f b) 0 = fldR (f b) 0 := fun _ _ => rfl
  have hrr1_1 : ∀ b, kd b = 1 → fldR (f b) 1 = fldR (f b) 1 := fun _ _ => rfl
  have hrr3_0 : ∀ b, kd b = 3 → fldR (f b) 0 = fldR (f b) 0 := fun _ _ => rfl
  have hrr3_3 : ∀ b, kd b = 3 → fldR (f b) 3 = fldR (f b) 3 := fun _ _ => rfl
  obtain ⟨a_2, v_3, a_4, a_5, a_6, a_7, a_8, a_9, v_10, a_11, a_12, a_13, v_14, v_15, a_16, v_17, a_18, a_19, v_20, hfo_1, ⟨ma_2, ka_2⟩, bv_3, ⟨ma_4, ka_4⟩, ⟨ma_5, ka_5⟩, ⟨ma_6, ka_6⟩, ⟨ma_7, ka_7⟩, ⟨ma_8, ka_8⟩, ⟨ma_9, ka_9⟩, bv_10, ⟨ma_11, ka_11⟩, ⟨ma_12, ka_12⟩, ⟨ma_13, ka_13⟩, bv_14, ⟨ma_16, ka_16⟩, bv_17, ⟨ma_18, ka_18⟩, ⟨ma_19, ka_19⟩⟩ := un_11 (hG _ mo0) ko0
  have bv_15 : ((-2147483648) ≤ v_15.toInt ∧ v_15.toInt ≤ 2147483647) := ⟨i32_lo _, i32_hi _⟩
  have bv_20 : ((-2147483648) ≤ v_20.toInt ∧ v_20.toInt ≤ 2147483647) := ⟨i32_lo _, i32_hi _⟩
  obtain ⟨a_22, a_23, a_24, a_25, a_26, v_27, v_28, v_29, v_30, v_31, v_32, v_33, a_34, a_35, a_36, v_37, a_38, a_39, hfo_21, ⟨ma_22, ka_22⟩, ⟨ma_23, ka_23⟩, ⟨ma_24, ka_24⟩, ⟨ma_25, ka_25⟩, ⟨ma_26, ka_26⟩, bv_27, bv_28, bv_29, ⟨ma_34, ka_34⟩, ⟨ma_35, ka_35⟩, ⟨ma_36, ka_36⟩, bv_37, ⟨ma_38, ka_38⟩, ⟨ma_39, ka_39⟩⟩ := un_3 (hG _ ma_4) ka_4
  have bv_30 : ((-2147483648) ≤ v_30.toInt ∧ v_30.toInt ≤ 2147483647) := ⟨i32_lo _, i32_hi _⟩
  have bv_31 : ((-2147483648) ≤ v_31.toInt ∧ v_31.toInt ≤ 2147483647) := ⟨i32_lo _, i32_hi _⟩
  have bv_32 : ((-2147483648) ≤ v_32.toInt ∧ v_32.toInt ≤ 2147483647) := ⟨i32_lo _, i32_hi _⟩
  have bv_33 : ((-2147483648) ≤ v_33.toInt ∧ v_33.toInt ≤ 2147483647) := ⟨i32_lo _, i32_hi _⟩
  have hT0 := hxtr0 a_4 a_25 (by rw [hfo_1]; rfl) (by rw [hfo_21]; rfl)
  refine lv_aload_n hx hb dX11_parts_0 rfl (lv_at hl 0 rfl) ?_
  refine lv_iload_n hx hb dX11_parts_1 rfl (lv_at hl 1 rfl) ?_
  refine tk_ViP (As := [.int p1]) (rest := []) (n := 1) hx hb hml hown hU hN hZ (s_X11_isSet_k11_u l (dC, dI) cI cL cZ cR cG cH Z kd L f hG o0 mo0 ko0 p1) wd_678 wd_679 wd_680 wd_2 wd_681 (by decide +kernel) ⟨Nat.le_of_ble_eq_true rfl, Nat.le_of_ble_eq_true rfl⟩ hK hP hD hS mo0 hfo_1 11 rfl rfl rfl hl.1 rfl (Nat.le_of_ble_eq_true rfl) dX11_parts_2 ⟨Nat.le_of_ble_eq_true rfl, Nat.le_of_ble_eq_true rfl⟩ (fun x_40 f_41 H locs hw hP hD hS => ?_)
  obtain ⟨rfl, bx_40, relx_40, hxp_42⟩ := hw
  obtain ⟨a_45, v_46, a_47, a_48, a_49, a_50, v_51, a_52, a_53, a_54, a_55, a_56, v_57, a_58, a_59, a_60, hfo_44, ⟨ma_45, ka_45⟩, bv_46, ⟨ma_47, ka_47⟩, ⟨ma_48, ka_48⟩, ⟨ma_49, ka_49⟩, ⟨ma_50, ka_50⟩, bv_51, ⟨ma_52, ka_52⟩, ⟨ma_53, ka_53⟩, ⟨ma_54, ka_54⟩, ⟨ma_55, ka_55⟩, ⟨ma_56, ka_56⟩, bv_57, ⟨ma_58, ka_58⟩, ⟨ma_59, ka_59⟩, ⟨ma_60, ka_60⟩⟩ := un_7 (hG _ ma_5) ka_5
  have hisx_40 := hxp_42 a_5 v_57 (by rw [hfo_1]; rfl) (by rw [hfo_44]; rfl)
  refine lv_if_eq (tgt := 26) hx hb dX11_parts_5 (by decide) (fun c_61 => ?_) (fun c_61 => ?_)
  · skip
    rw [← Int32.toInt_inj, ti_0] at c_61
    refine lv_bipush (v := (-2)) hx hb dX11_parts_26 (by decide) ?_
    exact W.iret (v := (-2)) hx hb hr (fun t ht hW => ⟨⟨(-2), f, rfl, ⟨hG, (by decide), hfr0, hrr1_0, hrr1_1, hrr3_0, hrr3_3, (fun r9 d9 h8 h9 => by rw [hfo_1] at h8; obtain rfl := Option.some.inj h8; rw [hfo_21] at h9; obtain rfl := Option.some.inj h9; exact hT0)⟩, by rw [ht]; exact hP, va_K.moved hW.alike hK, pl_in hD⟩, hS.F ht⟩) hS.2.2 dX11_parts_28
  · skip
    rw [← Int32.toInt_inj, ti_0] at c_61
    refine lv_aload_n hx hb dX11_parts_8 rfl (lv_at hl 0 rfl) ?_
    refine lv_iload_n hx hb dX11_parts_9 rfl (lv_at hl 2 rfl) ?_
    refine tk_ViP (As := [.int p2]) (rest := []) (n := 1) hx hb hml hown hU hN hZ (s_X11_isSet_k11_u l (dC, dI) cI cL cZ cR cG cH Z kd L f hG o0 mo0 ko0 p2) wd_678 wd_679 wd_680 wd_2 wd_681 (by decide +kernel) ⟨Nat.le_of_ble_eq_true rfl, Nat.le_of_ble_eq_true rfl⟩ hK hP hD hS mo0 hfo_1 11 rfl rfl rfl hl.1 rfl (Nat.le_of_ble_eq_true rfl) dX11_parts_10 ⟨Nat.le_of_ble_eq_true rfl, Nat.le_of_ble_eq_true rfl⟩ (fun x_62 f_63 H locs hw hP hD hS => ?_)
    obtain ⟨rfl, bx_62, relx_62, hxp_64⟩ := hw
    have hisx_62 := hxp_64 a_5 v_57 (by rw [hfo_1]; rfl) (by rw [hfo_44]; rfl)
    refine lv_if_eq (tgt := 26) hx hb dX11_parts_13 (by decide) (fun c_66 => ?_) (fun c_66 => ?_)
    · skip
      rw [← Int32.toInt_inj, ti_0] at c_66
      refine lv_bipush (v := (-2)) hx hb dX11_parts_26 (by decide) ?_
      exact W.iret (v := (-2)) hx hb hr (fun t ht hW => ⟨⟨(-2), f, rfl, ⟨hG, (by decide), hfr0, hrr1_0, hrr1_1, hrr3_0, hrr3_3, (fun r9 d9 h8 h9 => by rw [hfo_1] at h8; obtain rfl := Option.some.inj h8; rw [hfo_21] at h9; obtain rfl := Option.some.inj h9; exact hT0)⟩, by rw [ht]; exact hP, va_K.moved hW.alike hK, pl_in hD⟩, hS.F ht⟩) hS.2.2 dX11_parts_28
    · skip
      rw [← Int32.toInt_inj, ti_0] at c_66
      refine lv_iload_n hx hb dX11_parts_16 rfl (lv_at hl 3 rfl) ?_
      refine lv_iconst (v := 1) hx hb dX11_parts_17 (by decide) ?_
      refine lv_icmp_lt (tgt := 26) hx hb dX11_parts_18 (by decide) (fun c_67 => ?_) (fun c_67 => ?_)
      · skip
        rw [Int32.lt_iff_toInt_lt, ti_1] at c_67
        refine lv_bipush (v := (-2)) hx hb dX11_parts_26 (by decide) ?_
        exact W.iret (v := (-2)) hx hb hr (fun t ht hW => ⟨⟨(-2), f, rfl, ⟨hG, (by decide), hfr0, hrr1_0, hrr1_1, hrr3_0, hrr3_3, (fun r9 d9 h8 h9 => by rw [hfo_1] at h8; obtain rfl := Option.some.inj h8; rw [hfo_21] at h9; obtain rfl := Option.some.inj h9; exact hT0)⟩, by rw [ht]; exact hP, va_K.moved hW.alike hK, pl_in hD⟩, hS.F ht⟩) hS.2.2 dX11_parts_28
      · skip
        rw [Int32.lt_iff_toInt_lt, ti_1] at c_67
        refine lv_iload_n hx hb dX11_parts_21 rfl (lv_at hl 3 rfl) ?_
        refine lv_iconst (v := 3) hx hb dX11_parts_22 (by decide) ?_
        refine lv_icmp_le (tgt := 29) hx hb dX11_parts_23 (by decide) (fun c_68 => ?_) (fun c_68 => ?_)
        · skip
          rw [Int32.le_iff_toInt_le, ti_3] at c_68
          refine lv_aload_n hx hb dX11_parts_29 rfl (lv_at hl 0 rfl) ?_
          refine lv_iload_n hx hb dX11_parts_30 rfl (lv_at hl 1 rfl) ?_
          refine lv_iload_n hx hb dX11_parts_31 rfl (lv_at hl 2 rfl) ?_
          refine lv_iload_n hx hb dX11_parts_32 rfl (lv_at hl 3 rfl) ?_
          refine tk_ViP (As := [.int p1, .int p2, .int p3]) (rest := []) (n := 3) hx hb hml hown hU hN hZ (s_X11_firstParted_k11 l (dC, dI) cI cL cZ cR cG cH Z kd L f hG o0 mo0 ko0 p1 p2 p3 (by constructor <;> omega) (fun r9 d9 h8 h9 => by rw [hfo_1] at h8; obtain rfl := Option.some.inj h8; rw [hfo_21] at h9; obtain rfl := Option.some.inj h9; exact hT0)) wd_1313 wd_1314 wd_1315 wd_2 wd_1316 (by decide +kernel) ⟨Nat.le_of_ble_eq_true rfl, Nat.le_of_ble_eq_true rfl⟩ hK hP hD hS mo0 hfo_1 11 rfl rfl rfl hl.1 rfl (Nat.le_of_ble_eq_true rfl) dX11_parts_33 ⟨Nat.le_of_ble_eq_true rfl, Nat.le_of_ble_eq_true rfl⟩ (fun x_69 f_70 H locs hw hP hD hS => ?_)
          obtain ⟨hG, bx_69, hkc_71, hrc_72, hrc_73, hrc_74, hrc_75, hTc_76⟩ := hw
          have hfo_78 : f_70 o0 = .inr (11, [.ref a_2, .int v_3, .ref a_4, .ref a_5, .ref a_6, .ref a_7, .ref a_8, .ref a_9, .int v_10, .ref a_11, .ref a_12, .ref a_13, .int v_14, .int v_15, .ref a_16, .int v_17, .ref a_18, .ref a_19, .int v_20]) := by rw [hkc_71 o0 (by rw [ko0]; decide) (by rw [ko0]; decide) (by rw [ko0]; decide) (by rw [ko0]; decide) (by rw [ko0]; decide) (by rw [ko0]; decide) (by rw [ko0]; decide) (by rw [ko0]; decide) (by rw [ko0]; decide) (by rw [ko0]; decide) (by rw [ko0]; decide) (by rw [ko0]; decide) (by rw [ko0]; decide) (by rw [ko0]; decide) (by rw [ko0]; decide) (by rw [ko0]; decide)]; exact hfo_1
          have hfo_79 : f_70 a_5 = .inr (7, [.ref a_45, .int v_46, .ref a_47, .ref a_48, .ref a_49, .ref a_50, .int v_51, .ref a_52, .ref a_53, .ref a_54, .ref a_55, .ref a_56, .int v_57, .ref a_58, .ref a_59, .ref a_60]) := by rw [hkc_71 a_5 (by rw [ka_5]; decide) (by rw [ka_5]; decide) (by rw [ka_5]; decide) (by rw [ka_5]; decide) (by rw [ka_5]; decide) (by rw [ka_5]; decide) (by rw [ka_5]; decide) (by rw [ka_5]; decide) (by rw [ka_5]; decide) (by rw [ka_5]; decide) (by rw [ka_5]; decide) (by rw [ka_5]; decide) (by rw [ka_5]; decide) (by rw [ka_5]; decide) (by rw [ka_5]; decide) (by rw [ka_5]; decide)]; exact hfo_44
          have hfr0 : ∀ b, kd b ≠ 1 → kd b ≠ 3 → kd b ≠ 10 → kd b ≠ 507 → kd b ≠ 517 → kd b ≠ 518 → kd b ≠ 519 → kd b ≠ 520 → kd b ≠ 521 → kd b ≠ 522 → kd b ≠ 523 → kd b ≠ 524 → kd b ≠ 525 → kd b ≠ 526 → kd b ≠ 527 → kd b ≠ 528 → f_70 b = f b := fun b q1 q3 q10 q507 q517 q518 q519 q520 q521 q522 q523 q524 q525 q526 q527 q528 => (hkc_71 b q1 q3 q10 q507 q517 q518 q519 q520 q521 q522 q523 q524 q525 q526 q527 q528).trans (hfr0 b q1 q3 q10 q507 q517 q518 q519 q520 q521 q522 q523 q524 q525 q526 q527 q528)
          have hrr1_0 : ∀ b, kd b = 1 → fldR (f_70 b) 0 = fldR (f b) 0 := fun b kb => (hrc_72 b kb).trans (hrr1_0 b kb)
          have hrr1_1 : ∀ b, kd b = 1 → fldR (f_70 b) 1 = fldR (f b) 1 := fun b kb => (hrc_73 b kb).trans (hrr1_1 b kb)
          have hrr3_0 : ∀ b, kd b = 3 → fldR (f_70 b) 0 = fldR (f b) 0 := fun b kb => (hrc_74 b kb).trans (hrr3_0 b kb)
          have hrr3_3 : ∀ b, kd b = 3 → fldR (f_70 b) 3 = fldR (f b) 3 := fun b kb => (hrc_75 b kb).trans (hrr3_3 b kb)
          obtain ⟨a_81, a_82, a_83, a_84, a_85, v_86, v_87, v_88, v_89, v_90, v_91, v_92, a_93, a_94, a_95, v_96, a_97, a_98, hfo_80, ⟨ma_81, ka_81⟩, ⟨ma_82, ka_82⟩, ⟨ma_83, ka_83⟩, ⟨ma_84, ka_84⟩, ⟨ma_85, ka_85⟩, bv_86, bv_87, bv_88, ⟨ma_93, ka_93⟩, ⟨ma_94, ka_94⟩, ⟨ma_95, ka_95⟩, bv_96, ⟨ma_97, ka_97⟩, ⟨ma_98, ka_98⟩⟩ := un_3 (hG _ ma_4) ka_4
          have bv_89 : ((-2147483648) ≤ v_89.toInt ∧ v_89.toInt ≤ 2147483647) := ⟨i32_lo _, i32_hi _⟩
          have bv_90 : ((-2147483648) ≤ v_90.toInt ∧ v_90.toInt ≤ 2147483647) := ⟨i32_lo _, i32_hi _⟩
          have bv_91 : ((-2147483648) ≤ v_91.toInt ∧ v_91.toInt ≤ 2147483647) := ⟨i32_lo _, i32_hi _⟩
          have bv_92 : ((-2147483648) ≤ v_92.toInt ∧ v_92.toInt ≤ 2147483647) := ⟨i32_lo _, i32_hi _⟩
          obtain rfl : a_22 = a_81 := by have hk9 := hrr3_0 a_4 ka_4; rw [hfo_80, hfo_21] at hk9; exact (Option.some.inj hk9).symm
          obtain rfl : a_25 = a_84 := by have hk9 := hrr3_3 a_4 ka_4; rw [hfo_80, hfo_21] at hk9; exact (Option.some.inj hk9).symm
          have hT_99 := hTc_76 a_4 a_25 (by rw [hfo_78]; rfl) (by rw [hfo_80]; rfl)
          exact W.iret (v := x_69) hx hb hr (fun t ht hW => ⟨⟨x_69, f_70, rfl, ⟨hG, (by constructor <;> omega), hfr0, hrr1_0, hrr1_1, hrr3_0, hrr3_3, (fun r9 d9 h8 h9 => by rw [hfo_78] at h8; obtain rfl := Option.some.inj h8; rw [hfo_80] at h9; obtain rfl := Option.some.inj h9; exact hT_99)⟩, by rw [ht]; exact hP, va_K.moved hW.alike hK, pl_in hD⟩, hS.F ht⟩) hS.2.2 dX11_parts_36
        · skip
          rw [Int32.le_iff_toInt_le, ti_3] at c_68
          refine lv_bipush (v := (-2)) hx hb dX11_parts_26 (by decide) ?_
          exact W.iret (v := (-2)) hx hb hr (fun t ht hW => ⟨⟨(-2), f, rfl, ⟨hG, (by decide), hfr0, hrr1_0, hrr1_1, hrr3_0, hrr3_3, (fun r9 d9 h8 h9 => by rw [hfo_1] at h8; obtain rfl := Option.some.inj h8; rw [hfo_21] at h9; obtain rfl := Option.some.inj h9; exact hT0)⟩, by rw [ht]; exact hP, va_K.moved hW.alike hK, pl_in hD⟩, hS.F ht⟩) hS.2.2 dX11_parts_28
set_option maxHeartbeats 8000000 in
set_option maxRecDepth 100000 in
theorem s_X11_idle_k11 (l : Launch) (D : va_G) (cI cL cZ cR cG cH : ClassId) (Z : zT) (kd : Nat → Nat) (L : List Nat) (f : Nat → va_E) (hG : GI (okc cI cL cZ cR cG cH L kd) kd L f) (o0 : Nat) (mo0 : o0 ∈ L) (ko0 : kd o0 = 11) (p1 : Int32) (p2 : Int32) (hxtr0 : ∀ r9 d9, fldR (f o0) 2 = some r9 → fldR (f r9) 3 = some d9 → drel kd 1 521 522 f d9) : mPI l D cI cL cZ cR cG cH Z yX11_idle cX11_idle 4 (some .int) 17 571 [.ref o0, .int p1, .int p2] L f (fun (r : Int32) (f9 : Nat → va_E) => GI (okc cI cL cZ cR cG cH L kd) kd L f9 ∧ ((-2147483648) ≤ r.toInt ∧ r.toInt ≤ 2147483647) ∧ (∀ b, kd b ≠ 1 → kd b ≠ 3 → kd b ≠ 10 → kd b ≠ 507 → kd b ≠ 517 → kd b ≠ 518 → kd b ≠ 519 → kd b ≠ 520 → kd b ≠ 521 → kd b ≠ 522 → kd b ≠ 523 → kd b ≠ 524 → kd b ≠ 525 → kd b ≠ 526 → kd b ≠ 527 → kd b ≠ 528 → f9 b = f b) ∧ (∀ b, kd b = 1 → fldR (f9 b) 0 = fldR (f b) 0) ∧ (∀ b, kd b = 1 → fldR (f9 b) 1 = fldR (f b) 1) ∧ (∀ b, kd b = 3 → fldR (f9 b) 0 = fldR (f b) 0) ∧ (∀ b, kd b = 3 → fldR (f9 b) 3 = fldR (f b) 3) ∧ (∀ r9 d9, fldR (f9 o0) 2 = some r9 → fldR (f9 r9) 3 = some d9 → drel kd 1 521 522 f9 d9)) := by
  obtain ⟨dC, dI⟩ := D
  refine Met.ofW (cc := cX11_idle) (maxL := 4) (ret := (some .int)) (by decide) rfl ?_
  intro p e s m args below meth c s₁ B hml hv
  obtain ⟨rfl, hP, hK, hD0, hN, hZ⟩ := hv
  have hx := B.exec
  have hb := B.bytes
  have hr := B.returns
  have hU : ∀ w ∈ wsU, w.before _ s = true := fun w h => atoms_spec (ws := wU yX11_idle cX11_idle 4 (some .int)) B.pre w (List.mem_cons_of_mem _ h)
  have hown : s.vm.findClass RX11 = some m.cls := findClass_of_methodNamed B.named
  have hlocks := B.notSynchronized
  have hD := pl_in hD0
  have hS : va_S (fun q => q ∈ L) s.heap s.heap [] := va_S.rf
  have hl := lv_entry ([.ref o0, .int p1, .int p2]) (n := 4) (Nat.le_of_ble_eq_true rfl)
  rw [lg_entry_eq]
  generalize (lg_sl ([.ref o0, .int p1, .int p2]) ++ List.replicate (4 - (lg_sl ([.ref o0, .int p1, .int p2])).length) Slot.unset).toArray = ls at hl ⊢
  have hl : lv_has ls 4 [(0, .ref o0), (1, .int p1), (2, .int p2)] := hl
  have bp1 : ((-2147483648) ≤ p1.toInt ∧ p1.toInt ≤ 2147483647) := ⟨i32_lo _, i32_hi _⟩
  have bp2 : ((-2147483648) ≤ p2.toInt ∧ p2.toInt ≤ 2147483647) := ⟨i32_lo _, i32_hi _⟩
  have hfr0 : ∀ b, kd b ≠ 1 → kd b ≠ 3 → kd b ≠ 10 → kd b ≠ 507 → kd b ≠ 517 → kd b ≠ 518 → kd b ≠ 519 → kd b ≠ 520 → kd b ≠ 521 → kd b ≠ 522 → kd b ≠ 523 → kd b ≠ 524 → kd b ≠ 525 → kd b ≠ 526 → kd b ≠ 527 → kd b ≠ 528 → f b = f b := fun _ _ _ _ _ _ _ _ _ _ _ _ _ _ _ _ _ => rfl
  have hrr1_0 : ∀ b, kd b = 1 → fldR (f b) 0 = fldR (f b) 0 := fun _ _ => rfl
  have hrr1_1 : ∀ b, kd b = 1 → fldR (f b) 1 = fldR (f b) 1 := fun _ _ => rfl
  have hrr3_0 : ∀ b, kd b = 3 → fldR (f b) 0 = fldR (f b) 0 := fun _ _ => rfl
  have hrr3_3 : ∀ b, kd b = 3 → fldR (f b) 3 = fldR (f b) 3 := fun _ _ => rfl
  obtain ⟨a_2, v_3, a_4, a_5, a_6, a_7, a_8, a_9, v_10, a_11, a_12, a_13, v_14, v_15, a_16, v_17, a_18, a_19, v_20, hfo_1, ⟨ma_2, ka_2⟩, bv_3, ⟨ma_4, ka_4⟩, ⟨ma_5, ka_5⟩, ⟨ma_6, ka_6⟩, ⟨ma_7, ka_7⟩, ⟨ma_8, ka_8⟩, ⟨ma_9, ka_9⟩, bv_10, ⟨ma_11, ka_11⟩, ⟨ma_12, ka_12⟩, ⟨ma_13, ka_13⟩, bv_14, ⟨ma_16, ka_16⟩, bv_17, ⟨ma_18, ka_18⟩, ⟨ma_19, ka_19⟩⟩ := un_11 (hG _ mo0) ko0
  have bv_15 : ((-2147483648) ≤ v_15.toInt ∧ v_15.toInt ≤ 2147483647) := ⟨i32_lo _, i32_hi _⟩
  have bv_20 : ((-2147483648) ≤ v_20.toInt ∧ v_20.toInt ≤ 2147483647) := ⟨i32_lo _, i32_hi _⟩
  obtain ⟨a_22, a_23, a_24, a_25, a_26, v_27, v_28, v_29, v_30, v_31, v_32, v_33, a_34, a_35, a_36, v_37, a_38, a_39, hfo_21, ⟨ma_22, ka_22⟩, ⟨ma_23, ka_23⟩, ⟨ma_24, ka_24⟩, ⟨ma_25, ka_25⟩, ⟨ma_26, ka_26⟩, bv_27, bv_28, bv_29, ⟨ma_34, ka_34⟩, ⟨ma_35, ka_35⟩, ⟨ma_36, ka_36⟩, bv_37, ⟨ma_38, ka_38⟩, ⟨ma_39, ka_39⟩⟩ := un_3 (hG _ ma_4) ka_4
  have bv_30 : ((-2147483648) ≤ v_30.toInt ∧ v_30.toInt ≤ 2147483647) := ⟨i32_lo _, i32_hi _⟩
  have bv_31 : ((-2147483648) ≤ v_31.toInt ∧ v_31.toInt ≤ 2147483647) := ⟨i32_lo _, i32_hi _⟩
  have bv_32 : ((-2147483648) ≤ v_32.toInt ∧ v_32.toInt ≤ 2147483647) := ⟨i32_lo _, i32_hi _⟩
  have bv_33 : ((-2147483648) ≤ v_33.toInt ∧ v_33.toInt ≤ 2147483647) := ⟨i32_lo _, i32_hi _⟩
  have hT0 := hxtr0 a_4 a_25 (by rw [hfo_1]; rfl) (by rw [hfo_21]; rfl)
  refine lv_aload_n hx hb dX11_idle_0 rfl (lv_at hl 0 rfl) ?_
  refine lv_iload_n hx hb dX11_idle_1 rfl (lv_at hl 1 rfl) ?_
  refine tk_ViP (As := [.int p1]) (rest := []) (n := 1) hx hb hml hown hU hN hZ (s_X11_isRule_k11 l (dC, dI) cI cL cZ cR cG cH Z kd L f hG o0 mo0 ko0 p1) wd_1135 wd_1136 wd_1137 wd_2 wd_1138 (by decide +kernel) ⟨Nat.le_of_ble_eq_true rfl, Nat.le_of_ble_eq_true rfl⟩ hK hP hD hS mo0 hfo_1 11 rfl rfl rfl hl.1 rfl (Nat.le_of_ble_eq_true rfl) dX11_idle_2 ⟨Nat.le_of_ble_eq_true rfl, Nat.le_of_ble_eq_true rfl⟩ (fun x_40 f_41 H locs hw hP hD hS => ?_)
  obtain ⟨rfl, bx_40, relx_40⟩ := hw
  refine lv_if_eq (tgt := 32) hx hb dX11_idle_5 (by decide) (fun c_43 => ?_) (fun c_43 => ?_)
  · skip
    rw [← Int32.toInt_inj, ti_0] at c_43
    refine lv_iconst (v := (-1)) hx hb dX11_idle_32 (by decide) ?_
    exact W.iret (v := (-1)) hx hb hr (fun t ht hW => ⟨⟨(-1), f, rfl, ⟨hG, (by decide), hfr0, hrr1_0, hrr1_1, hrr3_0, hrr3_3, (fun r9 d9 h8 h9 => by rw [hfo_1] at h8; obtain rfl := Option.some.inj h8; rw [hfo_21] at h9; obtain rfl := Option.some.inj h9; exact hT0)⟩, by rw [ht]; exact hP, va_K.moved hW.alike hK, pl_in hD⟩, hS.F ht⟩) hS.2.2 dX11_idle_33
  · skip
    rw [← Int32.toInt_inj, ti_0] at c_43
    refine lv_iload_n hx hb dX11_idle_8 rfl (lv_at hl 2 rfl) ?_
    refine lv_iconst (v := 1) hx hb dX11_idle_9 (by decide) ?_
    refine lv_icmp_lt (tgt := 32) hx hb dX11_idle_10 (by decide) (fun c_44 => ?_) (fun c_44 => ?_)
    · skip
      rw [Int32.lt_iff_toInt_lt, ti_1] at c_44
      refine lv_iconst (v := (-1)) hx hb dX11_idle_32 (by decide) ?_
      exact W.iret (v := (-1)) hx hb hr (fun t ht hW => ⟨⟨(-1), f, rfl, ⟨hG, (by decide), hfr0, hrr1_0, hrr1_1, hrr3_0, hrr3_3, (fun r9 d9 h8 h9 => by rw [hfo_1] at h8; obtain rfl := Option.some.inj h8; rw [hfo_21] at h9; obtain rfl := Option.some.inj h9; exact hT0)⟩, by rw [ht]; exact hP, va_K.moved hW.alike hK, pl_in hD⟩, hS.F ht⟩) hS.2.2 dX11_idle_33
    · skip
      rw [Int32.lt_iff_toInt_lt, ti_1] at c_44
      refine lv_iload_n hx hb dX11_idle_13 rfl (lv_at hl 2 rfl) ?_
      refine lv_iconst (v := 3) hx hb dX11_idle_14 (by decide) ?_
      refine lv_icmp_gt (tgt := 32) hx hb dX11_idle_15 (by decide) (fun c_45 => ?_) (fun c_45 => ?_)
      · skip
        rw [Int32.lt_iff_toInt_lt, ti_3] at c_45
        refine lv_iconst (v := (-1)) hx hb dX11_idle_32 (by decide) ?_
        exact W.iret (v := (-1)) hx hb hr (fun t ht hW => ⟨⟨(-1), f, rfl, ⟨hG, (by decide), hfr0, hrr1_0, hrr1_1, hrr3_0, hrr3_3, (fun r9 d9 h8 h9 => by rw [hfo_1] at h8; obtain rfl := Option.some.inj h8; rw [hfo_21] at h9; obtain rfl := Option.some.inj h9; exact hT0)⟩, by rw [ht]; exact hP, va_K.moved hW.alike hK, pl_in hD⟩, hS.F ht⟩) hS.2.2 dX11_idle_33
      · skip
        rw [Int32.lt_iff_toInt_lt, ti_3] at c_45
        refine lv_aload_n hx hb dX11_idle_18 rfl (lv_at hl 0 rfl) ?_
        refine tk_getP (D := (dC, dI)) (ci := 11) (v := .ref a_7) (C := RX11) (T := TX11) (N := 19) hx hb hU inlX11 hown hK hP mo0 hfo_1 rfl 5 (by decide) (hU _ wd_25) (fun _ h9 => h9) rfl dX11_idle_19 ?_
        obtain ⟨v_47, v_48, a_49, a_50, a_51, v_52, a_53, a_54, a_55, hfo_46, bv_48, ⟨ma_49, ka_49⟩, ⟨ma_50, ka_50⟩, ⟨ma_51, ka_51⟩, ⟨ma_53, ka_53⟩, ⟨ma_54, ka_54⟩, ⟨ma_55, ka_55⟩⟩ := un_6 (hG _ ma_7) ka_7
        have bv_47 : ((-2147483648) ≤ v_47.toInt ∧ v_47.toInt ≤ 2147483647) := ⟨i32_lo _, i32_hi _⟩
        have bv_52 : ((-2147483648) ≤ v_52.toInt ∧ v_52.toInt ≤ 2147483647) := ⟨i32_lo _, i32_hi _⟩
        refine tk_getP (D := (dC, dI)) (ci := 6) (v := .int v_47) (C := RX6) (T := TX6) (N := 9) hx hb hU inlX6 hown hK hP ma_7 hfo_46 rfl 0 (by decide) (hU _ wd_677) (fun _ h9 => h9) rfl dX11_idle_22 ?_
        refine lv_iload_n hx hb dX11_idle_25 rfl (lv_at hl 1 rfl) ?_
        refine lv_ishr hx hb dX11_idle_26 ?_
        refine lv_topi (fun x_56 ex_56 => ?_)
        have bx_56 : ((-2147483648) ≤ x_56.toInt ∧ x_56.toInt ≤ 2147483647) := ⟨i32_lo _, i32_hi _⟩
        refine lv_iconst (v := 1) hx hb dX11_idle_27 (by decide) ?_
        refine lv_iand hx hb dX11_idle_28 ?_
        refine lv_topi (fun x_57 ex_57 => ?_)
        have bx_57 : (0 ≤ x_57.toInt ∧ x_57.toInt ≤ 1) := by rw [ex_57]; have h8 := an_C x_56 (m := 1) (by decide); rw [ti_1] at h8; exact h8
        refine lv_if_ne (tgt := 34) hx hb dX11_idle_29 (by decide) (fun c_58 => ?_) (fun c_58 => ?_)
        · skip
          rw [← Int32.toInt_inj, ti_0] at c_58
          refine lv_aload_n hx hb dX11_idle_34 rfl (lv_at hl 0 rfl) ?_
          refine tk_getP (D := (dC, dI)) (ci := 11) (v := .ref a_7) (C := RX11) (T := TX11) (N := 19) hx hb hU inlX11 hown hK hP mo0 hfo_1 rfl 5 (by decide) (hU _ wd_25) (fun _ h9 => h9) rfl dX11_idle_35 ?_
          refine tk_getP (D := (dC, dI)) (ci := 6) (v := .int v_47) (C := RX6) (T := TX6) (N := 9) hx hb hU inlX6 hown hK hP ma_7 hfo_46 rfl 0 (by decide) (hU _ wd_677) (fun _ h9 => h9) rfl dX11_idle_38 ?_
          refine lv_iconst (v := 1) hx hb dX11_idle_41 (by decide) ?_
          refine lv_iload_n hx hb dX11_idle_42 rfl (lv_at hl 1 rfl) ?_
          refine lv_ishl hx hb dX11_idle_43 ?_
          refine lv_topi (fun x_59 ex_59 => ?_)
          have bx_59 : (1 ≤ x_59.toInt ∧ x_59.toInt ≤ 128) := by rw [ex_59]; exact sh_7 (by constructor <;> omega)
          refine lv_iconst (v := (-1)) hx hb dX11_idle_44 (by decide) ?_
          refine lv_ixor hx hb dX11_idle_45 ?_
          refine lv_topi (fun x_60 ex_60 => ?_)
          have bx_60 : ((-2147483648) ≤ x_60.toInt ∧ x_60.toInt ≤ 2147483647) := ⟨i32_lo _, i32_hi _⟩
          refine lv_iand hx hb dX11_idle_46 ?_
          refine lv_topi (fun x_61 ex_61 => ?_)
          have bx_61 : ((-2147483648) ≤ x_61.toInt ∧ x_61.toInt ≤ 2147483647) := ⟨i32_lo _, i32_hi _⟩
          refine lv_istore_n (lv' := [(3, .int x_61), (0, .ref o0), (1, .int p1), (2, .int p2)]) hx hb dX11_idle_47 rfl hl (by decide) rfl (fun ls hl => ?_)
          refine lv_aload_n hx hb dX11_idle_48 rfl (lv_at hl 1 rfl) ?_
          refine lv_aload_n hx hb dX11_idle_49 rfl (lv_at hl 1 rfl) ?_
          refine tk_getP (D := (dC, dI)) (ci := 11) (v := .ref a_7) (C := RX11) (T := TX11) (N := 19) hx hb hU inlX11 hown hK hP mo0 hfo_1 rfl 5 (by decide) (hU _ wd_25) (fun _ h9 => h9) rfl dX11_idle_50 ?_
          refine tk_getP (D := (dC, dI)) (ci := 6) (v := .int v_47) (C := RX6) (T := TX6) (N := 9) hx hb hU inlX6 hown hK hP ma_7 hfo_46 rfl 0 (by decide) (hU _ wd_677) (fun _ h9 => h9) rfl dX11_idle_53 ?_
          refine lv_iload_n hx hb dX11_idle_56 rfl (lv_at hl 0 rfl) ?_
          refine lv_iload_n hx hb dX11_idle_57 rfl (lv_at hl 3 rfl) ?_
          refine tk_ViP (As := [.int v_47, .int x_61, .int p2]) (rest := []) (n := 3) hx hb hml hown hU hN hZ (s_X11_firstParted_k11 l (dC, dI) cI cL cZ cR cG cH Z kd L f hG o0 mo0 ko0 v_47 x_61 p2 (by constructor <;> omega) (fun r9 d9 h8 h9 => by rw [hfo_1] at h8; obtain rfl := Option.some.inj h8; rw [hfo_21] at h9; obtain rfl := Option.some.inj h9; exact hT0)) wd_1313 wd_1314 wd_1315 wd_2 wd_1316 (by decide +kernel) ⟨Nat.le_of_ble_eq_true rfl, Nat.le_of_ble_eq_true rfl⟩ hK hP hD hS mo0 hfo_1 11 rfl rfl rfl hl.1 rfl (Nat.le_of_ble_eq_true rfl) dX11_idle_58 ⟨Nat.le_of_ble_eq_true rfl, Nat.le_of_ble_eq_true rfl⟩ (fun x_62 f_63 H locs hw hP hD hS => ?_)
          obtain ⟨hG, bx_62, hkc_64, hrc_65, hrc_66, hrc_67, hrc_68, hTc_69⟩ := hw
          have hfo_71 : f_63 o0 = .inr (11, [.ref a_2, .int v_3, .ref a_4, .ref a_5, .ref a_6, .ref a_7, .ref a_8, .ref a_9, .int v_10, .ref a_11, .ref a_12, .ref a_13, .int v_14, .int v_15, .ref a_16, .int v_17, .ref a_18, .ref a_19, .int v_20]) := by rw [hkc_64 o0 (by rw [ko0]; decide) (by rw [ko0]; decide) (by rw [ko0]; decide) (by rw [ko0]; decide) (by rw [ko0]; decide) (by rw [ko0]; decide) (by rw [ko0]; decide) (by rw [ko0]; decide) (by rw [ko0]; decide) (by rw [ko0]; decide) (by rw [ko0]; decide) (by rw [ko0]; decide) (by rw [ko0]; decide) (by rw [ko0]; decide) (by rw [ko0]; decide) (by rw [ko0]; decide)]; exact hfo_1
          have hfo_72 : f_63 a_7 = .inr (6, [.int v_47, .int v_48, .ref a_49, .ref a_50, .ref a_51, .int v_52, .ref a_53, .ref a_54, .ref a_55]) := by rw [hkc_64 a_7 (by rw [ka_7]; decide) (by rw [ka_7]; decide) (by rw [ka_7]; decide) (by rw [ka_7]; decide) (by rw [ka_7]; decide) (by rw [ka_7]; decide) (by rw [ka_7]; decide) (by rw [ka_7]; decide) (by rw [ka_7]; decide) (by rw [ka_7]; decide) (by rw [ka_7]; decide) (by rw [ka_7]; decide) (by rw [ka_7]; decide) (by rw [ka_7]; decide) (by rw [ka_7]; decide) (by rw [ka_7]; decide)]; exact hfo_46
          have hfr0 : ∀ b, kd b ≠ 1 → kd b ≠ 3 → kd b ≠ 10 → kd b ≠ 507 → kd b ≠ 517 → kd b ≠ 518 → kd b ≠ 519 → kd b ≠ 520 → kd b ≠ 521 → kd b ≠ 522 → kd b ≠ 523 → kd b ≠ 524 → kd b ≠ 525 → kd b ≠ 526 → kd b ≠ 527 → kd b ≠ 528 → f_63 b = f b := fun b q1 q3 q10 q507 q517 q518 q519 q520 q521 q522 q523 q524 q525 q526 q527 q528 => (hkc_64 b q1 q3 q10 q507 q517 q518 q519 q520 q521 q522 q523 q524 q525 q526 q527 q528).trans (hfr0 b q1 q3 q10 q507 q517 q518 q519 q520 q521 q522 q523 q524 q525 q526 q527 q528)
          have hrr1_0 : ∀ b, kd b = 1 → fldR (f_63 b) 0 = fldR (f b) 0 := fun b kb => (hrc_65 b kb).trans (hrr1_0 b kb)
          have hrr1_1 : ∀ b, kd b = 1 → fldR (f_63 b) 1 = fldR (f b) 1 := fun b kb => (hrc_66 b kb).trans (hrr1_1 b kb)
          have hrr3_0 : ∀ b, kd b = 3 → fldR (f_63 b) 0 = fldR (f b) 0 := fun b kb => (hrc_67 b kb).trans (hrr3_0 b kb)
          have hrr3_3 : ∀ b, kd b = 3 → fldR (f_63 b) 3 = fldR (f b) 3 := fun b kb => (hrc_68 b kb).trans (hrr3_3 b kb)
          obtain ⟨a_74, a_75, a_76, a_77, a_78, v_79, v_80, v_81, v_82, v_83, v_84, v_85, a_86, a_87, a_88, v_89, a_90, a_91, hfo_73, ⟨ma_74, ka_74⟩, ⟨ma_75, ka_75⟩, ⟨ma_76, ka_76⟩, ⟨ma_77, ka_77⟩, ⟨ma_78, ka_78⟩, bv_79, bv_80, bv_81, ⟨ma_86, ka_86⟩, ⟨ma_87, ka_87⟩, ⟨ma_88, ka_88⟩, bv_89, ⟨ma_90, ka_90⟩, ⟨ma_91, ka_91⟩⟩ := un_3 (hG _ ma_4) ka_4
          have bv_82 : ((-2147483648) ≤ v_82.toInt ∧ v_82.toInt ≤ 2147483647) := ⟨i32_lo _, i32_hi _⟩
          have bv_83 : ((-2147483648) ≤ v_83.toInt ∧ v_83.toInt ≤ 2147483647) := ⟨i32_lo _, i32_hi _⟩
          have bv_84 : ((-2147483648) ≤ v_84.toInt ∧ v_84.toInt ≤ 2147483647) := ⟨i32_lo _, i32_hi _⟩
          have bv_85 : ((-2147483648) ≤ v_85.toInt ∧ v_85.toInt ≤ 2147483647) := ⟨i32_lo _, i32_hi _⟩
          obtain rfl : a_22 = a_74 := by have hk9 := hrr3_0 a_4 ka_4; rw [hfo_73, hfo_21] at hk9; exact (Option.some.inj hk9).symm
          obtain rfl : a_25 = a_77 := by have hk9 := hrr3_3 a_4 ka_4; rw [hfo_73, hfo_21] at hk9; exact (Option.some.inj hk9).symm
          have hT_92 := hTc_69 a_4 a_25 (by rw [hfo_71]; rfl) (by rw [hfo_73]; rfl)
          refine lv_iconst (v := (-1)) hx hb dX11_idle_61 (by decide) ?_
          refine lv_icmp_ne (tgt := 69) hx hb dX11_idle_62 (by decide) (fun c_93 => ?_) (fun c_93 => ?_)
          · skip
            rw [← Int32.toInt_inj, ti_m1] at c_93
            refine lv_iconst (v := 0) hx hb dX11_idle_69 (by decide) ?_
            exact W.iret (v := 0) hx hb hr (fun t ht hW => ⟨⟨0, f_63, rfl, ⟨hG, (by decide), hfr0, hrr1_0, hrr1_1, hrr3_0, hrr3_3, (fun r9 d9 h8 h9 => by rw [hfo_71] at h8; obtain rfl := Option.some.inj h8; rw [hfo_73] at h9; obtain rfl := Option.some.inj h9; exact hT_92)⟩, by rw [ht]; exact hP, va_K.moved hW.alike hK, pl_in hD⟩, hS.F ht⟩) hS.2.2 dX11_idle_70
          · skip
            rw [← Int32.toInt_inj, ti_m1] at c_93
            refine lv_iconst (v := 1) hx hb dX11_idle_65 (by decide) ?_
            refine lv_goto (tgt := 70) hx hb dX11_idle_66 (by decide) ?_
            exact W.iret (v := 1) hx hb hr (fun t ht hW => ⟨⟨1, f_63, rfl, ⟨hG, (by decide), hfr0, hrr1_0, hrr1_1, hrr3_0, hrr3_3, (fun r9 d9 h8 h9 => by rw [hfo_71] at h8; obtain rfl := Option.some.inj h8; rw [hfo_73] at h9; obtain rfl := Option.some.inj h9; exact hT_92)⟩, by rw [ht]; exact hP, va_K.moved hW.alike hK, pl_in hD⟩, hS.F ht⟩) hS.2.2 dX11_idle_70
        · skip
          rw [← Int32.toInt_inj, ti_0] at c_58
          refine lv_iconst (v := (-1)) hx hb dX11_idle_32 (by decide) ?_
          exact W.iret (v := (-1)) hx hb hr (fun t ht hW => ⟨⟨(-1), f, rfl, ⟨hG, (by decide), hfr0, hrr1_0, hrr1_1, hrr3_0, hrr3_3, (fun r9 d9 h8 h9 => by rw [hfo_1] at h8; obtain rfl := Option.some.inj h8; rw [hfo_21] at h9; obtain rfl := Option.some.inj h9; exact hT0)⟩, by rw [ht]; exact hP, va_K.moved hW.alike hK, pl_in hD⟩, hS.F ht⟩) hS.2.2 dX11_idle_33
set_option maxHeartbeats 8000000 in
set_option maxRecDepth 100000 in
theorem s_X11_fewest_k11 (l : Launch) (D : va_G) (cI cL cZ cR cG cH : ClassId) (Z : zT) (kd : Nat → Nat) (L : List Nat) (f : Nat → va_E) (hG : GI (okc cI cL cZ cR cG cH L kd) kd L f) (o0 : Nat) (mo0 : o0 ∈ L) (ko0 : kd o0 = 11) (p1 : Int32) (hxtr0 : ∀ r9 d9, fldR (f o0) 2 = some r9 → fldR (f r9) 3 = some d9 → drel kd 1 521 522 f d9) : mPI l D cI cL cZ cR cG cH Z yX11_fewest cX11_fewest 5 (some .int) 16 541 [.ref o0, .int p1] L f (fun (r : Int32) (f9 : Nat → va_E) => GI (okc cI cL cZ cR cG cH L kd) kd L f9 ∧ ((-2147483648) ≤ r.toInt ∧ r.toInt ≤ 2147483647) ∧ (∀ b, kd b ≠ 1 → kd b ≠ 3 → kd b ≠ 10 → kd b ≠ 507 → kd b ≠ 517 → kd b ≠ 518 → kd b ≠ 519 → kd b ≠ 520 → kd b ≠ 521 → kd b ≠ 522 → kd b ≠ 523 → kd b ≠ 524 → kd b ≠ 525 → kd b ≠ 526 → kd b ≠ 527 → kd b ≠ 528 → kd b ≠ 529 → f9 b = f b) ∧ (∀ b, kd b = 1 → fldR (f9 b) 0 = fldR (f b) 0) ∧ (∀ b, kd b = 1 → fldR (f9 b) 1 = fldR (f b) 1) ∧ (∀ b, kd b = 3 → fldR (f9 b) 0 = fldR (f b) 0) ∧ (∀ b, kd b = 3 → fldR (f9 b) 3 = fldR (f b) 3) ∧ (∀ r9 d9, fldR (f9 o0) 2 = some r9 → fldR (f9 r9) 3 = some d9 → drel kd 1 521 522 f9 d9)) := by
  obtain ⟨dC, dI⟩ := D
  refine Met.ofW (cc := cX11_fewest) (maxL := 5) (ret := (some .int)) (by decide) rfl ?_
  intro p e s m args below meth c s₁ B hml hv
  obtain ⟨rfl, hP, hK, hD0, hN, hZ⟩ := hv
  have hx := B.exec
  have hb := B.bytes
  have hr := B.returns
  have hU : ∀ w ∈ wsU, w.before _ s = true := fun w h => atoms_spec (ws := wU yX11_fewest cX11_fewest 5 (some .int)) B.pre w (List.mem_cons_of_mem _ h)
  have hown : s.vm.findClass RX11 = some m.cls := findClass_of_methodNamed B.named
  have hlocks := B.notSynchronized
  have hD := pl_in hD0
  have hS : va_S (fun q => q ∈ L) s.heap s.heap [] := va_S.rf
  have hl := lv_entry ([.ref o0, .int p1]) (n := 5) (Nat.le_of_ble_eq_true rfl)
  rw [lg_entry_eq]
  generalize (lg_sl ([.ref o0, .int p1]) ++ List.replicate (5 - (lg_sl ([.ref o0, .int p1])).length) Slot.unset).toArray = ls at hl ⊢
  have hl : lv_has ls 5 [(0, .ref o0), (1, .int p1)] := hl
  have bp1 : ((-2147483648) ≤ p1.toInt ∧ p1.toInt ≤ 2147483647) := ⟨i32_lo _, i32_hi _⟩
  have hfr0 : ∀ b, kd b ≠ 1 → kd b ≠ 3 → kd b ≠ 10 → kd b ≠ 507 → kd b ≠ 517 → kd b ≠ 518 → kd b ≠ 519 → kd b ≠ 520 → kd b ≠ 521 → kd b ≠ 522 → kd b ≠ 523 → kd b ≠ 524 → kd b ≠ 525 → kd b ≠ 526 → kd b ≠ 527 → kd b ≠ 528 → kd b ≠ 529 → f b = f b := fun _ _ _ _ _ _ _ _ _ _ _ _ _ _ _ _ _ _ => rfl
  have hrr1_0 : ∀ b, kd b = 1 → fldR (f b) 0 = fldR (f b) 0 := fun _ _ => rfl
  have hrr1_1 : ∀ b, kd b = 1 → fldR (f b) 1 = fldR (f b) 1 := fun _ _ => rfl
  have hrr3_0 : ∀ b, kd b = 3 → fldR (f b) 0 = fldR (f b) 0 := fun _ _ => rfl
  have hrr3_3 : ∀ b, kd b = 3 → fldR (f b) 3 = fldR (f b) 3 := fun _ _ => rfl
  obtain ⟨a_2, v_3, a_4, a_5, a_6, a_7, a_8, a_9, v_10, a_11, a_12, a_13, v_14, v_15, a_16, v_17, a_18, a_19, v_20, hfo_1, ⟨ma_2, ka_2⟩, bv_3, ⟨ma_4, ka_4⟩, ⟨ma_5, ka_5⟩, ⟨ma_6, ka_6⟩, ⟨ma_7, ka_7⟩, ⟨ma_8, ka_8⟩, ⟨ma_9, ka_9⟩, bv_10, ⟨ma_11, ka_11⟩, ⟨ma_12, ka_12⟩, ⟨ma_13, ka_13⟩, bv_14, ⟨ma_16, ka_16⟩, bv_17, ⟨ma_18, ka_18⟩, ⟨ma_19, ka_19⟩⟩ := un_11 (hG _ mo0) ko0
  have bv_15 : ((-2147483648) ≤ v_15.toInt ∧ v_15.toInt ≤ 2147483647) := ⟨i32_lo _, i32_hi _⟩
  have bv_20 : ((-2147483648) ≤ v_20.toInt ∧ v_20.toInt ≤ 2147483647) := ⟨i32_lo _, i32_hi _⟩
  obtain ⟨a_22, a_23, a_24, a_25, a_26, v_27, v_28, v_29, v_30, v_31, v_32, v_33, a_34, a_35, a_36, v_37, a_38, a_39, hfo_21, ⟨ma_22, ka_22⟩, ⟨ma_23, ka_23⟩, ⟨ma_24, ka_24⟩, ⟨ma_25, ka_25⟩, ⟨ma_26, ka_26⟩, bv_27, bv_28, bv_29, ⟨ma_34, ka_34⟩, ⟨ma_35, ka_35⟩, ⟨ma_36, ka_36⟩, bv_37, ⟨ma_38, ka_38⟩, ⟨ma_39, ka_39⟩⟩ := un_3 (hG _ ma_4) ka_4
  have bv_30 : ((-2147483648) ≤ v_30.toInt ∧ v_30.toInt ≤ 2147483647) := ⟨i32_lo _, i32_hi _⟩
  have bv_31 : ((-2147483648) ≤ v_31.toInt ∧ v_31.toInt ≤ 2147483647) := ⟨i32_lo _, i32_hi _⟩
  have bv_32 : ((-2147483648) ≤ v_32.toInt ∧ v_32.toInt ≤ 2147483647) := ⟨i32_lo _, i32_hi _⟩
  have bv_33 : ((-2147483648) ≤ v_33.toInt ∧ v_33.toInt ≤ 2147483647) := ⟨i32_lo _, i32_hi _⟩
  have hT0 := hxtr0 a_4 a_25 (by rw [hfo_1]; rfl) (by rw [hfo_21]; rfl)
  refine lv_iload_n hx hb dX11_fewest_0 rfl (lv_at hl 1 rfl) ?_
  refine lv_iconst (v := 1) hx hb dX11_fewest_1 (by decide) ?_
  refine lv_icmp_lt (tgt := 10) hx hb dX11_fewest_2 (by decide) (fun c_40 => ?_) (fun c_40 => ?_)
  · skip
    rw [Int32.lt_iff_toInt_lt, ti_1] at c_40
    refine lv_iconst (v := (-1)) hx hb dX11_fewest_10 (by decide) ?_
    exact W.iret (v := (-1)) hx hb hr (fun t ht hW => ⟨⟨(-1), f, rfl, ⟨hG, (by decide), hfr0, hrr1_0, hrr1_1, hrr3_0, hrr3_3, (fun r9 d9 h8 h9 => by rw [hfo_1] at h8; obtain rfl := Option.some.inj h8; rw [hfo_21] at h9; obtain rfl := Option.some.inj h9; exact hT0)⟩, by rw [ht]; exact hP, va_K.moved hW.alike hK, pl_in hD⟩, hS.F ht⟩) hS.2.2 dX11_fewest_11
  · skip
    rw [Int32.lt_iff_toInt_lt, ti_1] at c_40
    refine lv_iload_n hx hb dX11_fewest_5 rfl (lv_at hl 1 rfl) ?_
    refine lv_iconst (v := 2) hx hb dX11_fewest_6 (by decide) ?_
    refine lv_icmp_le (tgt := 12) hx hb dX11_fewest_7 (by decide) (fun c_41 => ?_) (fun c_41 => ?_)
    · skip
      rw [Int32.le_iff_toInt_le, ti_2] at c_41
      refine lv_aload_n hx hb dX11_fewest_12 rfl (lv_at hl 0 rfl) ?_
      refine tk_getP (D := (dC, dI)) (ci := 11) (v := .ref a_4) (C := RX11) (T := TX11) (N := 19) hx hb hU inlX11 hown hK hP mo0 hfo_1 rfl 2 (by decide) (hU _ wd_17) (fun _ h9 => h9) rfl dX11_fewest_13 ?_
      refine tk_VvP (As := []) (rest := []) (n := 0) hx hb hml hown hU hN hZ (s_X3_clearNeeded_k3 l (dC, dI) cI cL cZ cR cG cH Z kd L f hG a_4 ma_4 ka_4) wd_1358 wd_1359 wd_1360 wd_16 wd_1361 (by decide +kernel) ⟨Nat.le_of_ble_eq_true rfl, Nat.le_of_ble_eq_true rfl⟩ hK hP hD hS ma_4 hfo_21 3 rfl rfl rfl hl.1 rfl (Nat.le_of_ble_eq_true rfl) dX11_fewest_16 ⟨Nat.le_of_ble_eq_true rfl, Nat.le_of_ble_eq_true rfl⟩ (fun f_43 H locs hw hP hD hS => ?_)
      obtain ⟨hG, hkc_44⟩ := hw
      have hfo_46 : f_43 o0 = .inr (11, [.ref a_2, .int v_3, .ref a_4, .ref a_5, .ref a_6, .ref a_7, .ref a_8, .ref a_9, .int v_10, .ref a_11, .ref a_12, .ref a_13, .int v_14, .int v_15, .ref a_16, .int v_17, .ref a_18, .ref a_19, .int v_20]) := by rw [hkc_44 o0 (by rw [ko0]; decide)]; exact hfo_1
      have hfo_47 : f_43 a_4 = .inr (3, [.ref a_22, .ref a_23, .ref a_24, .ref a_25, .ref a_26, .int v_27, .int v_28, .int v_29, .int v_30, .int v_31, .int v_32, .int v_33, .ref a_34, .ref a_35, .ref a_36, .int v_37, .ref a_38, .ref a_39]) := by rw [hkc_44 a_4 (by rw [ka_4]; decide)]; exact hfo_21
      have hfr0 : ∀ b, kd b ≠ 1 → kd b ≠ 3 → kd b ≠ 10 → kd b ≠ 507 → kd b ≠ 517 → kd b ≠ 518 → kd b ≠ 519 → kd b ≠ 520 → kd b ≠ 521 → kd b ≠ 522 → kd b ≠ 523 → kd b ≠ 524 → kd b ≠ 525 → kd b ≠ 526 → kd b ≠ 527 → kd b ≠ 528 → kd b ≠ 529 → f_43 b = f b := fun b q1 q3 q10 q507 q517 q518 q519 q520 q521 q522 q523 q524 q525 q526 q527 q528 q529 => (hkc_44 b q529).trans (hfr0 b q1 q3 q10 q507 q517 q518 q519 q520 q521 q522 q523 q524 q525 q526 q527 q528 q529)
      have hrr1_0 : ∀ b, kd b = 1 → fldR (f_43 b) 0 = fldR (f b) 0 := fun b kb => (congrArg (fun x => fldR x 0) (hkc_44 b (by rw [kb]; decide))).trans (hrr1_0 b kb)
      have hrr1_1 : ∀ b, kd b = 1 → fldR (f_43 b) 1 = fldR (f b) 1 := fun b kb => (congrArg (fun x => fldR x 1) (hkc_44 b (by rw [kb]; decide))).trans (hrr1_1 b kb)
      have hrr3_0 : ∀ b, kd b = 3 → fldR (f_43 b) 0 = fldR (f b) 0 := fun b kb => (congrArg (fun x => fldR x 0) (hkc_44 b (by rw [kb]; decide))).trans (hrr3_0 b kb)
      have hrr3_3 : ∀ b, kd b = 3 → fldR (f_43 b) 3 = fldR (f b) 3 := fun b kb => (congrArg (fun x => fldR x 3) (hkc_44 b (by rw [kb]; decide))).trans (hrr3_3 b kb)
      have hT0 : drel kd 1 521 522 f_43 a_25 := hT0.keep (fun b q => congrArg (fun x => fldI x 5) (hkc_44 b (by rw [q]; decide))) (fun b q => congrArg (fun x => fldR x 0) (hkc_44 b (by rw [q]; decide))) (fun b q => congrArg (fun x => fldR x 1) (hkc_44 b (by rw [q]; decide))) (fun b q => hkc_44 b (by rw [q]; decide)) (fun b q => hkc_44 b (by rw [q]; decide))
      refine lv_iconst (v := 1) hx hb dX11_fewest_19 (by decide) ?_
      refine lv_istore_n (lv' := [(2, .int 1), (0, .ref o0), (1, .int p1)]) hx hb dX11_fewest_20 rfl hl (by decide) rfl (fun ls hl => ?_)
      refine lv_iconst (v := 1) hx hb dX11_fewest_21 (by decide) ?_
      refine lv_istore_n (lv' := [(3, .int 1), (2, .int 1), (0, .ref o0), (1, .int p1)]) hx hb dX11_fewest_22 rfl hl (by decide) rfl (fun ls hl => ?_)
      have hloop_55 : ∀ (n : Nat), ∀ (y_56 : Int32), (1 ≤ y_56.toInt ∧ y_56.toInt ≤ 4) → ∀ (y_57 : Int32), (0 ≤ y_57.toInt ∧ y_57.toInt ≤ 512) → ∀ (f_59 : Nat → va_E), GI (okc cI cL cZ cR cG cH L kd) kd L f_59 → ∀ (H : Heap) (locs : List Loc), va_P (dC, dI) vwCl (va_pl L f_59) H → va_S (fun q => q ∈ L) s.heap H locs → va_D (fun q => q ∈ L) (va_pl L f_59) → (∀ b, kd b ≠ 1 → kd b ≠ 3 → kd b ≠ 10 → kd b ≠ 507 → kd b ≠ 517 → kd b ≠ 518 → kd b ≠ 519 → kd b ≠ 520 → kd b ≠ 521 → kd b ≠ 522 → kd b ≠ 523 → kd b ≠ 524 → kd b ≠ 525 → kd b ≠ 526 → kd b ≠ 527 → kd b ≠ 528 → kd b ≠ 529 → f_59 b = f b) → (∀ b, kd b = 1 → fldR (f_59 b) 0 = fldR (f b) 0) → (∀ b, kd b = 1 → fldR (f_59 b) 1 = fldR (f b) 1) → (∀ b, kd b = 3 → fldR (f_59 b) 0 = fldR (f b) 0) → (∀ b, kd b = 3 → fldR (f_59 b) 3 = fldR (f b) 3) → (f_59 o0 = .inr (11, [.ref a_2, .int v_3, .ref a_4, .ref a_5, .ref a_6, .ref a_7, .ref a_8, .ref a_9, .int v_10, .ref a_11, .ref a_12, .ref a_13, .int v_14, .int v_15, .ref a_16, .int v_17, .ref a_18, .ref a_19, .int v_20])) → drel kd 1 521 522 f_59 a_25 → ((y_56.toInt = 1 ∧ y_57.toInt ≤ 1) ∨ (y_56.toInt = 2 ∧ y_57.toInt ≤ 8) ∨ (y_56.toInt = 3 ∧ y_57.toInt ≤ 64) ∨ (y_56.toInt = 4 ∧ y_57.toInt ≤ 512)) → 4 - y_56.toInt < (n : Int) → ∀ (ls : Array Slot), lv_has ls 5 [(3, .int y_56), (2, .int y_57), (0, .ref o0), (1, .int p1)] → W p l e (headSpec (wU yX11_fewest cX11_fewest 5 (some .int)) { frames := 16, cells := 0, slots := 0, locals := 541 }).room s m [.ref o0, .int p1].toArray below meth c H locs 0 0 (MQ below (va_Qi (fun (r : Int32) (f9 : Nat → va_E) => GI (okc cI cL cZ cR cG cH L kd) kd L f9 ∧ ((-2147483648) ≤ r.toInt ∧ r.toInt ≤ 2147483647) ∧ (∀ b, kd b ≠ 1 → kd b ≠ 3 → kd b ≠ 10 → kd b ≠ 507 → kd b ≠ 517 → kd b ≠ 518 → kd b ≠ 519 → kd b ≠ 520 → kd b ≠ 521 → kd b ≠ 522 → kd b ≠ 523 → kd b ≠ 524 → kd b ≠ 525 → kd b ≠ 526 → kd b ≠ 527 → kd b ≠ 528 → kd b ≠ 529 → f9 b = f b) ∧ (∀ b, kd b = 1 → fldR (f9 b) 0 = fldR (f b) 0) ∧ (∀ b, kd b = 1 → fldR (f9 b) 1 = fldR (f b) 1) ∧ (∀ b, kd b = 3 → fldR (f9 b) 0 = fldR (f b) 0) ∧ (∀ b, kd b = 3 → fldR (f9 b) 3 = fldR (f b) 3) ∧ (∀ r9 d9, fldR (f9 o0) 2 = some r9 → fldR (f9 r9) 3 = some d9 → drel kd 1 521 522 f9 d9)) (qP (dC, dI) cI cL cZ cR cG cH L) (fun q => q ∈ L)) [.ref o0, .int p1].toArray s 0 0 (fun q => q ∈ L)) (F0 m 23 ls []) := by
        intro n
        induction n with
        | zero => intro y_56 by_56 y_57 by_57 f_59 hG H locs hP hS hD hfr0 hrr1_0 hrr1_1 hrr3_0 hrr3_3 hfo_60 hT0 hrelhloop_55_0 hmuhloop_55 ls hl; exfalso; omega
        | succ n ih_hloop_55 =>
          intro y_56 by_56 y_57 by_57 f_59 hG H locs hP hS hD hfr0 hrr1_0 hrr1_1 hrr3_0 hrr3_3 hfo_60 hT0 hrelhloop_55_0 hmuhloop_55 ls hl
          refine lv_iload_n hx hb dX11_fewest_23 rfl (lv_at hl 0 rfl) ?_
          refine lv_iload_n hx hb dX11_fewest_24 rfl (lv_at hl 3 rfl) ?_
          refine lv_icmp_gt (tgt := 90) hx hb dX11_fewest_25 (by decide) (fun c_61 => ?_) (fun c_61 => ?_)
          · skip
            rw [Int32.lt_iff_toInt_lt] at c_61
            refine lv_aload_n hx hb dX11_fewest_90 rfl (lv_at hl 2 rfl) ?_
            refine tk_getP (D := (dC, dI)) (ci := 11) (v := .ref a_4) (C := RX11) (T := TX11) (N := 19) hx hb hU inlX11 hown hK hP mo0 hfo_60 rfl 2 (by decide) (hU _ wd_17) (fun _ h9 => h9) rfl dX11_fewest_91 ?_
            refine lv_aload_n hx hb dX11_fewest_94 rfl (lv_at hl 2 rfl) ?_
            refine tk_getP (D := (dC, dI)) (ci := 11) (v := .ref a_7) (C := RX11) (T := TX11) (N := 19) hx hb hU inlX11 hown hK hP mo0 hfo_60 rfl 5 (by decide) (hU _ wd_25) (fun _ h9 => h9) rfl dX11_fewest_95 ?_
            obtain ⟨v_63, v_64, a_65, a_66, a_67, v_68, a_69, a_70, a_71, hfo_62, bv_64, ⟨ma_65, ka_65⟩, ⟨ma_66, ka_66⟩, ⟨ma_67, ka_67⟩, ⟨ma_69, ka_69⟩, ⟨ma_70, ka_70⟩, ⟨ma_71, ka_71⟩⟩ := un_6 (hG _ ma_7) ka_7
            have bv_63 : ((-2147483648) ≤ v_63.toInt ∧ v_63.toInt ≤ 2147483647) := ⟨i32_lo _, i32_hi _⟩
            have bv_68 : ((-2147483648) ≤ v_68.toInt ∧ v_68.toInt ≤ 2147483647) := ⟨i32_lo _, i32_hi _⟩
            refine tk_getP (D := (dC, dI)) (ci := 6) (v := .int v_63) (C := RX6) (T := TX6) (N := 9) hx hb hU inlX6 hown hK hP ma_7 hfo_62 rfl 0 (by decide) (hU _ wd_677) (fun _ h9 => h9) rfl dX11_fewest_98 ?_
            obtain ⟨a_73, a_74, a_75, a_76, a_77, v_78, v_79, v_80, v_81, v_82, v_83, v_84, a_85, a_86, a_87, v_88, a_89, a_90, hfo_72, ⟨ma_73, ka_73⟩, ⟨ma_74, ka_74⟩, ⟨ma_75, ka_75⟩, ⟨ma_76, ka_76⟩, ⟨ma_77, ka_77⟩, bv_78, bv_79, bv_80, ⟨ma_85, ka_85⟩, ⟨ma_86, ka_86⟩, ⟨ma_87, ka_87⟩, bv_88, ⟨ma_89, ka_89⟩, ⟨ma_90, ka_90⟩⟩ := un_3 (hG _ ma_4) ka_4
            have bv_81 : ((-2147483648) ≤ v_81.toInt ∧ v_81.toInt ≤ 2147483647) := ⟨i32_lo _, i32_hi _⟩
            have bv_82 : ((-2147483648) ≤ v_82.toInt ∧ v_82.toInt ≤ 2147483647) := ⟨i32_lo _, i32_hi _⟩
            have bv_83 : ((-2147483648) ≤ v_83.toInt ∧ v_83.toInt ≤ 2147483647) := ⟨i32_lo _, i32_hi _⟩
            have bv_84 : ((-2147483648) ≤ v_84.toInt ∧ v_84.toInt ≤ 2147483647) := ⟨i32_lo _, i32_hi _⟩
            obtain rfl : a_22 = a_73 := by have hk9 := hrr3_0 a_4 ka_4; rw [hfo_72, hfo_21] at hk9; exact (Option.some.inj hk9).symm
            obtain rfl : a_25 = a_76 := by have hk9 := hrr3_3 a_4 ka_4; rw [hfo_72, hfo_21] at hk9; exact (Option.some.inj hk9).symm
            refine tk_ViP (As := [.int v_63]) (rest := []) (n := 1) hx hb hml hown hU hN hZ (s_X3_leastThatMeetsNeeds_k3 l (dC, dI) cI cL cZ cR cG cH Z kd L f_59 hG a_4 ma_4 ka_4 v_63) wd_1367 wd_1368 wd_1369 wd_16 wd_1370 (by decide +kernel) ⟨Nat.le_of_ble_eq_true rfl, Nat.le_of_ble_eq_true rfl⟩ hK hP hD hS ma_4 hfo_72 3 rfl rfl rfl hl.1 rfl (Nat.le_of_ble_eq_true rfl) dX11_fewest_101 ⟨Nat.le_of_ble_eq_true rfl, Nat.le_of_ble_eq_true rfl⟩ (fun x_91 f_92 H locs hw hP hD hS => ?_)
            obtain ⟨rfl, bx_91⟩ := hw
            exact W.iret (v := x_91) hx hb hr (fun t ht hW => ⟨⟨x_91, f_59, rfl, ⟨hG, (by constructor <;> omega), hfr0, hrr1_0, hrr1_1, hrr3_0, hrr3_3, (fun r9 d9 h8 h9 => by rw [hfo_60] at h8; obtain rfl := Option.some.inj h8; rw [hfo_72] at h9; obtain rfl := Option.some.inj h9; exact hT0)⟩, by rw [ht]; exact hP, va_K.moved hW.alike hK, pl_in hD⟩, hS.F ht⟩) hS.2.2 dX11_fewest_104
          · skip
            rw [Int32.lt_iff_toInt_lt] at c_61
            refine lv_iload_n hx hb dX11_fewest_28 rfl (lv_at hl 1 rfl) ?_
            refine lv_aload_n hx hb dX11_fewest_29 rfl (lv_at hl 2 rfl) ?_
            refine tk_getP (D := (dC, dI)) (ci := 11) (v := .ref a_5) (C := RX11) (T := TX11) (N := 19) hx hb hU inlX11 hown hK hP mo0 hfo_60 rfl 3 (by decide) (hU _ wd_19) (fun _ h9 => h9) rfl dX11_fewest_30 ?_
            obtain ⟨a_95, v_96, a_97, a_98, a_99, a_100, v_101, a_102, a_103, a_104, a_105, a_106, v_107, a_108, a_109, a_110, hfo_94, ⟨ma_95, ka_95⟩, bv_96, ⟨ma_97, ka_97⟩, ⟨ma_98, ka_98⟩, ⟨ma_99, ka_99⟩, ⟨ma_100, ka_100⟩, bv_101, ⟨ma_102, ka_102⟩, ⟨ma_103, ka_103⟩, ⟨ma_104, ka_104⟩, ⟨ma_105, ka_105⟩, ⟨ma_106, ka_106⟩, bv_107, ⟨ma_108, ka_108⟩, ⟨ma_109, ka_109⟩, ⟨ma_110, ka_110⟩⟩ := un_7 (hG _ ma_5) ka_5
            refine tk_getP (D := (dC, dI)) (ci := 7) (v := .int v_96) (C := RX7) (T := TX7) (N := 16) hx hb hU inlX7 hown hK hP ma_5 hfo_94 rfl 1 (by decide) (hU _ wd_1151) (fun _ h9 => h9) rfl dX11_fewest_33 ?_
            refine lv_imul hx hb dX11_fewest_36 ?_
            refine lv_topi (fun x_111 ex_111 => ?_)
            have bx_111 : (0 ≤ x_111.toInt ∧ x_111.toInt ≤ 4096) := by rw [ex_111]; exact ml_B (a := 512) (b := 8) (by constructor <;> omega) (by constructor <;> omega) (by decide)
            have hm8x_111 : 0 ≤ x_111.toInt ∧ x_111.toInt ≤ 8 * y_57.toInt := by rw [ex_111]; exact ml_8r (m := 512) (by decide) (by constructor <;> omega) (by constructor <;> omega)
            have hclx_111 : (0 ≤ x_111.toInt ∧ x_111.toInt ≤ 512) := by constructor <;> omega
            refine lv_istore_n (lv' := [(2, .int x_111), (3, .int y_56), (0, .ref o0), (1, .int p1)]) hx hb dX11_fewest_37 rfl hl (by decide) rfl (fun ls hl => ?_)
            refine lv_iconst (v := 0) hx hb dX11_fewest_38 (by decide) ?_
            refine lv_istore (lv' := [(4, .int 0), (2, .int x_111), (3, .int y_56), (0, .ref o0), (1, .int p1)]) hx hb dX11_fewest_39 hl (by decide) rfl (fun ls hl => ?_)
            have hloop_118 : ∀ (n : Nat), ∀ (y_119 : Int32), (0 ≤ y_119.toInt ∧ y_119.toInt ≤ 512) → ∀ (f_121 : Nat → va_E), GI (okc cI cL cZ cR cG cH L kd) kd L f_121 → ∀ (H : Heap) (locs : List Loc), va_P (dC, dI) vwCl (va_pl L f_121) H → va_S (fun q => q ∈ L) s.heap H locs → va_D (fun q => q ∈ L) (va_pl L f_121) → (∀ b, kd b ≠ 1 → kd b ≠ 3 → kd b ≠ 10 → kd b ≠ 507 → kd b ≠ 517 → kd b ≠ 518 → kd b ≠ 519 → kd b ≠ 520 → kd b ≠ 521 → kd b ≠ 522 → kd b ≠ 523 → kd b ≠ 524 → kd b ≠ 525 → kd b ≠ 526 → kd b ≠ 527 → kd b ≠ 528 → kd b ≠ 529 → f_121 b = f b) → (∀ b, kd b = 1 → fldR (f_121 b) 0 = fldR (f b) 0) → (∀ b, kd b = 1 → fldR (f_121 b) 1 = fldR (f b) 1) → (∀ b, kd b = 3 → fldR (f_121 b) 0 = fldR (f b) 0) → (∀ b, kd b = 3 → fldR (f_121 b) 3 = fldR (f b) 3) → (f_121 o0 = .inr (11, [.ref a_2, .int v_3, .ref a_4, .ref a_5, .ref a_6, .ref a_7, .ref a_8, .ref a_9, .int v_10, .ref a_11, .ref a_12, .ref a_13, .int v_14, .int v_15, .ref a_16, .int v_17, .ref a_18, .ref a_19, .int v_20])) → (f_121 a_5 = .inr (7, [.ref a_95, .int v_96, .ref a_97, .ref a_98, .ref a_99, .ref a_100, .int v_101, .ref a_102, .ref a_103, .ref a_104, .ref a_105, .ref a_106, .int v_107, .ref a_108, .ref a_109, .ref a_110])) → drel kd 1 521 522 f_121 a_25 → 512 - y_119.toInt < (n : Int) → ∀ (ls : Array Slot), lv_has ls 5 [(4, .int y_119), (2, .int x_111), (3, .int y_56), (0, .ref o0), (1, .int p1)] → W p l e (headSpec (wU yX11_fewest cX11_fewest 5 (some .int)) { frames := 16, cells := 0, slots := 0, locals := 541 }).room s m [.ref o0, .int p1].toArray below meth c H locs 0 0 (MQ below (va_Qi (fun (r : Int32) (f9 : Nat → va_E) => GI (okc cI cL cZ cR cG cH L kd) kd L f9 ∧ ((-2147483648) ≤ r.toInt ∧ r.toInt ≤ 2147483647) ∧ (∀ b, kd b ≠ 1 → kd b ≠ 3 → kd b ≠ 10 → kd b ≠ 507 → kd b ≠ 517 → kd b ≠ 518 → kd b ≠ 519 → kd b ≠ 520 → kd b ≠ 521 → kd b ≠ 522 → kd b ≠ 523 → kd b ≠ 524 → kd b ≠ 525 → kd b ≠ 526 → kd b ≠ 527 → kd b ≠ 528 → kd b ≠ 529 → f9 b = f b) ∧ (∀ b, kd b = 1 → fldR (f9 b) 0 = fldR (f b) 0) ∧ (∀ b, kd b = 1 → fldR (f9 b) 1 = fldR (f b) 1) ∧ (∀ b, kd b = 3 → fldR (f9 b) 0 = fldR (f b) 0) ∧ (∀ b, kd b = 3 → fldR (f9 b) 3 = fldR (f b) 3) ∧ (∀ r9 d9, fldR (f9 o0) 2 = some r9 → fldR (f9 r9) 3 = some d9 → drel kd 1 521 522 f9 d9)) (qP (dC, dI) cI cL cZ cR cG cH L) (fun q => q ∈ L)) [.ref o0, .int p1].toArray s 0 0 (fun q => q ∈ L)) (F0 m 41 ls []) := by
              intro n
              induction n with
              | zero => intro y_119 by_119 f_121 hG H locs hP hS hD hfr0 hrr1_0 hrr1_1 hrr3_0 hrr3_3 hfo_122 hfo_123 hT0 hmuhloop_118 ls hl; exfalso; omega
              | succ n ih_hloop_118 =>
                intro y_119 by_119 f_121 hG H locs hP hS hD hfr0 hrr1_0 hrr1_1 hrr3_0 hrr3_3 hfo_122 hfo_123 hT0 hmuhloop_118 ls hl
                refine lv_iload hx hb dX11_fewest_41 (lv_at hl 0 rfl) ?_
                refine lv_iload_n hx hb dX11_fewest_43 rfl (lv_at hl 1 rfl) ?_
                refine lv_icmp_ge (tgt := 84) hx hb dX11_fewest_44 (by decide) (fun c_124 => ?_) (fun c_124 => ?_)
                · skip
                  rw [Int32.le_iff_toInt_le] at c_124
                  obtain ⟨x_125, ex_125⟩ : ∃ y : Int32, y_56 + 1 = y := ⟨_, rfl⟩
                  have hx_125 : x_125.toInt = y_56.toInt + 1 := by rw [← ex_125, ad_I (by rw [ti_1]; omega) (by rw [ti_1]; omega), ti_1]
                  have bx_125 : (2 ≤ x_125.toInt ∧ x_125.toInt ≤ 3) := by constructor <;> omega
                  refine lv_iinc (v := x_125) (lv' := [(3, .int x_125), (4, .int y_119), (2, .int x_111), (0, .ref o0), (1, .int p1)]) hx hb dX11_fewest_84 hl (k := 2) rfl ex_125 (by decide) rfl (fun ls hl => ?_)
                  refine lv_goto (tgt := 23) hx hb dX11_fewest_87 (by decide) ?_
                  exact ih_hloop_55 x_125 (by constructor <;> omega) x_111 (by constructor <;> omega) f_121 hG _ _ hP hS hD hfr0 hrr1_0 hrr1_1 hrr3_0 hrr3_3 hfo_122 hT0 (by omega) (by omega) ls (lv_sub hl [0, 2, 3, 4] rfl)
                · skip
                  rw [Int32.le_iff_toInt_le] at c_124
                  refine lv_aload_n hx hb dX11_fewest_47 rfl (lv_at hl 3 rfl) ?_
                  refine tk_getP (D := (dC, dI)) (ci := 11) (v := .ref a_4) (C := RX11) (T := TX11) (N := 19) hx hb hU inlX11 hown hK hP mo0 hfo_122 rfl 2 (by decide) (hU _ wd_17) (fun _ h9 => h9) rfl dX11_fewest_48 ?_
                  refine lv_iload_n hx hb dX11_fewest_51 rfl (lv_at hl 2 rfl) ?_
                  refine lv_iload hx hb dX11_fewest_52 (lv_at hl 0 rfl) ?_
                  obtain ⟨a_127, a_128, a_129, a_130, a_131, v_132, v_133, v_134, v_135, v_136, v_137, v_138, a_139, a_140, a_141, v_142, a_143, a_144, hfo_126, ⟨ma_127, ka_127⟩, ⟨ma_128, ka_128⟩, ⟨ma_129, ka_129⟩, ⟨ma_130, ka_130⟩, ⟨ma_131, ka_131⟩, bv_132, bv_133, bv_134, ⟨ma_139, ka_139⟩, ⟨ma_140, ka_140⟩, ⟨ma_141, ka_141⟩, bv_142, ⟨ma_143, ka_143⟩, ⟨ma_144, ka_144⟩⟩ := un_3 (hG _ ma_4) ka_4
                  have bv_135 : ((-2147483648) ≤ v_135.toInt ∧ v_135.toInt ≤ 2147483647) := ⟨i32_lo _, i32_hi _⟩
                  have bv_136 : ((-2147483648) ≤ v_136.toInt ∧ v_136.toInt ≤ 2147483647) := ⟨i32_lo _, i32_hi _⟩
                  have bv_137 : ((-2147483648) ≤ v_137.toInt ∧ v_137.toInt ≤ 2147483647) := ⟨i32_lo _, i32_hi _⟩
                  have bv_138 : ((-2147483648) ≤ v_138.toInt ∧ v_138.toInt ≤ 2147483647) := ⟨i32_lo _, i32_hi _⟩
                  obtain rfl : a_22 = a_127 := by have hk9 := hrr3_0 a_4 ka_4; rw [hfo_126, hfo_21] at hk9; exact (Option.some.inj hk9).symm
                  obtain rfl : a_25 = a_130 := by have hk9 := hrr3_3 a_4 ka_4; rw [hfo_126, hfo_21] at hk9; exact (Option.some.inj hk9).symm
                  refine tk_VvP (As := [.int y_56, .int y_119]) (rest := []) (n := 2) hx hb hml hown hU hN hZ (s_X3_takeNumbered_k3 l (dC, dI) cI cL cZ cR cG cH Z kd L f_121 hG a_4 ma_4 ka_4 y_56 y_119 (by constructor <;> omega)) wd_1152 wd_1153 wd_1154 wd_16 wd_1155 (by decide +kernel) ⟨Nat.le_of_ble_eq_true rfl, Nat.le_of_ble_eq_true rfl⟩ hK hP hD hS ma_4 hfo_126 3 rfl rfl rfl hl.1 rfl (Nat.le_of_ble_eq_true rfl) dX11_fewest_54 ⟨Nat.le_of_ble_eq_true rfl, Nat.le_of_ble_eq_true rfl⟩ (fun f_146 H locs hw hP hD hS => ?_)
                  obtain ⟨hG, hkc_147, hrc_148, hrc_149⟩ := hw
                  have hfo_151 : f_146 o0 = .inr (11, [.ref a_2, .int v_3, .ref a_4, .ref a_5, .ref a_6, .ref a_7, .ref a_8, .ref a_9, .int v_10, .ref a_11, .ref a_12, .ref a_13, .int v_14, .int v_15, .ref a_16, .int v_17, .ref a_18, .ref a_19, .int v_20]) := by rw [hkc_147 o0 (by rw [ko0]; decide) (by rw [ko0]; decide)]; exact hfo_122
                  have hfo_152 : f_146 a_5 = .inr (7, [.ref a_95, .int v_96, .ref a_97, .ref a_98, .ref a_99, .ref a_100, .int v_101, .ref a_102, .ref a_103, .ref a_104, .ref a_105, .ref a_106, .int v_107, .ref a_108, .ref a_109, .ref a_110]) := by rw [hkc_147 a_5 (by rw [ka_5]; decide) (by rw [ka_5]; decide)]; exact hfo_123
                  have hfr0 : ∀ b, kd b ≠ 1 → kd b ≠ 3 → kd b ≠ 10 → kd b ≠ 507 → kd b ≠ 517 → kd b ≠ 518 → kd b ≠ 519 → kd b ≠ 520 → kd b ≠ 521 → kd b ≠ 522 → kd b ≠ 523 → kd b ≠ 524 → kd b ≠ 525 → kd b ≠ 526 → kd b ≠ 527 → kd b ≠ 528 → kd b ≠ 529 → f_146 b = f b := fun b q1 q3 q10 q507 q517 q518 q519 q520 q521 q522 q523 q524 q525 q526 q527 q528 q529 => (hkc_147 b q3 q507).trans (hfr0 b q1 q3 q10 q507 q517 q518 q519 q520 q521 q522 q523 q524 q525 q526 q527 q528 q529)
                  have hrr1_0 : ∀ b, kd b = 1 → fldR (f_146 b) 0 = fldR (f b) 0 := fun b kb => (congrArg (fun x => fldR x 0) (hkc_147 b (by rw [kb]; decide) (by rw [kb]; decide))).trans (hrr1_0 b kb)
                  have hrr1_1 : ∀ b, kd b = 1 → fldR (f_146 b) 1 = fldR (f b) 1 := fun b kb => (congrArg (fun x => fldR x 1) (hkc_147 b (by rw [kb]; decide) (by rw [kb]; decide))).trans (hrr1_1 b kb)
                  have hrr3_0 : ∀ b, kd b = 3 → fldR (f_146 b) 0 = fldR (f b) 0 := fun b kb => (hrc_148 b kb).trans (hrr3_0 b kb)
                  have hrr3_3 : ∀ b, kd b = 3 → fldR (f_146 b) 3 = fldR (f b) 3 := fun b kb => (hrc_149 b kb).trans (hrr3_3 b kb)
                  have hT0 : drel kd 1 521 522 f_146 a_25 := hT0.keep (fun b q => congrArg (fun x => fldI x 5) (hkc_147 b (by rw [q]; decide) (by rw [q]; decide))) (fun b q => congrArg (fun x => fldR x 0) (hkc_147 b (by rw [q]; decide) (by rw [q]; decide))) (fun b q => congrArg (fun x => fldR x 1) (hkc_147 b (by rw [q]; decide) (by rw [q]; decide))) (fun b q => hkc_147 b (by rw [q]; decide) (by rw [q]; decide)) (fun b q => hkc_147 b (by rw [q]; decide) (by rw [q]; decide))
                  obtain ⟨a_154, a_155, a_156, a_157, a_158, v_159, v_160, v_161, v_162, v_163, v_164, v_165, a_166, a_167, a_168, v_169, a_170, a_171, hfo_153, ⟨ma_154, ka_154⟩, ⟨ma_155, ka_155⟩, ⟨ma_156, ka_156⟩, ⟨ma_157, ka_157⟩, ⟨ma_158, ka_158⟩, bv_159, bv_160, bv_161, ⟨ma_166, ka_166⟩, ⟨ma_167, ka_167⟩, ⟨ma_168, ka_168⟩, bv_169, ⟨ma_170, ka_170⟩, ⟨ma_171, ka_171⟩⟩ := un_3 (hG _ ma_4) ka_4
                  have bv_162 : ((-2147483648) ≤ v_162.toInt ∧ v_162.toInt ≤ 2147483647) := ⟨i32_lo _, i32_hi _⟩
                  have bv_163 : ((-2147483648) ≤ v_163.toInt ∧ v_163.toInt ≤ 2147483647) := ⟨i32_lo _, i32_hi _⟩
                  have bv_164 : ((-2147483648) ≤ v_164.toInt ∧ v_164.toInt ≤ 2147483647) := ⟨i32_lo _, i32_hi _⟩
                  have bv_165 : ((-2147483648) ≤ v_165.toInt ∧ v_165.toInt ≤ 2147483647) := ⟨i32_lo _, i32_hi _⟩
                  obtain rfl : a_22 = a_154 := by have hk9 := hrr3_0 a_4 ka_4; rw [hfo_153, hfo_21] at hk9; exact (Option.some.inj hk9).symm
                  obtain rfl : a_25 = a_157 := by have hk9 := hrr3_3 a_4 ka_4; rw [hfo_153, hfo_21] at hk9; exact (Option.some.inj hk9).symm
                  refine lv_aload_n hx hb dX11_fewest_57 rfl (lv_at hl 3 rfl) ?_
                  refine tk_getP (D := (dC, dI)) (ci := 11) (v := .ref a_4) (C := RX11) (T := TX11) (N := 19) hx hb hU inlX11 hown hK hP mo0 hfo_151 rfl 2 (by decide) (hU _ wd_17) (fun _ h9 => h9) rfl dX11_fewest_58 ?_
                  refine lv_aload_n hx hb dX11_fewest_61 rfl (lv_at hl 3 rfl) ?_
                  refine tk_getP (D := (dC, dI)) (ci := 11) (v := .ref a_7) (C := RX11) (T := TX11) (N := 19) hx hb hU inlX11 hown hK hP mo0 hfo_151 rfl 5 (by decide) (hU _ wd_25) (fun _ h9 => h9) rfl dX11_fewest_62 ?_
                  obtain ⟨v_173, v_174, a_175, a_176, a_177, v_178, a_179, a_180, a_181, hfo_172, bv_174, ⟨ma_175, ka_175⟩, ⟨ma_176, ka_176⟩, ⟨ma_177, ka_177⟩, ⟨ma_179, ka_179⟩, ⟨ma_180, ka_180⟩, ⟨ma_181, ka_181⟩⟩ := un_6 (hG _ ma_7) ka_7
                  have bv_173 : ((-2147483648) ≤ v_173.toInt ∧ v_173.toInt ≤ 2147483647) := ⟨i32_lo _, i32_hi _⟩
                  have bv_178 : ((-2147483648) ≤ v_178.toInt ∧ v_178.toInt ≤ 2147483647) := ⟨i32_lo _, i32_hi _⟩
                  refine tk_getP (D := (dC, dI)) (ci := 6) (v := .int v_173) (C := RX6) (T := TX6) (N := 9) hx hb hU inlX6 hown hK hP ma_7 hfo_172 rfl 0 (by decide) (hU _ wd_677) (fun _ h9 => h9) rfl dX11_fewest_65 ?_
                  refine lv_aload_n hx hb dX11_fewest_68 rfl (lv_at hl 3 rfl) ?_
                  refine tk_getP (D := (dC, dI)) (ci := 11) (v := .ref a_7) (C := RX11) (T := TX11) (N := 19) hx hb hU inlX11 hown hK hP mo0 hfo_151 rfl 5 (by decide) (hU _ wd_25) (fun _ h9 => h9) rfl dX11_fewest_69 ?_
                  refine tk_getP (D := (dC, dI)) (ci := 6) (v := .int v_174) (C := RX6) (T := TX6) (N := 9) hx hb hU inlX6 hown hK hP ma_7 hfo_172 rfl 1 (by decide) (hU _ wd_694) (fun _ h9 => h9) rfl dX11_fewest_72 ?_
                  refine tk_VvP (As := [.int v_173, .int v_174]) (rest := []) (n := 2) hx hb hml hown hU hN hZ (s_X3_noteNeeded_k3 l (dC, dI) cI cL cZ cR cG cH Z kd L f_146 hG a_4 ma_4 ka_4 v_173 v_174 (fun d9 h9 => by rw [hfo_153] at h9; obtain rfl := Option.some.inj h9; exact hT0)) wd_1363 wd_1364 wd_1365 wd_16 wd_1366 (by decide +kernel) ⟨Nat.le_of_ble_eq_true rfl, Nat.le_of_ble_eq_true rfl⟩ hK hP hD hS ma_4 hfo_153 3 rfl rfl rfl hl.1 rfl (Nat.le_of_ble_eq_true rfl) dX11_fewest_75 ⟨Nat.le_of_ble_eq_true rfl, Nat.le_of_ble_eq_true rfl⟩ (fun f_183 H locs hw hP hD hS => ?_)
                  obtain ⟨hG, hkc_184, hrc_185, hrc_186, hrc_187, hrc_188, hTc_189⟩ := hw
                  have hfo_191 : f_183 o0 = .inr (11, [.ref a_2, .int v_3, .ref a_4, .ref a_5, .ref a_6, .ref a_7, .ref a_8, .ref a_9, .int v_10, .ref a_11, .ref a_12, .ref a_13, .int v_14, .int v_15, .ref a_16, .int v_17, .ref a_18, .ref a_19, .int v_20]) := by rw [hkc_184 o0 (by rw [ko0]; decide) (by rw [ko0]; decide) (by rw [ko0]; decide) (by rw [ko0]; decide) (by rw [ko0]; decide) (by rw [ko0]; decide) (by rw [ko0]; decide) (by rw [ko0]; decide) (by rw [ko0]; decide) (by rw [ko0]; decide) (by rw [ko0]; decide) (by rw [ko0]; decide) (by rw [ko0]; decide) (by rw [ko0]; decide) (by rw [ko0]; decide) (by rw [ko0]; decide)]; exact hfo_151
                  have hfo_192 : f_183 a_5 = .inr (7, [.ref a_95, .int v_96, .ref a_97, .ref a_98, .ref a_99, .ref a_100, .int v_101, .ref a_102, .ref a_103, .ref a_104, .ref a_105, .ref a_106, .int v_107, .ref a_108, .ref a_109, .ref a_110]) := by rw [hkc_184 a_5 (by rw [ka_5]; decide) (by rw [ka_5]; decide) (by rw [ka_5]; decide) (by rw [ka_5]; decide) (by rw [ka_5]; decide) (by rw [ka_5]; decide) (by rw [ka_5]; decide) (by rw [ka_5]; decide) (by rw [ka_5]; decide) (by rw [ka_5]; decide) (by rw [ka_5]; decide) (by rw [ka_5]; decide) (by rw [ka_5]; decide) (by rw [ka_5]; decide) (by rw [ka_5]; decide) (by rw [ka_5]; decide)]; exact hfo_152
                  have hfo_193 : f_183 a_7 = .inr (6, [.int v_173, .int v_174, .ref a_175, .ref a_176, .ref a_177, .int v_178, .ref a_179, .ref a_180, .ref a_181]) := by rw [hkc_184 a_7 (by rw [ka_7]; decide) (by rw [ka_7]; decide) (by rw [ka_7]; decide) (by rw [ka_7]; decide) (by rw [ka_7]; decide) (by rw [ka_7]; decide) (by rw [ka_7]; decide) (by rw [ka_7]; decide) (by rw [ka_7]; decide) (by rw [ka_7]; decide) (by rw [ka_7]; decide) (by rw [ka_7]; decide) (by rw [ka_7]; decide) (by rw [ka_7]; decide) (by rw [ka_7]; decide) (by rw [ka_7]; decide)]; exact hfo_172
                  have hfr0 : ∀ b, kd b ≠ 1 → kd b ≠ 3 → kd b ≠ 10 → kd b ≠ 507 → kd b ≠ 517 → kd b ≠ 518 → kd b ≠ 519 → kd b ≠ 520 → kd b ≠ 521 → kd b ≠ 522 → kd b ≠ 523 → kd b ≠ 524 → kd b ≠ 525 → kd b ≠ 526 → kd b ≠ 527 → kd b ≠ 528 → kd b ≠ 529 → f_183 b = f b := fun b q1 q3 q10 q507 q517 q518 q519 q520 q521 q522 q523 q524 q525 q526 q527 q528 q529 => (hkc_184 b q1 q3 q10 q517 q518 q519 q520 q521 q522 q523 q524 q525 q526 q527 q528 q529).trans (hfr0 b q1 q3 q10 q507 q517 q518 q519 q520 q521 q522 q523 q524 q525 q526 q527 q528 q529)
                  have hrr1_0 : ∀ b, kd b = 1 → fldR (f_183 b) 0 = fldR (f b) 0 := fun b kb => (hrc_185 b kb).trans (hrr1_0 b kb)
                  have hrr1_1 : ∀ b, kd b = 1 → fldR (f_183 b) 1 = fldR (f b) 1 := fun b kb => (hrc_186 b kb).trans (hrr1_1 b kb)
                  have hrr3_0 : ∀ b, kd b = 3 → fldR (f_183 b) 0 = fldR (f b) 0 := fun b kb => (hrc_187 b kb).trans (hrr3_0 b kb)
                  have hrr3_3 : ∀ b, kd b = 3 → fldR (f_183 b) 3 = fldR (f b) 3 := fun b kb => (hrc_188 b kb).trans (hrr3_3 b kb)
                  obtain ⟨a_195, a_196, a_197, a_198, a_199, v_200, v_201, v_202, v_203, v_204, v_205, v_206, a_207, a_208, a_209, v_210, a_211, a_212, hfo_194, ⟨ma_195, ka_195⟩, ⟨ma_196, ka_196⟩, ⟨ma_197, ka_197⟩, ⟨ma_198, ka_198⟩, ⟨ma_199, ka_199⟩, bv_200, bv_201, bv_202, ⟨ma_207, ka_207⟩, ⟨ma_208, ka_208⟩, ⟨ma_209, ka_209⟩, bv_210, ⟨ma_211, ka_211⟩, ⟨ma_212, ka_212⟩⟩ := un_3 (hG _ ma_4) ka_4
                  have bv_203 : ((-2147483648) ≤ v_203.toInt ∧ v_203.toInt ≤ 2147483647) := ⟨i32_lo _, i32_hi _⟩
                  have bv_204 : ((-2147483648) ≤ v_204.toInt ∧ v_204.toInt ≤ 2147483647) := ⟨i32_lo _, i32_hi _⟩
                  have bv_205 : ((-2147483648) ≤ v_205.toInt ∧ v_205.toInt ≤ 2147483647) := ⟨i32_lo _, i32_hi _⟩
                  have bv_206 : ((-2147483648) ≤ v_206.toInt ∧ v_206.toInt ≤ 2147483647) := ⟨i32_lo _, i32_hi _⟩
                  obtain rfl : a_22 = a_195 := by have hk9 := hrr3_0 a_4 ka_4; rw [hfo_194, hfo_21] at hk9; exact (Option.some.inj hk9).symm
                  obtain rfl : a_25 = a_198 := by have hk9 := hrr3_3 a_4 ka_4; rw [hfo_194, hfo_21] at hk9; exact (Option.some.inj hk9).symm
                  have hT_213 := hTc_189 a_25 (by rw [hfo_194]; rfl)
                  obtain ⟨x_214, ex_214⟩ : ∃ y : Int32, y_119 + 1 = y := ⟨_, rfl⟩
                  have hx_214 : x_214.toInt = y_119.toInt + 1 := by rw [← ex_214, ad_I (by rw [ti_1]; omega) (by rw [ti_1]; omega), ti_1]
                  have bx_214 : (1 ≤ x_214.toInt ∧ x_214.toInt ≤ 512) := by constructor <;> omega
                  refine lv_iinc (v := x_214) (lv' := [(4, .int x_214), (2, .int x_111), (3, .int y_56), (0, .ref o0), (1, .int p1)]) hx hb dX11_fewest_78 hl (k := 0) rfl ex_214 (by decide) rfl (fun ls hl => ?_)
                  refine lv_goto (tgt := 41) hx hb dX11_fewest_81 (by decide) ?_
                  exact ih_hloop_118 x_214 (by constructor <;> omega) f_183 hG _ _ hP hS hD hfr0 hrr1_0 hrr1_1 hrr3_0 hrr3_3 hfo_191 hfo_192 hT_213 (by omega) ls (lv_sub hl [0, 1, 2, 3, 4] rfl)
            exact hloop_118 513 0 (by decide) f_59 hG _ _ hP hS hD hfr0 hrr1_0 hrr1_1 hrr3_0 hrr3_3 hfo_60 hfo_94 hT0 (by (try rw [ti_0]) <;> omega) ls hl
      exact hloop_55 4 1 (by decide) 1 (by decide) f_43 hG _ _ hP hS hD hfr0 hrr1_0 hrr1_1 hrr3_0 hrr3_3 hfo_46 hT0 (by (try rw [ti_1]) <;> omega) (by (try rw [ti_1]) <;> omega) ls hl
    · skip
      rw [Int32.le_iff_toInt_le, ti_2] at c_41
      refine lv_iconst (v := (-1)) hx hb dX11_fewest_10 (by decide) ?_
      exact W.iret (v := (-1)) hx hb hr (fun t ht hW => ⟨⟨(-1), f, rfl, ⟨hG, (by decide), hfr0, hrr1_0, hrr1_1, hrr3_0, hrr3_3, (fun r9 d9 h8 h9 => by rw [hfo_1] at h8; obtain rfl := Option.some.inj h8; rw [hfo_21] at h9; obtain rfl := Option.some.inj h9; exact hT0)⟩, by rw [ht]; exact hP, va_K.moved hW.alike hK, pl_in hD⟩, hS.F ht⟩) hS.2.2 dX11_fewest_11
