set_option maxHeartbeats 8000000 in
set_option maxRecDepth 100000 in
theorem s_X11_orders_k11 (l : Launch) (D : va_G) (cI cL cZ cR cG cH : ClassId) (Z : zT) (kd : Nat → Nat) (L : List Nat) (f : Nat → va_E) (hG : GI (okc cI cL cZ cR cG cH L kd) kd L f) (o0 : Nat) (mo0 : o0 ∈ L) (ko0 : kd o0 = 11) (p1 : Int32) (p2 : Int32) (hxtr0 : ∀ d9, fldR (f o0) 3 = some d9 → trel kd 7 508 510 515 4 f d9) (hxtr1 : ∀ r9 d9, fldR (f o0) 2 = some r9 → fldR (f r9) 3 = some d9 → drel kd 1 521 522 f d9) (hxtr2 : alrel kd f o0) : mPI l D cI cL cZ cR cG cH Z yX11_orders cX11_orders 5 (some .int) 17 569 [.ref o0, .int p1, .int p2] L f (fun (r : Int32) (f9 : Nat → va_E) => GI (okc cI cL cZ cR cG cH L kd) kd L f9 ∧ ((-2147483648) ≤ r.toInt ∧ r.toInt ≤ 2147483647) ∧ (∀ b, kd b ≠ 0 → kd b ≠ 1 → kd b ≠ 3 → kd b ≠ 10 → kd b ≠ 507 → kd b ≠ 516 → kd b ≠ 517 → kd b ≠ 518 → kd b ≠ 519 → kd b ≠ 520 → kd b ≠ 521 → kd b ≠ 522 → kd b ≠ 523 → kd b ≠ 524 → kd b ≠ 525 → kd b ≠ 526 → kd b ≠ 527 → kd b ≠ 534 → kd b ≠ 535 → kd b ≠ 536 → kd b ≠ 537 → kd b ≠ 538 → f9 b = f b) ∧ (∀ b, kd b = 1 → fldR (f9 b) 0 = fldR (f b) 0) ∧ (∀ b, kd b = 1 → fldR (f9 b) 1 = fldR (f b) 1) ∧ (∀ b, kd b = 3 → fldR (f9 b) 0 = fldR (f b) 0) ∧ (∀ b, kd b = 3 → fldR (f9 b) 3 = fldR (f b) 3) ∧ (∀ d9, fldR (f9 o0) 3 = some d9 → trel kd 7 508 510 515 4 f9 d9) ∧ (∀ r9 d9, fldR (f9 o0) 2 = some r9 → fldR (f9 r9) 3 = some d9 → drel kd 1 521 522 f9 d9) ∧ (alrel kd f9 o0)) := by
  obtain ⟨dC, dI⟩ := D
  refine Met.ofW (cc := cX11_orders) (maxL := 5) (ret := (some .int)) (by decide) rfl ?_
  intro p e s m args below meth c s₁ B hml hv
  obtain ⟨rfl, hP, hK, hD0, hN, hZ⟩ := hv
  have hx := B.exec
  have hb := B.bytes
  have hr := B.returns
  have hU : ∀ w ∈ wsU, w.before _ s = true := fun w h => atoms_spec (ws := wU yX11_orders cX11_orders 5 (some .int)) B.pre w (List.mem_cons_of_mem _ h)
  have hown : s.vm.findClass RX11 = some m.cls := findClass_of_methodNamed B.named
  have hlocks := B.notSynchronized
  have hD := pl_in hD0
  have hS : va_S (fun q => q ∈ L) s.heap s.heap [] := va_S.rf
  have hl := lv_entry ([.ref o0, .int p1, .int p2]) (n := 5) (Nat.le_of_ble_eq_true rfl)
  rw [lg_entry_eq]
  generalize (lg_sl ([.ref o0, .int p1, .int p2]) ++ List.replicate (5 - (lg_sl ([.ref o0, .int p1, .int p2])).length) Slot.unset).toArray = ls at hl ⊢
  have hl : lv_has ls 5 [(0, .ref o0), (1, .int p1), (2, .int p2)] := hl
  have bp1 : ((-2147483648) ≤ p1.toInt ∧ p1.toInt ≤ 2147483647) := ⟨i32_lo _, i32_hi _⟩
  have bp2 : ((-2147483648) ≤ p2.toInt ∧ p2.toInt ≤ 2147483647) := ⟨i32_lo _, i32_hi _⟩
  have hfr0 : ∀ b, kd b ≠ 0 → kd b ≠ 1 → kd b ≠ 3 → kd b ≠ 10 → kd b ≠ 507 → kd b ≠ 516 → kd b ≠ 517 → kd b ≠ 518 → kd b ≠ 519 → kd b ≠ 520 → kd b ≠ 521 → kd b ≠ 522 → kd b ≠ 523 → kd b ≠ 524 → kd b ≠ 525 → kd b ≠ 526 → kd b ≠ 527 → kd b ≠ 534 → kd b ≠ 535 → kd b ≠ 536 → kd b ≠ 537 → kd b ≠ 538 → f b = f b := fun _ _ _ _ _ _ _ _ _ _ _ _ _ _ _ _ _ _ _ _ _ _ _ => rfl
  have hrr1_0 : ∀ b, kd b = 1 → fldR (f b) 0 = fldR (f b) 0 := fun _ _ => rfl
  have hrr1_1 : ∀ b, kd b = 1 → fldR (f b) 1 = fldR (f b) 1 := fun _ _ => rfl
  have hrr3_0 : ∀ b, kd b = 3 → fldR (f b) 0 = fldR (f b) 0 := fun _ _ => rfl
  have hrr3_3 : ∀ b, kd b = 3 → fldR (f b) 3 = fldR (f b) 3 := fun _ _ => rfl
  obtain ⟨a_2, v_3, a_4, a_5, a_6, a_7, a_8, a_9, v_10, a_11, a_12, a_13, v_14, v_15, a_16, v_17, a_18, a_19, v_20, hfo_1, ⟨ma_2, ka_2⟩, bv_3, ⟨ma_4, ka_4⟩, ⟨ma_5, ka_5⟩, ⟨ma_6, ka_6⟩, ⟨ma_7, ka_7⟩, ⟨ma_8, ka_8⟩, ⟨ma_9, ka_9⟩, bv_10, ⟨ma_11, ka_11⟩, ⟨ma_12, ka_12⟩, ⟨ma_13, ka_13⟩, bv_14, ⟨ma_16, ka_16⟩, bv_17, ⟨ma_18, ka_18⟩, ⟨ma_19, ka_19⟩⟩ := un_11 (hG _ mo0) ko0
  have bv_15 : ((-2147483648) ≤ v_15.toInt ∧ v_15.toInt ≤ 2147483647) := ⟨i32_lo _, i32_hi _⟩
  have bv_20 : ((-2147483648) ≤ v_20.toInt ∧ v_20.toInt ≤ 2147483647) := ⟨i32_lo _, i32_hi _⟩
  have hT0 := hxtr0 a_5 (by rw [hfo_1]; rfl)
  obtain ⟨a_22, a_23, a_24, a_25, a_26, v_27, v_28, v_29, v_30, v_31, v_32, v_33, a_34, a_35, a_36, v_37, a_38, a_39, hfo_21, ⟨ma_22, ka_22⟩, ⟨ma_23, ka_23⟩, ⟨ma_24, ka_24⟩, ⟨ma_25, ka_25⟩, ⟨ma_26, ka_26⟩, bv_27, bv_28, bv_29, ⟨ma_34, ka_34⟩, ⟨ma_35, ka_35⟩, ⟨ma_36, ka_36⟩, bv_37, ⟨ma_38, ka_38⟩, ⟨ma_39, ka_39⟩⟩ := un_3 (hG _ ma_4) ka_4
  have bv_30 : ((-2147483648) ≤ v_30.toInt ∧ v_30.toInt ≤ 2147483647) := ⟨i32_lo _, i32_hi _⟩
  have bv_31 : ((-2147483648) ≤ v_31.toInt ∧ v_31.toInt ≤ 2147483647) := ⟨i32_lo _, i32_hi _⟩
  have bv_32 : ((-2147483648) ≤ v_32.toInt ∧ v_32.toInt ≤ 2147483647) := ⟨i32_lo _, i32_hi _⟩
  have bv_33 : ((-2147483648) ≤ v_33.toInt ∧ v_33.toInt ≤ 2147483647) := ⟨i32_lo _, i32_hi _⟩
  have hT1 := hxtr1 a_4 a_25 (by rw [hfo_1]; rfl) (by rw [hfo_21]; rfl)
  have hT2 := hxtr2
  have hqal := hT2
  obtain ⟨zr, zt, ⟨-, -⟩, z1, z2, z3⟩ := hqal
  rw [hfo_1] at z1 z2
  obtain rfl := Option.some.inj z1
  obtain rfl := Option.some.inj z2
  rw [hfo_21] at z3
  obtain rfl := (Option.some.inj z3).symm
  refine lv_aload_n hx hb dX11_orders_0 rfl (lv_at hl 0 rfl) ?_
  refine tk_getP (D := (dC, dI)) (ci := 11) (v := .ref a_7) (C := RX11) (T := TX11) (N := 19) hx hb hU inlX11 hown hK hP mo0 hfo_1 rfl 5 (by decide) (hU _ wd_25) (fun _ h9 => h9) rfl dX11_orders_1 ?_
  obtain ⟨v_41, v_42, a_43, a_44, a_45, v_46, a_47, a_48, a_49, hfo_40, bv_42, ⟨ma_43, ka_43⟩, ⟨ma_44, ka_44⟩, ⟨ma_45, ka_45⟩, ⟨ma_47, ka_47⟩, ⟨ma_48, ka_48⟩, ⟨ma_49, ka_49⟩⟩ := un_6 (hG _ ma_7) ka_7
  have bv_41 : ((-2147483648) ≤ v_41.toInt ∧ v_41.toInt ≤ 2147483647) := ⟨i32_lo _, i32_hi _⟩
  have bv_46 : ((-2147483648) ≤ v_46.toInt ∧ v_46.toInt ≤ 2147483647) := ⟨i32_lo _, i32_hi _⟩
  refine tk_getP (D := (dC, dI)) (ci := 6) (v := .int v_41) (C := RX6) (T := TX6) (N := 9) hx hb hU inlX6 hown hK hP ma_7 hfo_40 rfl 0 (by decide) (hU _ wd_677) (fun _ h9 => h9) rfl dX11_orders_4 ?_
  refine tk_SiP (As := [.int v_41]) (rest := []) (n := 1) hx hb hml hown hU hN hZ (s_J6_bitCount_0f7a4 l (dC, dI) cI cL cZ cR cG cH Z kd L f hG v_41) wd_1183 wd_1184 wd_1185 wd_1186 (by decide +kernel) ⟨Nat.le_of_ble_eq_true rfl, Nat.le_of_ble_eq_true rfl⟩ hK hP hD hS rfl hl.1 rfl (Nat.le_of_ble_eq_true rfl) dX11_orders_7 ⟨Nat.le_of_ble_eq_true rfl, Nat.le_of_ble_eq_true rfl⟩ (fun x_50 f_51 H locs hw hP hD hS => ?_)
  obtain ⟨rfl, bx_50⟩ := hw
  refine lv_istore_n (lv' := [(3, .int x_50), (0, .ref o0), (1, .int p1), (2, .int p2)]) hx hb dX11_orders_10 rfl hl (by decide) rfl (fun ls hl => ?_)
  refine lv_iload_n hx hb dX11_orders_11 rfl (lv_at hl 3 rfl) ?_
  refine lv_bipush (v := 10) hx hb dX11_orders_12 (by decide) ?_
  have hcut_54 : ∀ (y_53 : Int32), (0 ≤ y_53.toInt ∧ y_53.toInt ≤ 1) → (y_53.toInt = 0 ∨ (10 ≤ p2.toInt ∧ p2.toInt - 10 < x_50.toInt)) → ∀ (ls : Array Slot), lv_has ls 5 [(3, .int x_50), (0, .ref o0), (1, .int p1), (2, .int p2)] → W p l e (headSpec (wU yX11_orders cX11_orders 5 (some .int)) { frames := 17, cells := 0, slots := 0, locals := 569 }).room s m [.ref o0, .int p1, .int p2].toArray below meth c H locs 0 0 (MQ below (va_Qi (fun (r : Int32) (f9 : Nat → va_E) => GI (okc cI cL cZ cR cG cH L kd) kd L f9 ∧ ((-2147483648) ≤ r.toInt ∧ r.toInt ≤ 2147483647) ∧ (∀ b, kd b ≠ 0 → kd b ≠ 1 → kd b ≠ 3 → kd b ≠ 10 → kd b ≠ 507 → kd b ≠ 516 → kd b ≠ 517 → kd b ≠ 518 → kd b ≠ 519 → kd b ≠ 520 → kd b ≠ 521 → kd b ≠ 522 → kd b ≠ 523 → kd b ≠ 524 → kd b ≠ 525 → kd b ≠ 526 → kd b ≠ 527 → kd b ≠ 534 → kd b ≠ 535 → kd b ≠ 536 → kd b ≠ 537 → kd b ≠ 538 → f9 b = f b) ∧ (∀ b, kd b = 1 → fldR (f9 b) 0 = fldR (f b) 0) ∧ (∀ b, kd b = 1 → fldR (f9 b) 1 = fldR (f b) 1) ∧ (∀ b, kd b = 3 → fldR (f9 b) 0 = fldR (f b) 0) ∧ (∀ b, kd b = 3 → fldR (f9 b) 3 = fldR (f b) 3) ∧ (∀ d9, fldR (f9 o0) 3 = some d9 → trel kd 7 508 510 515 4 f9 d9) ∧ (∀ r9 d9, fldR (f9 o0) 2 = some r9 → fldR (f9 r9) 3 = some d9 → drel kd 1 521 522 f9 d9) ∧ (alrel kd f9 o0)) (qP (dC, dI) cI cL cZ cR cG cH L) (fun q => q ∈ L)) [.ref o0, .int p1, .int p2].toArray s 0 0 (fun q => q ∈ L)) (F0 m 30 ls [.int y_53]) := by
    intro y_53 by_53 hjhcut_54_0 ls hl
    refine lv_istore (lv' := [(4, .int y_53), (3, .int x_50), (0, .ref o0), (1, .int p1), (2, .int p2)]) hx hb dX11_orders_30 hl (by decide) rfl (fun ls hl => ?_)
    refine lv_iload_n hx hb dX11_orders_32 rfl (lv_at hl 3 rfl) ?_
    refine lv_iconst (v := 1) hx hb dX11_orders_33 (by decide) ?_
    refine lv_icmp_lt (tgt := 62) hx hb dX11_orders_34 (by decide) (fun c_55 => ?_) (fun c_55 => ?_)
    · skip
      rw [Int32.lt_iff_toInt_lt, ti_1] at c_55
      refine lv_iconst (v := (-1)) hx hb dX11_orders_62 (by decide) ?_
      exact W.iret (v := (-1)) hx hb hr (fun t ht hW => ⟨⟨(-1), f, rfl, ⟨hG, (by decide), hfr0, hrr1_0, hrr1_1, hrr3_0, hrr3_3, (fun d9 h9 => by rw [hfo_1] at h9; obtain rfl := Option.some.inj h9; exact hT0), (fun r9 d9 h8 h9 => by rw [hfo_1] at h8; obtain rfl := Option.some.inj h8; rw [hfo_21] at h9; obtain rfl := Option.some.inj h9; exact hT1), hT2⟩, by rw [ht]; exact hP, va_K.moved hW.alike hK, pl_in hD⟩, hS.F ht⟩) hS.2.2 dX11_orders_63
    · skip
      rw [Int32.lt_iff_toInt_lt, ti_1] at c_55
      refine lv_iload_n hx hb dX11_orders_37 rfl (lv_at hl 3 rfl) ?_
      refine lv_iconst (v := 2) hx hb dX11_orders_38 (by decide) ?_
      refine lv_icmp_gt (tgt := 62) hx hb dX11_orders_39 (by decide) (fun c_56 => ?_) (fun c_56 => ?_)
      · skip
        rw [Int32.lt_iff_toInt_lt, ti_2] at c_56
        refine lv_iconst (v := (-1)) hx hb dX11_orders_62 (by decide) ?_
        exact W.iret (v := (-1)) hx hb hr (fun t ht hW => ⟨⟨(-1), f, rfl, ⟨hG, (by decide), hfr0, hrr1_0, hrr1_1, hrr3_0, hrr3_3, (fun d9 h9 => by rw [hfo_1] at h9; obtain rfl := Option.some.inj h9; exact hT0), (fun r9 d9 h8 h9 => by rw [hfo_1] at h8; obtain rfl := Option.some.inj h8; rw [hfo_21] at h9; obtain rfl := Option.some.inj h9; exact hT1), hT2⟩, by rw [ht]; exact hP, va_K.moved hW.alike hK, pl_in hD⟩, hS.F ht⟩) hS.2.2 dX11_orders_63
      · skip
        rw [Int32.lt_iff_toInt_lt, ti_2] at c_56
        refine lv_iload_n hx hb dX11_orders_42 rfl (lv_at hl 1 rfl) ?_
        refine lv_bipush (v := 6) hx hb dX11_orders_43 (by decide) ?_
        refine lv_icmp_gt (tgt := 62) hx hb dX11_orders_45 (by decide) (fun c_57 => ?_) (fun c_57 => ?_)
        · skip
          rw [Int32.lt_iff_toInt_lt, ti_6] at c_57
          refine lv_iconst (v := (-1)) hx hb dX11_orders_62 (by decide) ?_
          exact W.iret (v := (-1)) hx hb hr (fun t ht hW => ⟨⟨(-1), f, rfl, ⟨hG, (by decide), hfr0, hrr1_0, hrr1_1, hrr3_0, hrr3_3, (fun d9 h9 => by rw [hfo_1] at h9; obtain rfl := Option.some.inj h9; exact hT0), (fun r9 d9 h8 h9 => by rw [hfo_1] at h8; obtain rfl := Option.some.inj h8; rw [hfo_21] at h9; obtain rfl := Option.some.inj h9; exact hT1), hT2⟩, by rw [ht]; exact hP, va_K.moved hW.alike hK, pl_in hD⟩, hS.F ht⟩) hS.2.2 dX11_orders_63
        · skip
          rw [Int32.lt_iff_toInt_lt, ti_6] at c_57
          refine lv_iload_n hx hb dX11_orders_48 rfl (lv_at hl 4 rfl) ?_
          refine lv_if_eq (tgt := 64) hx hb dX11_orders_49 (by decide) (fun c_58 => ?_) (fun c_58 => ?_)
          · skip
            rw [← Int32.toInt_inj, ti_0] at c_58
            refine lv_aload_n hx hb dX11_orders_64 rfl (lv_at hl 2 rfl) ?_
            refine tk_getP (D := (dC, dI)) (ci := 11) (v := .ref a_12) (C := RX11) (T := TX11) (N := 19) hx hb hU inlX11 hown hK hP mo0 hfo_1 rfl 10 (by decide) (hU _ wd_38) (fun _ h9 => h9) rfl dX11_orders_65 ?_
            refine lv_iload_n hx hb dX11_orders_68 rfl (lv_at hl 3 rfl) ?_
            refine lv_aload_n hx hb dX11_orders_69 rfl (lv_at hl 2 rfl) ?_
            refine tk_getP (D := (dC, dI)) (ci := 11) (v := .ref a_4) (C := RX11) (T := TX11) (N := 19) hx hb hU inlX11 hown hK hP mo0 hfo_1 rfl 2 (by decide) (hU _ wd_17) (fun _ h9 => h9) rfl dX11_orders_70 ?_
            refine lv_aload_n hx hb dX11_orders_73 rfl (lv_at hl 2 rfl) ?_
            refine tk_getP (D := (dC, dI)) (ci := 11) (v := .ref a_7) (C := RX11) (T := TX11) (N := 19) hx hb hU inlX11 hown hK hP mo0 hfo_1 rfl 5 (by decide) (hU _ wd_25) (fun _ h9 => h9) rfl dX11_orders_74 ?_
            refine lv_aload_n hx hb dX11_orders_77 rfl (lv_at hl 2 rfl) ?_
            refine tk_getP (D := (dC, dI)) (ci := 11) (v := .int v_20) (C := RX11) (T := TX11) (N := 19) hx hb hU inlX11 hown hK hP mo0 hfo_1 rfl 18 (by decide) (hU _ wd_236) (fun _ h9 => h9) rfl dX11_orders_78 ?_
            obtain ⟨a_60, a_61, a_62, v_63, a_64, a_65, a_66, v_67, a_68, v_69, v_70, hfo_59, ⟨ma_60, ka_60⟩, ⟨ma_61, ka_61⟩, ⟨ma_62, ka_62⟩, bv_63, ⟨ma_64, ka_64⟩, ⟨ma_65, ka_65⟩, ⟨ma_66, ka_66⟩, ⟨ma_68, ka_68⟩⟩ := un_0 (hG _ ma_12) ka_12
            have bv_67 : ((-2147483648) ≤ v_67.toInt ∧ v_67.toInt ≤ 2147483647) := ⟨i32_lo _, i32_hi _⟩
            have bv_69 : ((-2147483648) ≤ v_69.toInt ∧ v_69.toInt ≤ 2147483647) := ⟨i32_lo _, i32_hi _⟩
            have bv_70 : ((-2147483648) ≤ v_70.toInt ∧ v_70.toInt ≤ 2147483647) := ⟨i32_lo _, i32_hi _⟩
            refine tk_VvP (As := [.int p1, .ref a_4, .ref a_7, .int v_20]) (rest := []) (n := 4) hx hb hml hown hU hN hZ (s_X0_refresh_k0_k3_k6 l (dC, dI) cI cL cZ cR cG cH Z kd L f hG a_12 ma_12 ka_12 p1 (by constructor <;> omega) a_4 ma_4 ka_4 a_7 ma_7 ka_7 v_20 (fun d9 h9 => by rw [hfo_21] at h9; obtain rfl := Option.some.inj h9; exact hT0) (fun d9 h9 => by rw [hfo_21] at h9; obtain rfl := Option.some.inj h9; exact hT1)) wd_1190 wd_1191 wd_1192 wd_37 wd_1193 (by decide +kernel) ⟨Nat.le_of_ble_eq_true rfl, Nat.le_of_ble_eq_true rfl⟩ hK hP hD hS ma_12 hfo_59 0 rfl rfl rfl hl.1 rfl (Nat.le_of_ble_eq_true rfl) dX11_orders_81 ⟨Nat.le_of_ble_eq_true rfl, Nat.le_of_ble_eq_true rfl⟩ (fun f_72 H locs hw hP hD hS => ?_)
            obtain ⟨hG, hkc_73, hrc_74, hrc_75, hrc_76, hrc_77, hTc_78, hTc_79⟩ := hw
            have hfo_81 : f_72 o0 = .inr (11, [.ref a_2, .int v_3, .ref a_4, .ref a_5, .ref a_6, .ref a_7, .ref a_8, .ref a_9, .int v_10, .ref a_11, .ref a_12, .ref a_13, .int v_14, .int v_15, .ref a_16, .int v_17, .ref a_18, .ref a_19, .int v_20]) := by rw [hkc_73 o0 (by rw [ko0]; decide) (by rw [ko0]; decide) (by rw [ko0]; decide) (by rw [ko0]; decide) (by rw [ko0]; decide) (by rw [ko0]; decide) (by rw [ko0]; decide) (by rw [ko0]; decide) (by rw [ko0]; decide) (by rw [ko0]; decide) (by rw [ko0]; decide) (by rw [ko0]; decide) (by rw [ko0]; decide) (by rw [ko0]; decide) (by rw [ko0]; decide) (by rw [ko0]; decide) (by rw [ko0]; decide) (by rw [ko0]; decide) (by rw [ko0]; decide) (by rw [ko0]; decide) (by rw [ko0]; decide) (by rw [ko0]; decide)]; exact hfo_1
            have hfo_82 : f_72 a_7 = .inr (6, [.int v_41, .int v_42, .ref a_43, .ref a_44, .ref a_45, .int v_46, .ref a_47, .ref a_48, .ref a_49]) := by rw [hkc_73 a_7 (by rw [ka_7]; decide) (by rw [ka_7]; decide) (by rw [ka_7]; decide) (by rw [ka_7]; decide) (by rw [ka_7]; decide) (by rw [ka_7]; decide) (by rw [ka_7]; decide) (by rw [ka_7]; decide) (by rw [ka_7]; decide) (by rw [ka_7]; decide) (by rw [ka_7]; decide) (by rw [ka_7]; decide) (by rw [ka_7]; decide) (by rw [ka_7]; decide) (by rw [ka_7]; decide) (by rw [ka_7]; decide) (by rw [ka_7]; decide) (by rw [ka_7]; decide) (by rw [ka_7]; decide) (by rw [ka_7]; decide) (by rw [ka_7]; decide) (by rw [ka_7]; decide)]; exact hfo_40
            have hfr0 : ∀ b, kd b ≠ 0 → kd b ≠ 1 → kd b ≠ 3 → kd b ≠ 10 → kd b ≠ 507 → kd b ≠ 516 → kd b ≠ 517 → kd b ≠ 518 → kd b ≠ 519 → kd b ≠ 520 → kd b ≠ 521 → kd b ≠ 522 → kd b ≠ 523 → kd b ≠ 524 → kd b ≠ 525 → kd b ≠ 526 → kd b ≠ 527 → kd b ≠ 534 → kd b ≠ 535 → kd b ≠ 536 → kd b ≠ 537 → kd b ≠ 538 → f_72 b = f b := fun b q0 q1 q3 q10 q507 q516 q517 q518 q519 q520 q521 q522 q523 q524 q525 q526 q527 q534 q535 q536 q537 q538 => (hkc_73 b q0 q1 q3 q10 q507 q516 q517 q518 q519 q520 q521 q522 q523 q524 q525 q526 q527 q534 q535 q536 q537 q538).trans (hfr0 b q0 q1 q3 q10 q507 q516 q517 q518 q519 q520 q521 q522 q523 q524 q525 q526 q527 q534 q535 q536 q537 q538)
            have hrr1_0 : ∀ b, kd b = 1 → fldR (f_72 b) 0 = fldR (f b) 0 := fun b kb => (hrc_74 b kb).trans (hrr1_0 b kb)
            have hrr1_1 : ∀ b, kd b = 1 → fldR (f_72 b) 1 = fldR (f b) 1 := fun b kb => (hrc_75 b kb).trans (hrr1_1 b kb)
            have hrr3_0 : ∀ b, kd b = 3 → fldR (f_72 b) 0 = fldR (f b) 0 := fun b kb => (hrc_76 b kb).trans (hrr3_0 b kb)
            have hrr3_3 : ∀ b, kd b = 3 → fldR (f_72 b) 3 = fldR (f b) 3 := fun b kb => (hrc_77 b kb).trans (hrr3_3 b kb)
            have hT0 : trel kd 7 508 510 515 4 f_72 a_5 := hT0.keep (fun b q => hkc_73 b (by rw [q]; decide) (by rw [q]; decide) (by rw [q]; decide) (by rw [q]; decide) (by rw [q]; decide) (by rw [q]; decide) (by rw [q]; decide) (by rw [q]; decide) (by rw [q]; decide) (by rw [q]; decide) (by rw [q]; decide) (by rw [q]; decide) (by rw [q]; decide) (by rw [q]; decide) (by rw [q]; decide) (by rw [q]; decide) (by rw [q]; decide) (by rw [q]; decide) (by rw [q]; decide) (by rw [q]; decide) (by rw [q]; decide) (by rw [q]; decide)) (fun b q => hkc_73 b (by rw [q]; decide) (by rw [q]; decide) (by rw [q]; decide) (by rw [q]; decide) (by rw [q]; decide) (by rw [q]; decide) (by rw [q]; decide) (by rw [q]; decide) (by rw [q]; decide) (by rw [q]; decide) (by rw [q]; decide) (by rw [q]; decide) (by rw [q]; decide) (by rw [q]; decide) (by rw [q]; decide) (by rw [q]; decide) (by rw [q]; decide) (by rw [q]; decide) (by rw [q]; decide) (by rw [q]; decide) (by rw [q]; decide) (by rw [q]; decide)) (fun b q => hkc_73 b (by rw [q]; decide) (by rw [q]; decide) (by rw [q]; decide) (by rw [q]; decide) (by rw [q]; decide) (by rw [q]; decide) (by rw [q]; decide) (by rw [q]; decide) (by rw [q]; decide) (by rw [q]; decide) (by rw [q]; decide) (by rw [q]; decide) (by rw [q]; decide) (by rw [q]; decide) (by rw [q]; decide) (by rw [q]; decide) (by rw [q]; decide) (by rw [q]; decide) (by rw [q]; decide) (by rw [q]; decide) (by rw [q]; decide) (by rw [q]; decide)) (fun b q => hkc_73 b (by rw [q]; decide) (by rw [q]; decide) (by rw [q]; decide) (by rw [q]; decide) (by rw [q]; decide) (by rw [q]; decide) (by rw [q]; decide) (by rw [q]; decide) (by rw [q]; decide) (by rw [q]; decide) (by rw [q]; decide) (by rw [q]; decide) (by rw [q]; decide) (by rw [q]; decide) (by rw [q]; decide) (by rw [q]; decide) (by rw [q]; decide) (by rw [q]; decide) (by rw [q]; decide) (by rw [q]; decide) (by rw [q]; decide) (by rw [q]; decide)) (fun b q => congrArg (fun x => fldI x 1) (hkc_73 b (by rw [q]; decide) (by rw [q]; decide) (by rw [q]; decide) (by rw [q]; decide) (by rw [q]; decide) (by rw [q]; decide) (by rw [q]; decide) (by rw [q]; decide) (by rw [q]; decide) (by rw [q]; decide) (by rw [q]; decide) (by rw [q]; decide) (by rw [q]; decide) (by rw [q]; decide) (by rw [q]; decide) (by rw [q]; decide) (by rw [q]; decide) (by rw [q]; decide) (by rw [q]; decide) (by rw [q]; decide) (by rw [q]; decide) (by rw [q]; decide)))
            have hT2 : alrel kd f_72 o0 := hT2.keep (fun b q => congrArg (fun x => fldR x 2) (hkc_73 b (by rw [q]; decide) (by rw [q]; decide) (by rw [q]; decide) (by rw [q]; decide) (by rw [q]; decide) (by rw [q]; decide) (by rw [q]; decide) (by rw [q]; decide) (by rw [q]; decide) (by rw [q]; decide) (by rw [q]; decide) (by rw [q]; decide) (by rw [q]; decide) (by rw [q]; decide) (by rw [q]; decide) (by rw [q]; decide) (by rw [q]; decide) (by rw [q]; decide) (by rw [q]; decide) (by rw [q]; decide) (by rw [q]; decide) (by rw [q]; decide))) (fun b q => congrArg (fun x => fldR x 3) (hkc_73 b (by rw [q]; decide) (by rw [q]; decide) (by rw [q]; decide) (by rw [q]; decide) (by rw [q]; decide) (by rw [q]; decide) (by rw [q]; decide) (by rw [q]; decide) (by rw [q]; decide) (by rw [q]; decide) (by rw [q]; decide) (by rw [q]; decide) (by rw [q]; decide) (by rw [q]; decide) (by rw [q]; decide) (by rw [q]; decide) (by rw [q]; decide) (by rw [q]; decide) (by rw [q]; decide) (by rw [q]; decide) (by rw [q]; decide) (by rw [q]; decide))) (fun b q => hrc_76 b q)
            obtain ⟨a_84, a_85, a_86, a_87, a_88, v_89, v_90, v_91, v_92, v_93, v_94, v_95, a_96, a_97, a_98, v_99, a_100, a_101, hfo_83, ⟨ma_84, ka_84⟩, ⟨ma_85, ka_85⟩, ⟨ma_86, ka_86⟩, ⟨ma_87, ka_87⟩, ⟨ma_88, ka_88⟩, bv_89, bv_90, bv_91, ⟨ma_96, ka_96⟩, ⟨ma_97, ka_97⟩, ⟨ma_98, ka_98⟩, bv_99, ⟨ma_100, ka_100⟩, ⟨ma_101, ka_101⟩⟩ := un_3 (hG _ ma_4) ka_4
            have bv_92 : ((-2147483648) ≤ v_92.toInt ∧ v_92.toInt ≤ 2147483647) := ⟨i32_lo _, i32_hi _⟩
            have bv_93 : ((-2147483648) ≤ v_93.toInt ∧ v_93.toInt ≤ 2147483647) := ⟨i32_lo _, i32_hi _⟩
            have bv_94 : ((-2147483648) ≤ v_94.toInt ∧ v_94.toInt ≤ 2147483647) := ⟨i32_lo _, i32_hi _⟩
            have bv_95 : ((-2147483648) ≤ v_95.toInt ∧ v_95.toInt ≤ 2147483647) := ⟨i32_lo _, i32_hi _⟩
            obtain rfl : a_5 = a_84 := by have hk9 := hrr3_0 a_4 ka_4; rw [hfo_83, hfo_21] at hk9; exact (Option.some.inj hk9).symm
            obtain rfl : a_25 = a_87 := by have hk9 := hrr3_3 a_4 ka_4; rw [hfo_83, hfo_21] at hk9; exact (Option.some.inj hk9).symm
            have hT_102 := hTc_78 a_5 (by rw [hfo_83]; rfl)
            have hT_103 := hTc_79 a_25 (by rw [hfo_83]; rfl)
            refine lv_iload hx hb dX11_orders_84 (lv_at hl 0 rfl) ?_
            refine lv_if_eq (tgt := 102) hx hb dX11_orders_86 (by decide) (fun c_104 => ?_) (fun c_104 => ?_)
            · skip
              rw [← Int32.toInt_inj, ti_0] at c_104
              refine lv_iload_n hx hb dX11_orders_102 rfl (lv_at hl 4 rfl) ?_
              refine lv_if_ne (tgt := 116) hx hb dX11_orders_103 (by decide) (fun c_105 => ?_) (fun c_105 => ?_)
              · skip
                rw [← Int32.toInt_inj, ti_0] at c_105
                exfalso
                omega
              · skip
                rw [← Int32.toInt_inj, ti_0] at c_105
                refine lv_aload_n hx hb dX11_orders_106 rfl (lv_at hl 2 rfl) ?_
                refine tk_getP (D := (dC, dI)) (ci := 11) (v := .ref a_12) (C := RX11) (T := TX11) (N := 19) hx hb hU inlX11 hown hK hP mo0 hfo_81 rfl 10 (by decide) (hU _ wd_38) (fun _ h9 => h9) rfl dX11_orders_107 ?_
                obtain ⟨a_107, a_108, a_109, v_110, a_111, a_112, a_113, v_114, a_115, v_116, v_117, hfo_106, ⟨ma_107, ka_107⟩, ⟨ma_108, ka_108⟩, ⟨ma_109, ka_109⟩, bv_110, ⟨ma_111, ka_111⟩, ⟨ma_112, ka_112⟩, ⟨ma_113, ka_113⟩, ⟨ma_115, ka_115⟩⟩ := un_0 (hG _ ma_12) ka_12
                have bv_114 : ((-2147483648) ≤ v_114.toInt ∧ v_114.toInt ≤ 2147483647) := ⟨i32_lo _, i32_hi _⟩
                have bv_116 : ((-2147483648) ≤ v_116.toInt ∧ v_116.toInt ≤ 2147483647) := ⟨i32_lo _, i32_hi _⟩
                have bv_117 : ((-2147483648) ≤ v_117.toInt ∧ v_117.toInt ≤ 2147483647) := ⟨i32_lo _, i32_hi _⟩
                refine tk_getP (D := (dC, dI)) (ci := 0) (v := .int v_114) (C := RX0) (T := TX0) (N := 11) hx hb hU inlX0 hown hK hP ma_12 hfo_106 rfl 7 (by decide) (hU _ wd_1182) (fun _ h9 => h9) rfl dX11_orders_110 ?_
                refine lv_goto (tgt := 130) hx hb dX11_orders_113 (by decide) ?_
                exact W.iret (v := v_114) hx hb hr (fun t ht hW => ⟨⟨v_114, f_72, rfl, ⟨hG, (by constructor <;> omega), hfr0, hrr1_0, hrr1_1, hrr3_0, hrr3_3, (fun d9 h9 => by rw [hfo_81] at h9; obtain rfl := Option.some.inj h9; exact hT_102), (fun r9 d9 h8 h9 => by rw [hfo_81] at h8; obtain rfl := Option.some.inj h8; rw [hfo_83] at h9; obtain rfl := Option.some.inj h9; exact hT_103), hT2⟩, by rw [ht]; exact hP, va_K.moved hW.alike hK, pl_in hD⟩, hS.F ht⟩) hS.2.2 dX11_orders_130
            · skip
              rw [← Int32.toInt_inj, ti_0] at c_104
              have hclc_118 : (10 ≤ p2.toInt ∧ p2.toInt ≤ 15) := by constructor <;> omega
              refine lv_aload_n hx hb dX11_orders_89 rfl (lv_at hl 2 rfl) ?_
              refine tk_getP (D := (dC, dI)) (ci := 11) (v := .ref a_12) (C := RX11) (T := TX11) (N := 19) hx hb hU inlX11 hown hK hP mo0 hfo_81 rfl 10 (by decide) (hU _ wd_38) (fun _ h9 => h9) rfl dX11_orders_90 ?_
              obtain ⟨a_120, a_121, a_122, v_123, a_124, a_125, a_126, v_127, a_128, v_129, v_130, hfo_119, ⟨ma_120, ka_120⟩, ⟨ma_121, ka_121⟩, ⟨ma_122, ka_122⟩, bv_123, ⟨ma_124, ka_124⟩, ⟨ma_125, ka_125⟩, ⟨ma_126, ka_126⟩, ⟨ma_128, ka_128⟩⟩ := un_0 (hG _ ma_12) ka_12
              have bv_127 : ((-2147483648) ≤ v_127.toInt ∧ v_127.toInt ≤ 2147483647) := ⟨i32_lo _, i32_hi _⟩
              have bv_129 : ((-2147483648) ≤ v_129.toInt ∧ v_129.toInt ≤ 2147483647) := ⟨i32_lo _, i32_hi _⟩
              have bv_130 : ((-2147483648) ≤ v_130.toInt ∧ v_130.toInt ≤ 2147483647) := ⟨i32_lo _, i32_hi _⟩
              refine tk_getP (D := (dC, dI)) (ci := 0) (v := .ref a_126) (C := RX0) (T := TX0) (N := 11) hx hb hU inlX0 hown hK hP ma_12 hfo_119 rfl 6 (by decide) (hU _ wd_1181) (fun _ h9 => h9) rfl dX11_orders_93 ?_
              refine lv_iload_n hx hb dX11_orders_96 rfl (lv_at hl 4 rfl) ?_
              refine lv_bipush (v := 10) hx hb dX11_orders_97 (by decide) ?_
              refine lv_isub hx hb dX11_orders_99 ?_
              refine lv_topi (fun x_131 ex_131 => ?_)
              have hx_131 : x_131.toInt = p2.toInt - 10 := by rw [ex_131, sb_I (by rw [ti_10]; omega) (by rw [ti_10]; omega), ti_10]
              have bx_131 : ((-10) ≤ x_131.toInt ∧ x_131.toInt ≤ 0) := by constructor <;> omega
              obtain ⟨g_133, hfo_132, hbg_133⟩ := un_536 (hG _ ma_126) ka_126
              refine tk_ildP hx hb hK hP 0 ma_126 hfo_132 rfl (vp_in_iff.mpr (by constructor <;> omega)) dX11_orders_100 ?_
              refine lv_topi (fun x_134 ex_134 => ?_)
              have bx_134 : (0 ≤ x_134.toInt ∧ x_134.toInt ≤ 7) := by rw [ex_134]; exact hbg_133 _
              exact W.iret (v := x_134) hx hb hr (fun t ht hW => ⟨⟨x_134, f_72, rfl, ⟨hG, (by constructor <;> omega), hfr0, hrr1_0, hrr1_1, hrr3_0, hrr3_3, (fun d9 h9 => by rw [hfo_81] at h9; obtain rfl := Option.some.inj h9; exact hT_102), (fun r9 d9 h8 h9 => by rw [hfo_81] at h8; obtain rfl := Option.some.inj h8; rw [hfo_83] at h9; obtain rfl := Option.some.inj h9; exact hT_103), hT2⟩, by rw [ht]; exact hP, va_K.moved hW.alike hK, pl_in hD⟩, hS.F ht⟩) hS.2.2 dX11_orders_101
          · skip
            rw [← Int32.toInt_inj, ti_0] at c_58
            refine lv_iload_n hx hb dX11_orders_52 rfl (lv_at hl 4 rfl) ?_
            refine lv_iconst (v := 1) hx hb dX11_orders_53 (by decide) ?_
            refine lv_icmp_eq (tgt := 64) hx hb dX11_orders_54 (by decide) (fun c_135 => ?_) (fun c_135 => ?_)
            · skip
              rw [← Int32.toInt_inj, ti_1] at c_135
              refine lv_aload_n hx hb dX11_orders_64 rfl (lv_at hl 2 rfl) ?_
              refine tk_getP (D := (dC, dI)) (ci := 11) (v := .ref a_12) (C := RX11) (T := TX11) (N := 19) hx hb hU inlX11 hown hK hP mo0 hfo_1 rfl 10 (by decide) (hU _ wd_38) (fun _ h9 => h9) rfl dX11_orders_65 ?_
              refine lv_iload_n hx hb dX11_orders_68 rfl (lv_at hl 3 rfl) ?_
              refine lv_aload_n hx hb dX11_orders_69 rfl (lv_at hl 2 rfl) ?_
              refine tk_getP (D := (dC, dI)) (ci := 11) (v := .ref a_4) (C := RX11) (T := TX11) (N := 19) hx hb hU inlX11 hown hK hP mo0 hfo_1 rfl 2 (by decide) (hU _ wd_17) (fun _ h9 => h9) rfl dX11_orders_70 ?_
              refine lv_aload_n hx hb dX11_orders_73 rfl (lv_at hl 2 rfl) ?_
              refine tk_getP (D := (dC, dI)) (ci := 11) (v := .ref a_7) (C := RX11) (T := TX11) (N := 19) hx hb hU inlX11 hown hK hP mo0 hfo_1 rfl 5 (by decide) (hU _ wd_25) (fun _ h9 => h9) rfl dX11_orders_74 ?_
              refine lv_aload_n hx hb dX11_orders_77 rfl (lv_at hl 2 rfl) ?_
              refine tk_getP (D := (dC, dI)) (ci := 11) (v := .int v_20) (C := RX11) (T := TX11) (N := 19) hx hb hU inlX11 hown hK hP mo0 hfo_1 rfl 18 (by decide) (hU _ wd_236) (fun _ h9 => h9) rfl dX11_orders_78 ?_
              obtain ⟨a_137, a_138, a_139, v_140, a_141, a_142, a_143, v_144, a_145, v_146, v_147, hfo_136, ⟨ma_137, ka_137⟩, ⟨ma_138, ka_138⟩, ⟨ma_139, ka_139⟩, bv_140, ⟨ma_141, ka_141⟩, ⟨ma_142, ka_142⟩, ⟨ma_143, ka_143⟩, ⟨ma_145, ka_145⟩⟩ := un_0 (hG _ ma_12) ka_12
              have bv_144 : ((-2147483648) ≤ v_144.toInt ∧ v_144.toInt ≤ 2147483647) := ⟨i32_lo _, i32_hi _⟩
              have bv_146 : ((-2147483648) ≤ v_146.toInt ∧ v_146.toInt ≤ 2147483647) := ⟨i32_lo _, i32_hi _⟩
              have bv_147 : ((-2147483648) ≤ v_147.toInt ∧ v_147.toInt ≤ 2147483647) := ⟨i32_lo _, i32_hi _⟩
              refine tk_VvP (As := [.int p1, .ref a_4, .ref a_7, .int v_20]) (rest := []) (n := 4) hx hb hml hown hU hN hZ (s_X0_refresh_k0_k3_k6 l (dC, dI) cI cL cZ cR cG cH Z kd L f hG a_12 ma_12 ka_12 p1 (by constructor <;> omega) a_4 ma_4 ka_4 a_7 ma_7 ka_7 v_20 (fun d9 h9 => by rw [hfo_21] at h9; obtain rfl := Option.some.inj h9; exact hT0) (fun d9 h9 => by rw [hfo_21] at h9; obtain rfl := Option.some.inj h9; exact hT1)) wd_1190 wd_1191 wd_1192 wd_37 wd_1193 (by decide +kernel) ⟨Nat.le_of_ble_eq_true rfl, Nat.le_of_ble_eq_true rfl⟩ hK hP hD hS ma_12 hfo_136 0 rfl rfl rfl hl.1 rfl (Nat.le_of_ble_eq_true rfl) dX11_orders_81 ⟨Nat.le_of_ble_eq_true rfl, Nat.le_of_ble_eq_true rfl⟩ (fun f_149 H locs hw hP hD hS => ?_)
              obtain ⟨hG, hkc_150, hrc_151, hrc_152, hrc_153, hrc_154, hTc_155, hTc_156⟩ := hw
              have hfo_158 : f_149 o0 = .inr (11, [.ref a_2, .int v_3, .ref a_4, .ref a_5, .ref a_6, .ref a_7, .ref a_8, .ref a_9, .int v_10, .ref a_11, .ref a_12, .ref a_13, .int v_14, .int v_15, .ref a_16, .int v_17, .ref a_18, .ref a_19, .int v_20]) := by rw [hkc_150 o0 (by rw [ko0]; decide) (by rw [ko0]; decide) (by rw [ko0]; decide) (by rw [ko0]; decide) (by rw [ko0]; decide) (by rw [ko0]; decide) (by rw [ko0]; decide) (by rw [ko0]; decide) (by rw [ko0]; decide) (by rw [ko0]; decide) (by rw [ko0]; decide) (by rw [ko0]; decide) (by rw [ko0]; decide) (by rw [ko0]; decide) (by rw [ko0]; decide) (by rw [ko0]; decide) (by rw [ko0]; decide) (by rw [ko0]; decide) (by rw [ko0]; decide) (by rw [ko0]; decide) (by rw [ko0]; decide) (by rw [ko0]; decide)]; exact hfo_1
              have hfo_159 : f_149 a_7 = .inr (6, [.int v_41, .int v_42, .ref a_43, .ref a_44, .ref a_45, .int v_46, .ref a_47, .ref a_48, .ref a_49]) := by rw [hkc_150 a_7 (by rw [ka_7]; decide) (by rw [ka_7]; decide) (by rw [ka_7]; decide) (by rw [ka_7]; decide) (by rw [ka_7]; decide) (by rw [ka_7]; decide) (by rw [ka_7]; decide) (by rw [ka_7]; decide) (by rw [ka_7]; decide) (by rw [ka_7]; decide) (by rw [ka_7]; decide) (by rw [ka_7]; decide) (by rw [ka_7]; decide) (by rw [ka_7]; decide) (by rw [ka_7]; decide) (by rw [ka_7]; decide) (by rw [ka_7]; decide) (by rw [ka_7]; decide) (by rw [ka_7]; decide) (by rw [ka_7]; decide) (by rw [ka_7]; decide) (by rw [ka_7]; decide)]; exact hfo_40
              have hfr0 : ∀ b, kd b ≠ 0 → kd b ≠ 1 → kd b ≠ 3 → kd b ≠ 10 → kd b ≠ 507 → kd b ≠ 516 → kd b ≠ 517 → kd b ≠ 518 → kd b ≠ 519 → kd b ≠ 520 → kd b ≠ 521 → kd b ≠ 522 → kd b ≠ 523 → kd b ≠ 524 → kd b ≠ 525 → kd b ≠ 526 → kd b ≠ 527 → kd b ≠ 534 → kd b ≠ 535 → kd b ≠ 536 → kd b ≠ 537 → kd b ≠ 538 → f_149 b = f b := fun b q0 q1 q3 q10 q507 q516 q517 q518 q519 q520 q521 q522 q523 q524 q525 q526 q527 q534 q535 q536 q537 q538 => (hkc_150 b q0 q1 q3 q10 q507 q516 q517 q518 q519 q520 q521 q522 q523 q524 q525 q526 q527 q534 q535 q536 q537 q538).trans (hfr0 b q0 q1 q3 q10 q507 q516 q517 q518 q519 q520 q521 q522 q523 q524 q525 q526 q527 q534 q535 q536 q537 q538)
              have hrr1_0 : ∀ b, kd b = 1 → fldR (f_149 b) 0 = fldR (f b) 0 := fun b kb => (hrc_151 b kb).trans (hrr1_0 b kb)
              have hrr1_1 : ∀ b, kd b = 1 → fldR (f_149 b) 1 = fldR (f b) 1 := fun b kb => (hrc_152 b kb).trans (hrr1_1 b kb)
              have hrr3_0 : ∀ b, kd b = 3 → fldR (f_149 b) 0 = fldR (f b) 0 := fun b kb => (hrc_153 b kb).trans (hrr3_0 b kb)
              have hrr3_3 : ∀ b, kd b = 3 → fldR (f_149 b) 3 = fldR (f b) 3 := fun b kb => (hrc_154 b kb).trans (hrr3_3 b kb)
              have hT0 : trel kd 7 508 510 515 4 f_149 a_5 := hT0.keep (fun b q => hkc_150 b (by rw [q]; decide) (by rw [q]; decide) (by rw [q]; decide) (by rw [q]; decide) (by rw [q]; decide) (by rw [q]; decide) (by rw [q]; decide) (by rw [q]; decide) (by rw [q]; decide) (by rw [q]; decide) (by rw [q]; decide) (by rw [q]; decide) (by rw [q]; decide) (by rw [q]; decide) (by rw [q]; decide) (by rw [q]; decide) (by rw [q]; decide) (by rw [q]; decide) (by rw [q]; decide) (by rw [q]; decide) (by rw [q]; decide) (by rw [q]; decide)) (fun b q => hkc_150 b (by rw [q]; decide) (by rw [q]; decide) (by rw [q]; decide) (by rw [q]; decide) (by rw [q]; decide) (by rw [q]; decide) (by rw [q]; decide) (by rw [q]; decide) (by rw [q]; decide) (by rw [q]; decide) (by rw [q]; decide) (by rw [q]; decide) (by rw [q]; decide) (by rw [q]; decide) (by rw [q]; decide) (by rw [q]; decide) (by rw [q]; decide) (by rw [q]; decide) (by rw [q]; decide) (by rw [q]; decide) (by rw [q]; decide) (by rw [q]; decide)) (fun b q => hkc_150 b (by rw [q]; decide) (by rw [q]; decide) (by rw [q]; decide) (by rw [q]; decide) (by rw [q]; decide) (by rw [q]; decide) (by rw [q]; decide) (by rw [q]; decide) (by rw [q]; decide) (by rw [q]; decide) (by rw [q]; decide) (by rw [q]; decide) (by rw [q]; decide) (by rw [q]; decide) (by rw [q]; decide) (by rw [q]; decide) (by rw [q]; decide) (by rw [q]; decide) (by rw [q]; decide) (by rw [q]; decide) (by rw [q]; decide) (by rw [q]; decide)) (fun b q => hkc_150 b (by rw [q]; decide) (by rw [q]; decide) (by rw [q]; decide) (by rw [q]; decide) (by rw [q]; decide) (by rw [q]; decide) (by rw [q]; decide) (by rw [q]; decide) (by rw [q]; decide) (by rw [q]; decide) (by rw [q]; decide) (by rw [q]; decide) (by rw [q]; decide) (by rw [q]; decide) (by rw [q]; decide) (by rw [q]; decide) (by rw [q]; decide) (by rw [q]; decide) (by rw [q]; decide) (by rw [q]; decide) (by rw [q]; decide) (by rw [q]; decide)) (fun b q => congrArg (fun x => fldI x 1) (hkc_150 b (by rw [q]; decide) (by rw [q]; decide) (by rw [q]; decide) (by rw [q]; decide) (by rw [q]; decide) (by rw [q]; decide) (by rw [q]; decide) (by rw [q]; decide) (by rw [q]; decide) (by rw [q]; decide) (by rw [q]; decide) (by rw [q]; decide) (by rw [q]; decide) (by rw [q]; decide) (by rw [q]; decide) (by rw [q]; decide) (by rw [q]; decide) (by rw [q]; decide) (by rw [q]; decide) (by rw [q]; decide) (by rw [q]; decide) (by rw [q]; decide)))
              have hT2 : alrel kd f_149 o0 := hT2.keep (fun b q => congrArg (fun x => fldR x 2) (hkc_150 b (by rw [q]; decide) (by rw [q]; decide) (by rw [q]; decide) (by rw [q]; decide) (by rw [q]; decide) (by rw [q]; decide) (by rw [q]; decide) (by rw [q]; decide) (by rw [q]; decide) (by rw [q]; decide) (by rw [q]; decide) (by rw [q]; decide) (by rw [q]; decide) (by rw [q]; decide) (by rw [q]; decide) (by rw [q]; decide) (by rw [q]; decide) (by rw [q]; decide) (by rw [q]; decide) (by rw [q]; decide) (by rw [q]; decide) (by rw [q]; decide))) (fun b q => congrArg (fun x => fldR x 3) (hkc_150 b (by rw [q]; decide) (by rw [q]; decide) (by rw [q]; decide) (by rw [q]; decide) (by rw [q]; decide) (by rw [q]; decide) (by rw [q]; decide) (by rw [q]; decide) (by rw [q]; decide) (by rw [q]; decide) (by rw [q]; decide) (by rw [q]; decide) (by rw [q]; decide) (by rw [q]; decide) (by rw [q]; decide) (by rw [q]; decide) (by rw [q]; decide) (by rw [q]; decide) (by rw [q]; decide) (by rw [q]; decide) (by rw [q]; decide) (by rw [q]; decide))) (fun b q => hrc_153 b q)
              obtain ⟨a_161, a_162, a_163, a_164, a_165, v_166, v_167, v_168, v_169, v_170, v_171, v_172, a_173, a_174, a_175, v_176, a_177, a_178, hfo_160, ⟨ma_161, ka_161⟩, ⟨ma_162, ka_162⟩, ⟨ma_163, ka_163⟩, ⟨ma_164, ka_164⟩, ⟨ma_165, ka_165⟩, bv_166, bv_167, bv_168, ⟨ma_173, ka_173⟩, ⟨ma_174, ka_174⟩, ⟨ma_175, ka_175⟩, bv_176, ⟨ma_177, ka_177⟩, ⟨ma_178, ka_178⟩⟩ := un_3 (hG _ ma_4) ka_4
              have bv_169 : ((-2147483648) ≤ v_169.toInt ∧ v_169.toInt ≤ 2147483647) := ⟨i32_lo _, i32_hi _⟩
              have bv_170 : ((-2147483648) ≤ v_170.toInt ∧ v_170.toInt ≤ 2147483647) := ⟨i32_lo _, i32_hi _⟩
              have bv_171 : ((-2147483648) ≤ v_171.toInt ∧ v_171.toInt ≤ 2147483647) := ⟨i32_lo _, i32_hi _⟩
              have bv_172 : ((-2147483648) ≤ v_172.toInt ∧ v_172.toInt ≤ 2147483647) := ⟨i32_lo _, i32_hi _⟩
              obtain rfl : a_5 = a_161 := by have hk9 := hrr3_0 a_4 ka_4; rw [hfo_160, hfo_21] at hk9; exact (Option.some.inj hk9).symm
              obtain rfl : a_25 = a_164 := by have hk9 := hrr3_3 a_4 ka_4; rw [hfo_160, hfo_21] at hk9; exact (Option.some.inj hk9).symm
              have hT_179 := hTc_155 a_5 (by rw [hfo_160]; rfl)
              have hT_180 := hTc_156 a_25 (by rw [hfo_160]; rfl)
              refine lv_iload hx hb dX11_orders_84 (lv_at hl 0 rfl) ?_
              refine lv_if_eq (tgt := 102) hx hb dX11_orders_86 (by decide) (fun c_181 => ?_) (fun c_181 => ?_)
              · skip
                rw [← Int32.toInt_inj, ti_0] at c_181
                refine lv_iload_n hx hb dX11_orders_102 rfl (lv_at hl 4 rfl) ?_
                refine lv_if_ne (tgt := 116) hx hb dX11_orders_103 (by decide) (fun c_182 => ?_) (fun c_182 => ?_)
                · skip
                  rw [← Int32.toInt_inj, ti_0] at c_182
                  refine lv_aload_n hx hb dX11_orders_116 rfl (lv_at hl 2 rfl) ?_
                  refine tk_getP (D := (dC, dI)) (ci := 11) (v := .ref a_12) (C := RX11) (T := TX11) (N := 19) hx hb hU inlX11 hown hK hP mo0 hfo_158 rfl 10 (by decide) (hU _ wd_38) (fun _ h9 => h9) rfl dX11_orders_117 ?_
                  refine lv_aload_n hx hb dX11_orders_120 rfl (lv_at hl 2 rfl) ?_
                  refine tk_getP (D := (dC, dI)) (ci := 11) (v := .ref a_5) (C := RX11) (T := TX11) (N := 19) hx hb hU inlX11 hown hK hP mo0 hfo_158 rfl 3 (by decide) (hU _ wd_19) (fun _ h9 => h9) rfl dX11_orders_121 ?_
                  obtain ⟨a_184, v_185, a_186, a_187, a_188, a_189, v_190, a_191, a_192, a_193, a_194, a_195, v_196, a_197, a_198, a_199, hfo_183, ⟨ma_184, ka_184⟩, bv_185, ⟨ma_186, ka_186⟩, ⟨ma_187, ka_187⟩, ⟨ma_188, ka_188⟩, ⟨ma_189, ka_189⟩, bv_190, ⟨ma_191, ka_191⟩, ⟨ma_192, ka_192⟩, ⟨ma_193, ka_193⟩, ⟨ma_194, ka_194⟩, ⟨ma_195, ka_195⟩, bv_196, ⟨ma_197, ka_197⟩, ⟨ma_198, ka_198⟩, ⟨ma_199, ka_199⟩⟩ := un_7 (hG _ ma_5) ka_5
                  refine tk_getP (D := (dC, dI)) (ci := 7) (v := .int v_185) (C := RX7) (T := TX7) (N := 16) hx hb hU inlX7 hown hK hP ma_5 hfo_183 rfl 1 (by decide) (hU _ wd_1151) (fun _ h9 => h9) rfl dX11_orders_124 ?_
                  obtain ⟨a_201, a_202, a_203, v_204, a_205, a_206, a_207, v_208, a_209, v_210, v_211, hfo_200, ⟨ma_201, ka_201⟩, ⟨ma_202, ka_202⟩, ⟨ma_203, ka_203⟩, bv_204, ⟨ma_205, ka_205⟩, ⟨ma_206, ka_206⟩, ⟨ma_207, ka_207⟩, ⟨ma_209, ka_209⟩⟩ := un_0 (hG _ ma_12) ka_12
                  have bv_208 : ((-2147483648) ≤ v_208.toInt ∧ v_208.toInt ≤ 2147483647) := ⟨i32_lo _, i32_hi _⟩
                  have bv_210 : ((-2147483648) ≤ v_210.toInt ∧ v_210.toInt ≤ 2147483647) := ⟨i32_lo _, i32_hi _⟩
                  have bv_211 : ((-2147483648) ≤ v_211.toInt ∧ v_211.toInt ≤ 2147483647) := ⟨i32_lo _, i32_hi _⟩
                  refine tk_ViP (As := [.int v_185]) (rest := []) (n := 1) hx hb hml hown hU hN hZ (s_X0_wordCount_k0 l (dC, dI) cI cL cZ cR cG cH Z kd L f_149 hG a_12 ma_12 ka_12 v_185 (by constructor <;> omega)) wd_1233 wd_1234 wd_1235 wd_37 wd_1236 (by decide +kernel) ⟨Nat.le_of_ble_eq_true rfl, Nat.le_of_ble_eq_true rfl⟩ hK hP hD hS ma_12 hfo_200 0 rfl rfl rfl hl.1 rfl (Nat.le_of_ble_eq_true rfl) dX11_orders_127 ⟨Nat.le_of_ble_eq_true rfl, Nat.le_of_ble_eq_true rfl⟩ (fun x_212 f_213 H locs hw hP hD hS => ?_)
                  obtain ⟨rfl, bx_212⟩ := hw
                  exact W.iret (v := x_212) hx hb hr (fun t ht hW => ⟨⟨x_212, f_149, rfl, ⟨hG, (by constructor <;> omega), hfr0, hrr1_0, hrr1_1, hrr3_0, hrr3_3, (fun d9 h9 => by rw [hfo_158] at h9; obtain rfl := Option.some.inj h9; exact hT_179), (fun r9 d9 h8 h9 => by rw [hfo_158] at h8; obtain rfl := Option.some.inj h8; rw [hfo_160] at h9; obtain rfl := Option.some.inj h9; exact hT_180), hT2⟩, by rw [ht]; exact hP, va_K.moved hW.alike hK, pl_in hD⟩, hS.F ht⟩) hS.2.2 dX11_orders_130
                · skip
                  rw [← Int32.toInt_inj, ti_0] at c_182
                  exfalso
                  omega
              · skip
                rw [← Int32.toInt_inj, ti_0] at c_181
                have hclc_215 : (10 ≤ p2.toInt ∧ p2.toInt ≤ 15) := by constructor <;> omega
                refine lv_aload_n hx hb dX11_orders_89 rfl (lv_at hl 2 rfl) ?_
                refine tk_getP (D := (dC, dI)) (ci := 11) (v := .ref a_12) (C := RX11) (T := TX11) (N := 19) hx hb hU inlX11 hown hK hP mo0 hfo_158 rfl 10 (by decide) (hU _ wd_38) (fun _ h9 => h9) rfl dX11_orders_90 ?_
                obtain ⟨a_217, a_218, a_219, v_220, a_221, a_222, a_223, v_224, a_225, v_226, v_227, hfo_216, ⟨ma_217, ka_217⟩, ⟨ma_218, ka_218⟩, ⟨ma_219, ka_219⟩, bv_220, ⟨ma_221, ka_221⟩, ⟨ma_222, ka_222⟩, ⟨ma_223, ka_223⟩, ⟨ma_225, ka_225⟩⟩ := un_0 (hG _ ma_12) ka_12
                have bv_224 : ((-2147483648) ≤ v_224.toInt ∧ v_224.toInt ≤ 2147483647) := ⟨i32_lo _, i32_hi _⟩
                have bv_226 : ((-2147483648) ≤ v_226.toInt ∧ v_226.toInt ≤ 2147483647) := ⟨i32_lo _, i32_hi _⟩
                have bv_227 : ((-2147483648) ≤ v_227.toInt ∧ v_227.toInt ≤ 2147483647) := ⟨i32_lo _, i32_hi _⟩
                refine tk_getP (D := (dC, dI)) (ci := 0) (v := .ref a_223) (C := RX0) (T := TX0) (N := 11) hx hb hU inlX0 hown hK hP ma_12 hfo_216 rfl 6 (by decide) (hU _ wd_1181) (fun _ h9 => h9) rfl dX11_orders_93 ?_
                refine lv_iload_n hx hb dX11_orders_96 rfl (lv_at hl 4 rfl) ?_
                refine lv_bipush (v := 10) hx hb dX11_orders_97 (by decide) ?_
                refine lv_isub hx hb dX11_orders_99 ?_
                refine lv_topi (fun x_228 ex_228 => ?_)
                have hx_228 : x_228.toInt = p2.toInt - 10 := by rw [ex_228, sb_I (by rw [ti_10]; omega) (by rw [ti_10]; omega), ti_10]
                have bx_228 : ((-9) ≤ x_228.toInt ∧ x_228.toInt ≤ 0) := by constructor <;> omega
                obtain ⟨g_230, hfo_229, hbg_230⟩ := un_536 (hG _ ma_223) ka_223
                refine tk_ildP hx hb hK hP 0 ma_223 hfo_229 rfl (vp_in_iff.mpr (by constructor <;> omega)) dX11_orders_100 ?_
                refine lv_topi (fun x_231 ex_231 => ?_)
                have bx_231 : (0 ≤ x_231.toInt ∧ x_231.toInt ≤ 7) := by rw [ex_231]; exact hbg_230 _
                exact W.iret (v := x_231) hx hb hr (fun t ht hW => ⟨⟨x_231, f_149, rfl, ⟨hG, (by constructor <;> omega), hfr0, hrr1_0, hrr1_1, hrr3_0, hrr3_3, (fun d9 h9 => by rw [hfo_158] at h9; obtain rfl := Option.some.inj h9; exact hT_179), (fun r9 d9 h8 h9 => by rw [hfo_158] at h8; obtain rfl := Option.some.inj h8; rw [hfo_160] at h9; obtain rfl := Option.some.inj h9; exact hT_180), hT2⟩, by rw [ht]; exact hP, va_K.moved hW.alike hK, pl_in hD⟩, hS.F ht⟩) hS.2.2 dX11_orders_101
            · skip
              rw [← Int32.toInt_inj, ti_1] at c_135
              refine lv_iload hx hb dX11_orders_57 (lv_at hl 0 rfl) ?_
              refine lv_if_ne (tgt := 64) hx hb dX11_orders_59 (by decide) (fun c_232 => ?_) (fun c_232 => ?_)
              · skip
                rw [← Int32.toInt_inj, ti_0] at c_232
                refine lv_aload_n hx hb dX11_orders_64 rfl (lv_at hl 2 rfl) ?_
                refine tk_getP (D := (dC, dI)) (ci := 11) (v := .ref a_12) (C := RX11) (T := TX11) (N := 19) hx hb hU inlX11 hown hK hP mo0 hfo_1 rfl 10 (by decide) (hU _ wd_38) (fun _ h9 => h9) rfl dX11_orders_65 ?_
                refine lv_iload_n hx hb dX11_orders_68 rfl (lv_at hl 3 rfl) ?_
                refine lv_aload_n hx hb dX11_orders_69 rfl (lv_at hl 2 rfl) ?_
                refine tk_getP (D := (dC, dI)) (ci := 11) (v := .ref a_4) (C := RX11) (T := TX11) (N := 19) hx hb hU inlX11 hown hK hP mo0 hfo_1 rfl 2 (by decide) (hU _ wd_17) (fun _ h9 => h9) rfl dX11_orders_70 ?_
                refine lv_aload_n hx hb dX11_orders_73 rfl (lv_at hl 2 rfl) ?_
                refine tk_getP (D := (dC, dI)) (ci := 11) (v := .ref a_7) (C := RX11) (T := TX11) (N := 19) hx hb hU inlX11 hown hK hP mo0 hfo_1 rfl 5 (by decide) (hU _ wd_25) (fun _ h9 => h9) rfl dX11_orders_74 ?_
                refine lv_aload_n hx hb dX11_orders_77 rfl (lv_at hl 2 rfl) ?_
                refine tk_getP (D := (dC, dI)) (ci := 11) (v := .int v_20) (C := RX11) (T := TX11) (N := 19) hx hb hU inlX11 hown hK hP mo0 hfo_1 rfl 18 (by decide) (hU _ wd_236) (fun _ h9 => h9) rfl dX11_orders_78 ?_
                obtain ⟨a_234, a_235, a_236, v_237, a_238, a_239, a_240, v_241, a_242, v_243, v_244, hfo_233, ⟨ma_234, ka_234⟩, ⟨ma_235, ka_235⟩, ⟨ma_236, ka_236⟩, bv_237, ⟨ma_238, ka_238⟩, ⟨ma_239, ka_239⟩, ⟨ma_240, ka_240⟩, ⟨ma_242, ka_242⟩⟩ := un_0 (hG _ ma_12) ka_12
                have bv_241 : ((-2147483648) ≤ v_241.toInt ∧ v_241.toInt ≤ 2147483647) := ⟨i32_lo _, i32_hi _⟩
                have bv_243 : ((-2147483648) ≤ v_243.toInt ∧ v_243.toInt ≤ 2147483647) := ⟨i32_lo _, i32_hi _⟩
                have bv_244 : ((-2147483648) ≤ v_244.toInt ∧ v_244.toInt ≤ 2147483647) := ⟨i32_lo _, i32_hi _⟩
                refine tk_VvP (As := [.int p1, .ref a_4, .ref a_7, .int v_20]) (rest := []) (n := 4) hx hb hml hown hU hN hZ (s_X0_refresh_k0_k3_k6 l (dC, dI) cI cL cZ cR cG cH Z kd L f hG a_12 ma_12 ka_12 p1 (by constructor <;> omega) a_4 ma_4 ka_4 a_7 ma_7 ka_7 v_20 (fun d9 h9 => by rw [hfo_21] at h9; obtain rfl := Option.some.inj h9; exact hT0) (fun d9 h9 => by rw [hfo_21] at h9; obtain rfl := Option.some.inj h9; exact hT1)) wd_1190 wd_1191 wd_1192 wd_37 wd_1193 (by decide +kernel) ⟨Nat.le_of_ble_eq_true rfl, Nat.le_of_ble_eq_true rfl⟩ hK hP hD hS ma_12 hfo_233 0 rfl rfl rfl hl.1 rfl (Nat.le_of_ble_eq_true rfl) dX11_orders_81 ⟨Nat.le_of_ble_eq_true rfl, Nat.le_of_ble_eq_true rfl⟩ (fun f_246 H locs hw hP hD hS => ?_)
                obtain ⟨hG, hkc_247, hrc_248, hrc_249, hrc_250, hrc_251, hTc_252, hTc_253⟩ := hw
                have hfo_255 : f_246 o0 = .inr (11, [.ref a_2, .int v_3, .ref a_4, .ref a_5, .ref a_6, .ref a_7, .ref a_8, .ref a_9, .int v_10, .ref a_11, .ref a_12, .ref a_13, .int v_14, .int v_15, .ref a_16, .int v_17, .ref a_18, .ref a_19, .int v_20]) := by rw [hkc_247 o0 (by rw [ko0]; decide) (by rw [ko0]; decide) (by rw [ko0]; decide) (by rw [ko0]; decide) (by rw [ko0]; decide) (by rw [ko0]; decide) (by rw [ko0]; decide) (by rw [ko0]; decide) (by rw [ko0]; decide) (by rw [ko0]; decide) (by rw [ko0]; decide) (by rw [ko0]; decide) (by rw [ko0]; decide) (by rw [ko0]; decide) (by rw [ko0]; decide) (by rw [ko0]; decide) (by rw [ko0]; decide) (by rw [ko0]; decide) (by rw [ko0]; decide) (by rw [ko0]; decide) (by rw [ko0]; decide) (by rw [ko0]; decide)]; exact hfo_1
                have hfo_256 : f_246 a_7 = .inr (6, [.int v_41, .int v_42, .ref a_43, .ref a_44, .ref a_45, .int v_46, .ref a_47, .ref a_48, .ref a_49]) := by rw [hkc_247 a_7 (by rw [ka_7]; decide) (by rw [ka_7]; decide) (by rw [ka_7]; decide) (by rw [ka_7]; decide) (by rw [ka_7]; decide) (by rw [ka_7]; decide) (by rw [ka_7]; decide) (by rw [ka_7]; decide) (by rw [ka_7]; decide) (by rw [ka_7]; decide) (by rw [ka_7]; decide) (by rw [ka_7]; decide) (by rw [ka_7]; decide) (by rw [ka_7]; decide) (by rw [ka_7]; decide) (by rw [ka_7]; decide) (by rw [ka_7]; decide) (by rw [ka_7]; decide) (by rw [ka_7]; decide) (by rw [ka_7]; decide) (by rw [ka_7]; decide) (by rw [ka_7]; decide)]; exact hfo_40
                have hfr0 : ∀ b, kd b ≠ 0 → kd b ≠ 1 → kd b ≠ 3 → kd b ≠ 10 → kd b ≠ 507 → kd b ≠ 516 → kd b ≠ 517 → kd b ≠ 518 → kd b ≠ 519 → kd b ≠ 520 → kd b ≠ 521 → kd b ≠ 522 → kd b ≠ 523 → kd b ≠ 524 → kd b ≠ 525 → kd b ≠ 526 → kd b ≠ 527 → kd b ≠ 534 → kd b ≠ 535 → kd b ≠ 536 → kd b ≠ 537 → kd b ≠ 538 → f_246 b = f b := fun b q0 q1 q3 q10 q507 q516 q517 q518 q519 q520 q521 q522 q523 q524 q525 q526 q527 q534 q535 q536 q537 q538 => (hkc_247 b q0 q1 q3 q10 q507 q516 q517 q518 q519 q520 q521 q522 q523 q524 q525 q526 q527 q534 q535 q536 q537 q538).trans (hfr0 b q0 q1 q3 q10 q507 q516 q517 q518 q519 q520 q521 q522 q523 q524 q525 q526 q527 q534 q535 q536 q537 q538)
                have hrr1_0 : ∀ b, kd b = 1 → fldR (f_246 b) 0 = fldR (f b) 0 := fun b kb => (hrc_248 b kb).trans (hrr1_0 b kb)
                have hrr1_1 : ∀ b, kd b = 1 → fldR (f_246 b) 1 = fldR (f b) 1 := fun b kb => (hrc_249 b kb).trans (hrr1_1 b kb)
                have hrr3_0 : ∀ b, kd b = 3 → fldR (f_246 b) 0 = fldR (f b) 0 := fun b kb => (hrc_250 b kb).trans (hrr3_0 b kb)
                have hrr3_3 : ∀ b, kd b = 3 → fldR (f_246 b) 3 = fldR (f b) 3 := fun b kb => (hrc_251 b kb).trans (hrr3_3 b kb)
                have hT0 : trel kd 7 508 510 515 4 f_246 a_5 := hT0.keep (fun b q => hkc_247 b (by rw [q]; decide) (by rw [q]; decide) (by rw [q]; decide) (by rw [q]; decide) (by rw [q]; decide) (by rw [q]; decide) (by rw [q]; decide) (by rw [q]; decide) (by rw [q]; decide) (by rw [q]; decide) (by rw [q]; decide) (by rw [q]; decide) (by rw [q]; decide) (by rw [q]; decide) (by rw [q]; decide) (by rw [q]; decide) (by rw [q]; decide) (by rw [q]; decide) (by rw [q]; decide) (by rw [q]; decide) (by rw [q]; decide) (by rw [q]; decide)) (fun b q => hkc_247 b (by rw [q]; decide) (by rw [q]; decide) (by rw [q]; decide) (by rw [q]; decide) (by rw [q]; decide) (by rw [q]; decide) (by rw [q]; decide) (by rw [q]; decide) (by rw [q]; decide) (by rw [q]; decide) (by rw [q]; decide) (by rw [q]; decide) (by rw [q]; decide) (by rw [q]; decide) (by rw [q]; decide) (by rw [q]; decide) (by rw [q]; decide) (by rw [q]; decide) (by rw [q]; decide) (by rw [q]; decide) (by rw [q]; decide) (by rw [q]; decide)) (fun b q => hkc_247 b (by rw [q]; decide) (by rw [q]; decide) (by rw [q]; decide) (by rw [q]; decide) (by rw [q]; decide) (by rw [q]; decide) (by rw [q]; decide) (by rw [q]; decide) (by rw [q]; decide) (by rw [q]; decide) (by rw [q]; decide) (by rw [q]; decide) (by rw [q]; decide) (by rw [q]; decide) (by rw [q]; decide) (by rw [q]; decide) (by rw [q]; decide) (by rw [q]; decide) (by rw [q]; decide) (by rw [q]; decide) (by rw [q]; decide) (by rw [q]; decide)) (fun b q => hkc_247 b (by rw [q]; decide) (by rw [q]; decide) (by rw [q]; decide) (by rw [q]; decide) (by rw [q]; decide) (by rw [q]; decide) (by rw [q]; decide) (by rw [q]; decide) (by rw [q]; decide) (by rw [q]; decide) (by rw [q]; decide) (by rw [q]; decide) (by rw [q]; decide) (by rw [q]; decide) (by rw [q]; decide) (by rw [q]; decide) (by rw [q]; decide) (by rw [q]; decide) (by rw [q]; decide) (by rw [q]; decide) (by rw [q]; decide) (by rw [q]; decide)) (fun b q => congrArg (fun x => fldI x 1) (hkc_247 b (by rw [q]; decide) (by rw [q]; decide) (by rw [q]; decide) (by rw [q]; decide) (by rw [q]; decide) (by rw [q]; decide) (by rw [q]; decide) (by rw [q]; decide) (by rw [q]; decide) (by rw [q]; decide) (by rw [q]; decide) (by rw [q]; decide) (by rw [q]; decide) (by rw [q]; decide) (by rw [q]; decide) (by rw [q]; decide) (by rw [q]; decide) (by rw [q]; decide) (by rw [q]; decide) (by rw [q]; decide) (by rw [q]; decide) (by rw [q]; decide)))
                have hT2 : alrel kd f_246 o0 := hT2.keep (fun b q => congrArg (fun x => fldR x 2) (hkc_247 b (by rw [q]; decide) (by rw [q]; decide) (by rw [q]; decide) (by rw [q]; decide) (by rw [q]; decide) (by rw [q]; decide) (by rw [q]; decide) (by rw [q]; decide) (by rw [q]; decide) (by rw [q]; decide) (by rw [q]; decide) (by rw [q]; decide) (by rw [q]; decide) (by rw [q]; decide) (by rw [q]; decide) (by rw [q]; decide) (by rw [q]; decide) (by rw [q]; decide) (by rw [q]; decide) (by rw [q]; decide) (by rw [q]; decide) (by rw [q]; decide))) (fun b q => congrArg (fun x => fldR x 3) (hkc_247 b (by rw [q]; decide) (by rw [q]; decide) (by rw [q]; decide) (by rw [q]; decide) (by rw [q]; decide) (by rw [q]; decide) (by rw [q]; decide) (by rw [q]; decide) (by rw [q]; decide) (by rw [q]; decide) (by rw [q]; decide) (by rw [q]; decide) (by rw [q]; decide) (by rw [q]; decide) (by rw [q]; decide) (by rw [q]; decide) (by rw [q]; decide) (by rw [q]; decide) (by rw [q]; decide) (by rw [q]; decide) (by rw [q]; decide) (by rw [q]; decide))) (fun b q => hrc_250 b q)
                obtain ⟨a_258, a_259, a_260, a_261, a_262, v_263, v_264, v_265, v_266, v_267, v_268, v_269, a_270, a_271, a_272, v_273, a_274, a_275, hfo_257, ⟨ma_258, ka_258⟩, ⟨ma_259, ka_259⟩, ⟨ma_260, ka_260⟩, ⟨ma_261, ka_261⟩, ⟨ma_262, ka_262⟩, bv_263, bv_264, bv_265, ⟨ma_270, ka_270⟩, ⟨ma_271, ka_271⟩, ⟨ma_272, ka_272⟩, bv_273, ⟨ma_274, ka_274⟩, ⟨ma_275, ka_275⟩⟩ := un_3 (hG _ ma_4) ka_4
                have bv_266 : ((-2147483648) ≤ v_266.toInt ∧ v_266.toInt ≤ 2147483647) := ⟨i32_lo _, i32_hi _⟩
                have bv_267 : ((-2147483648) ≤ v_267.toInt ∧ v_267.toInt ≤ 2147483647) := ⟨i32_lo _, i32_hi _⟩
                have bv_268 : ((-2147483648) ≤ v_268.toInt ∧ v_268.toInt ≤ 2147483647) := ⟨i32_lo _, i32_hi _⟩
                have bv_269 : ((-2147483648) ≤ v_269.toInt ∧ v_269.toInt ≤ 2147483647) := ⟨i32_lo _, i32_hi _⟩
                obtain rfl : a_5 = a_258 := by have hk9 := hrr3_0 a_4 ka_4; rw [hfo_257, hfo_21] at hk9; exact (Option.some.inj hk9).symm
                obtain rfl : a_25 = a_261 := by have hk9 := hrr3_3 a_4 ka_4; rw [hfo_257, hfo_21] at hk9; exact (Option.some.inj hk9).symm
                have hT_276 := hTc_252 a_5 (by rw [hfo_257]; rfl)
                have hT_277 := hTc_253 a_25 (by rw [hfo_257]; rfl)
                refine lv_iload hx hb dX11_orders_84 (lv_at hl 0 rfl) ?_
                refine lv_if_eq (tgt := 102) hx hb dX11_orders_86 (by decide) (fun c_278 => ?_) (fun c_278 => ?_)
                · skip
                  rw [← Int32.toInt_inj, ti_0] at c_278
                  exfalso
                  omega
                · skip
                  rw [← Int32.toInt_inj, ti_0] at c_278
                  have hclc_279 : (10 ≤ p2.toInt ∧ p2.toInt ≤ 15) := by constructor <;> omega
                  refine lv_aload_n hx hb dX11_orders_89 rfl (lv_at hl 2 rfl) ?_
                  refine tk_getP (D := (dC, dI)) (ci := 11) (v := .ref a_12) (C := RX11) (T := TX11) (N := 19) hx hb hU inlX11 hown hK hP mo0 hfo_255 rfl 10 (by decide) (hU _ wd_38) (fun _ h9 => h9) rfl dX11_orders_90 ?_
                  obtain ⟨a_281, a_282, a_283, v_284, a_285, a_286, a_287, v_288, a_289, v_290, v_291, hfo_280, ⟨ma_281, ka_281⟩, ⟨ma_282, ka_282⟩, ⟨ma_283, ka_283⟩, bv_284, ⟨ma_285, ka_285⟩, ⟨ma_286, ka_286⟩, ⟨ma_287, ka_287⟩, ⟨ma_289, ka_289⟩⟩ := un_0 (hG _ ma_12) ka_12
                  have bv_288 : ((-2147483648) ≤ v_288.toInt ∧ v_288.toInt ≤ 2147483647) := ⟨i32_lo _, i32_hi _⟩
                  have bv_290 : ((-2147483648) ≤ v_290.toInt ∧ v_290.toInt ≤ 2147483647) := ⟨i32_lo _, i32_hi _⟩
                  have bv_291 : ((-2147483648) ≤ v_291.toInt ∧ v_291.toInt ≤ 2147483647) := ⟨i32_lo _, i32_hi _⟩
                  refine tk_getP (D := (dC, dI)) (ci := 0) (v := .ref a_287) (C := RX0) (T := TX0) (N := 11) hx hb hU inlX0 hown hK hP ma_12 hfo_280 rfl 6 (by decide) (hU _ wd_1181) (fun _ h9 => h9) rfl dX11_orders_93 ?_
                  refine lv_iload_n hx hb dX11_orders_96 rfl (lv_at hl 4 rfl) ?_
                  refine lv_bipush (v := 10) hx hb dX11_orders_97 (by decide) ?_
                  refine lv_isub hx hb dX11_orders_99 ?_
                  refine lv_topi (fun x_292 ex_292 => ?_)
                  have hx_292 : x_292.toInt = p2.toInt - 10 := by rw [ex_292, sb_I (by rw [ti_10]; omega) (by rw [ti_10]; omega), ti_10]
                  have bx_292 : (0 ≤ x_292.toInt ∧ x_292.toInt ≤ 5) := by constructor <;> omega
                  obtain ⟨g_294, hfo_293, hbg_294⟩ := un_536 (hG _ ma_287) ka_287
                  refine tk_ildP hx hb hK hP 0 ma_287 hfo_293 rfl (vp_in_iff.mpr (by constructor <;> omega)) dX11_orders_100 ?_
                  refine lv_topi (fun x_295 ex_295 => ?_)
                  have bx_295 : (0 ≤ x_295.toInt ∧ x_295.toInt ≤ 7) := by rw [ex_295]; exact hbg_294 _
                  exact W.iret (v := x_295) hx hb hr (fun t ht hW => ⟨⟨x_295, f_246, rfl, ⟨hG, (by constructor <;> omega), hfr0, hrr1_0, hrr1_1, hrr3_0, hrr3_3, (fun d9 h9 => by rw [hfo_255] at h9; obtain rfl := Option.some.inj h9; exact hT_276), (fun r9 d9 h8 h9 => by rw [hfo_255] at h8; obtain rfl := Option.some.inj h8; rw [hfo_257] at h9; obtain rfl := Option.some.inj h9; exact hT_277), hT2⟩, by rw [ht]; exact hP, va_K.moved hW.alike hK, pl_in hD⟩, hS.F ht⟩) hS.2.2 dX11_orders_101
              · skip
                rw [← Int32.toInt_inj, ti_0] at c_232
                refine lv_iconst (v := (-1)) hx hb dX11_orders_62 (by decide) ?_
                exact W.iret (v := (-1)) hx hb hr (fun t ht hW => ⟨⟨(-1), f, rfl, ⟨hG, (by decide), hfr0, hrr1_0, hrr1_1, hrr3_0, hrr3_3, (fun d9 h9 => by rw [hfo_1] at h9; obtain rfl := Option.some.inj h9; exact hT0), (fun r9 d9 h8 h9 => by rw [hfo_1] at h8; obtain rfl := Option.some.inj h8; rw [hfo_21] at h9; obtain rfl := Option.some.inj h9; exact hT1), hT2⟩, by rw [ht]; exact hP, va_K.moved hW.alike hK, pl_in hD⟩, hS.F ht⟩) hS.2.2 dX11_orders_63
  refine lv_icmp_lt (tgt := 29) hx hb dX11_orders_14 (by decide) (fun c_296 => ?_) (fun c_296 => ?_)
  · skip
    rw [Int32.lt_iff_toInt_lt, ti_10] at c_296
    refine lv_iconst (v := 0) hx hb dX11_orders_29 (by decide) ?_
    exact hcut_54 0 (by decide) (by (try rw [ti_0]) <;> omega) ls (lv_sub hl [0, 1, 2, 3] rfl)
  · skip
    rw [Int32.lt_iff_toInt_lt, ti_10] at c_296
    refine lv_iload_n hx hb dX11_orders_17 rfl (lv_at hl 3 rfl) ?_
    refine lv_bipush (v := 10) hx hb dX11_orders_18 (by decide) ?_
    refine lv_isub hx hb dX11_orders_20 ?_
    refine lv_topi (fun x_297 ex_297 => ?_)
    have hx_297 : x_297.toInt = p2.toInt - 10 := by rw [ex_297, sb_I (by rw [ti_10]; omega) (by rw [ti_10]; omega), ti_10]
    have bx_297 : (0 ≤ x_297.toInt ∧ x_297.toInt ≤ 2147483637) := by constructor <;> omega
    refine lv_iload_n hx hb dX11_orders_21 rfl (lv_at hl 0 rfl) ?_
    refine lv_icmp_ge (tgt := 29) hx hb dX11_orders_22 (by decide) (fun c_298 => ?_) (fun c_298 => ?_)
    · skip
      rw [Int32.le_iff_toInt_le] at c_298
      refine lv_iconst (v := 0) hx hb dX11_orders_29 (by decide) ?_
      exact hcut_54 0 (by decide) (by (try rw [ti_0]) <;> omega) ls (lv_sub hl [0, 1, 2, 3] rfl)
    · skip
      rw [Int32.le_iff_toInt_le] at c_298
      refine lv_iconst (v := 1) hx hb dX11_orders_25 (by decide) ?_
      refine lv_goto (tgt := 30) hx hb dX11_orders_26 (by decide) ?_
      exact hcut_54 1 (by decide) (by (try rw [ti_1]) <;> omega) ls (lv_sub hl [0, 1, 2, 3] rfl)
