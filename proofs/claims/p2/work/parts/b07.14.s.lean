set_option maxHeartbeats 8000000 in
set_option maxRecDepth 100000 in
theorem s_X11_lives_k11 (l : Launch) (D : va_G) (cI cL cZ cR cG cH : ClassId) (Z : zT) (kd : Nat → Nat) (L : List Nat) (f : Nat → va_E) (hG : GI (okc cI cL cZ cR cG cH L kd) kd L f) (o0 : Nat) (mo0 : o0 ∈ L) (ko0 : kd o0 = 11) (p1 : Int32) (p2 : Int32) (p3 : Int32) (hxtr0 : ∀ r9 d9, fldR (f o0) 2 = some r9 → fldR (f r9) 3 = some d9 → drel kd 1 521 522 f d9) : mPI l D cI cL cZ cR cG cH Z yX11_lives cX11_lives 8 (some .int) 16 541 [.ref o0, .int p1, .int p2, .int p3] L f (fun (r : Int32) (f9 : Nat → va_E) => GI (okc cI cL cZ cR cG cH L kd) kd L f9 ∧ ((-2147483648) ≤ r.toInt ∧ r.toInt ≤ 2147483647) ∧ (∀ b, kd b ≠ 1 → kd b ≠ 3 → kd b ≠ 10 → kd b ≠ 507 → kd b ≠ 517 → kd b ≠ 518 → kd b ≠ 519 → kd b ≠ 520 → kd b ≠ 521 → kd b ≠ 522 → kd b ≠ 523 → kd b ≠ 524 → kd b ≠ 525 → kd b ≠ 526 → kd b ≠ 527 → f9 b = f b) ∧ (∀ b, kd b = 1 → fldR (f9 b) 0 = fldR (f b) 0) ∧ (∀ b, kd b = 1 → fldR (f9 b) 1 = fldR (f b) 1) ∧ (∀ b, kd b = 3 → fldR (f9 b) 0 = fldR (f b) 0) ∧ (∀ b, kd b = 3 → fldR (f9 b) 3 = fldR (f b) 3) ∧ (∀ r9 d9, fldR (f9 o0) 2 = some r9 → fldR (f9 r9) 3 = some d9 → drel kd 1 521 522 f9 d9)) := by
  obtain ⟨dC, dI⟩ := D
  refine Met.ofW (cc := cX11_lives) (maxL := 8) (ret := (some .int)) (by decide) rfl ?_
  intro p e s m args below meth c s₁ B hml hv
  obtain ⟨rfl, hP, hK, hD0, hN, hZ⟩ := hv
  have hx := B.exec
  have hb := B.bytes
  have hr := B.returns
  have hU : ∀ w ∈ wsU, w.before _ s = true := fun w h => atoms_spec (ws := wU yX11_lives cX11_lives 8 (some .int)) B.pre w (List.mem_cons_of_mem _ h)
  have hown : s.vm.findClass RX11 = some m.cls := findClass_of_methodNamed B.named
  have hlocks := B.notSynchronized
  have hD := pl_in hD0
  have hS : va_S (fun q => q ∈ L) s.heap s.heap [] := va_S.rf
  have hl := lv_entry ([.ref o0, .int p1, .int p2, .int p3]) (n := 8) (Nat.le_of_ble_eq_true rfl)
  rw [lg_entry_eq]
  generalize (lg_sl ([.ref o0, .int p1, .int p2, .int p3]) ++ List.replicate (8 - (lg_sl ([.ref o0, .int p1, .int p2, .int p3])).length) Slot.unset).toArray = ls at hl ⊢
  have hl : lv_has ls 8 [(0, .ref o0), (1, .int p1), (2, .int p2), (3, .int p3)] := hl
  have bp1 : ((-2147483648) ≤ p1.toInt ∧ p1.toInt ≤ 2147483647) := ⟨i32_lo _, i32_hi _⟩
  have bp2 : ((-2147483648) ≤ p2.toInt ∧ p2.toInt ≤ 2147483647) := ⟨i32_lo _, i32_hi _⟩
  have bp3 : ((-2147483648) ≤ p3.toInt ∧ p3.toInt ≤ 2147483647) := ⟨i32_lo _, i32_hi _⟩
  have hfr0 : ∀ b, kd b ≠ 1 → kd b ≠ 3 → kd b ≠ 10 → kd b ≠ 507 → kd b ≠ 517 → kd b ≠ 518 → kd b ≠ 519 → kd b ≠ 520 → kd b ≠ 521 → kd b ≠ 522 → kd b ≠ 523 → kd b ≠ 524 → kd b ≠ 525 → kd b ≠ 526 → kd b ≠ 527 → f b = f b := fun _ _ _ _ _ _ _ _ _ _ _ _ _ _ _ _ => rfl
  have hrr1_0 : ∀ b, kd b = 1 → fldR (f b) 0 = fldR (f b) 0 := fun _ _ => rfl
  have hrr1_1 : ∀ b, kd b = 1 → fldR (f b) 1 = fldR (f b) 1 := fun _ _ => rfl
  have hrr3_0 : ∀ b, kd b = 3 → fldR (f b) 0 = fldR (f b) 0 := fun _ _ => rfl
  have hrr3_3 : ∀ b, kd b = 3 → fldR (f b) 3 = fldR (f b) 3 := fun _ _ => rfl
  obtain ⟨a_2, v_3, a_4, a_5, a_6, a_7, a_8, a_9, v_10, a_11, a_12, a_13, v_14, v_15, a_16, v_17, a_18, a_19, v_20, hfo_1, ⟨ma_2, ka_2⟩, bv_3, ⟨ma_4, ka_4⟩, ⟨ma_5, ka_5⟩, ⟨ma_6, ka_6⟩, ⟨ma_7, ka_7⟩, ⟨ma_8, ka_8⟩, ⟨ma_9, ka_9⟩, bv_10, ⟨ma_11, ka_11⟩, ⟨ma_12, ka_12⟩, ⟨ma_13, ka_13⟩, bv_14, ⟨ma_16, ka_16⟩, bv_17, ⟨ma_18, ka_18⟩, ⟨ma_19, ka_19⟩⟩ := un_11 (hG _ mo0) ko0
  have bv_15 : ((-2147483648) ≤ v_15.toInt ∧ v_15.toInt ≤ 2147483647) := ⟨i32_lo _, i32_hi _⟩
  have bv_20 : ((-2147483648) ≤ v_20.toInt ∧ v_20.toInt ≤ 2147483647) := ⟨i32_lo _, i32_hi _⟩
  obtain ⟨a_22, a_23, a_24, a_25, a_26, v_27, v_28, v_29, v_30, v_31, v_32, v_33, a_34, a_35, a_36, v_37, a_38, a_39, hfo_21, ⟨ma_22, ka_22⟩, ⟨ma_23, ka_23⟩, ⟨ma_24, ka_24⟩, ⟨ma_25, ka_25⟩, ⟨ma_26, ka_26⟩, bv_27, bv_28, bv_29, ⟨ma_34, ka_34⟩, ⟨ma_35, ka_35⟩, ⟨ma_36, ka_36⟩, bv_37, ⟨ma_38, ka_38⟩, ⟨ma_39, ka_39⟩⟩ := un_3 (hG _ ma_4) ka_4
  have bv_30 : ((-2147483648) ≤ v_30.toInt ∧ v_30.toInt ≤ 2147483647) := ⟨i32_lo _, i32_hi _⟩
  have bv_31 : ((-2147483648) ≤ v_31.toInt ∧ v_31.toInt ≤ 2147483647) := ⟨i32_lo _, i32_hi _⟩
  have bv_32 : ((-2147483648) ≤ v_32.toInt ∧ v_32.toInt ≤ 2147483647) := ⟨i32_lo _, i32_hi _⟩
  have bv_33 : ((-2147483648) ≤ v_33.toInt ∧ v_33.toInt ≤ 2147483647) := ⟨i32_lo _, i32_hi _⟩
  have hT0 := hxtr0 a_4 a_25 (by rw [hfo_1]; rfl) (by rw [hfo_21]; rfl)
  refine lv_aload_n hx hb dX11_lives_0 rfl (lv_at hl 0 rfl) ?_
  refine tk_getP (D := (dC, dI)) (ci := 11) (v := .ref a_5) (C := RX11) (T := TX11) (N := 19) hx hb hU inlX11 hown hK hP mo0 hfo_1 rfl 3 (by decide) (hU _ wd_19) (fun _ h9 => h9) rfl dX11_lives_1 ?_
  refine lv_iload_n hx hb dX11_lives_4 rfl (lv_at hl 1 rfl) ?_
  refine lv_iload_n hx hb dX11_lives_5 rfl (lv_at hl 2 rfl) ?_
  obtain ⟨a_41, v_42, a_43, a_44, a_45, a_46, v_47, a_48, a_49, a_50, a_51, a_52, v_53, a_54, a_55, a_56, hfo_40, ⟨ma_41, ka_41⟩, bv_42, ⟨ma_43, ka_43⟩, ⟨ma_44, ka_44⟩, ⟨ma_45, ka_45⟩, ⟨ma_46, ka_46⟩, bv_47, ⟨ma_48, ka_48⟩, ⟨ma_49, ka_49⟩, ⟨ma_50, ka_50⟩, ⟨ma_51, ka_51⟩, ⟨ma_52, ka_52⟩, bv_53, ⟨ma_54, ka_54⟩, ⟨ma_55, ka_55⟩, ⟨ma_56, ka_56⟩⟩ := un_7 (hG _ ma_5) ka_5
  refine tk_ViP (As := [.int p1, .int p2]) (rest := []) (n := 2) hx hb hml hown hU hN hZ (s_X7_pairOf_k7 l (dC, dI) cI cL cZ cR cG cH Z kd L f hG a_5 ma_5 ka_5 p1 p2) wd_1079 wd_393 wd_394 wd_28 wd_395 (by decide +kernel) ⟨Nat.le_of_ble_eq_true rfl, Nat.le_of_ble_eq_true rfl⟩ hK hP hD hS ma_5 hfo_40 7 rfl rfl rfl hl.1 rfl (Nat.le_of_ble_eq_true rfl) dX11_lives_6 ⟨Nat.le_of_ble_eq_true rfl, Nat.le_of_ble_eq_true rfl⟩ (fun x_57 f_58 H locs hw hP hD hS => ?_)
  obtain ⟨rfl, bx_57⟩ := hw
  refine lv_istore (lv' := [(4, .int x_57), (0, .ref o0), (1, .int p1), (2, .int p2), (3, .int p3)]) hx hb dX11_lives_9 hl (by decide) rfl (fun ls hl => ?_)
  refine lv_iload hx hb dX11_lives_11 (lv_at hl 0 rfl) ?_
  refine lv_iconst (v := (-1)) hx hb dX11_lives_13 (by decide) ?_
  refine lv_icmp_eq (tgt := 27) hx hb dX11_lives_14 (by decide) (fun c_60 => ?_) (fun c_60 => ?_)
  · skip
    rw [← Int32.toInt_inj, ti_m1] at c_60
    refine lv_iconst (v := (-1)) hx hb dX11_lives_27 (by decide) ?_
    exact W.iret (v := (-1)) hx hb hr (fun t ht hW => ⟨⟨(-1), f, rfl, ⟨hG, (by decide), hfr0, hrr1_0, hrr1_1, hrr3_0, hrr3_3, (fun r9 d9 h8 h9 => by rw [hfo_1] at h8; obtain rfl := Option.some.inj h8; rw [hfo_21] at h9; obtain rfl := Option.some.inj h9; exact hT0)⟩, by rw [ht]; exact hP, va_K.moved hW.alike hK, pl_in hD⟩, hS.F ht⟩) hS.2.2 dX11_lives_28
  · skip
    rw [← Int32.toInt_inj, ti_m1] at c_60
    refine lv_iload_n hx hb dX11_lives_17 rfl (lv_at hl 4 rfl) ?_
    refine lv_iconst (v := 1) hx hb dX11_lives_18 (by decide) ?_
    refine lv_icmp_lt (tgt := 27) hx hb dX11_lives_19 (by decide) (fun c_61 => ?_) (fun c_61 => ?_)
    · skip
      rw [Int32.lt_iff_toInt_lt, ti_1] at c_61
      refine lv_iconst (v := (-1)) hx hb dX11_lives_27 (by decide) ?_
      exact W.iret (v := (-1)) hx hb hr (fun t ht hW => ⟨⟨(-1), f, rfl, ⟨hG, (by decide), hfr0, hrr1_0, hrr1_1, hrr3_0, hrr3_3, (fun r9 d9 h8 h9 => by rw [hfo_1] at h8; obtain rfl := Option.some.inj h8; rw [hfo_21] at h9; obtain rfl := Option.some.inj h9; exact hT0)⟩, by rw [ht]; exact hP, va_K.moved hW.alike hK, pl_in hD⟩, hS.F ht⟩) hS.2.2 dX11_lives_28
    · skip
      rw [Int32.lt_iff_toInt_lt, ti_1] at c_61
      refine lv_iload_n hx hb dX11_lives_22 rfl (lv_at hl 4 rfl) ?_
      refine lv_iconst (v := 3) hx hb dX11_lives_23 (by decide) ?_
      refine lv_icmp_le (tgt := 29) hx hb dX11_lives_24 (by decide) (fun c_62 => ?_) (fun c_62 => ?_)
      · skip
        rw [Int32.le_iff_toInt_le, ti_3] at c_62
        refine lv_iconst (v := 1) hx hb dX11_lives_29 (by decide) ?_
        refine lv_istore (lv' := [(5, .int 1), (4, .int x_57), (0, .ref o0), (1, .int p1), (2, .int p2), (3, .int p3)]) hx hb dX11_lives_30 hl (by decide) rfl (fun ls hl => ?_)
        refine lv_iconst (v := 1) hx hb dX11_lives_32 (by decide) ?_
        refine lv_istore (lv' := [(6, .int 1), (5, .int 1), (4, .int x_57), (0, .ref o0), (1, .int p1), (2, .int p2), (3, .int p3)]) hx hb dX11_lives_33 hl (by decide) rfl (fun ls hl => ?_)
        have hloop_71 : ∀ (n : Nat), ∀ (y_72 : Int32), (1 ≤ y_72.toInt ∧ y_72.toInt ≤ 4) → ∀ (y_73 : Int32), (0 ≤ y_73.toInt ∧ y_73.toInt ≤ 512) → ∀ (f_75 : Nat → va_E), GI (okc cI cL cZ cR cG cH L kd) kd L f_75 → ∀ (H : Heap) (locs : List Loc), va_P (dC, dI) vwCl (va_pl L f_75) H → va_S (fun q => q ∈ L) s.heap H locs → va_D (fun q => q ∈ L) (va_pl L f_75) → (∀ b, kd b ≠ 1 → kd b ≠ 3 → kd b ≠ 10 → kd b ≠ 507 → kd b ≠ 517 → kd b ≠ 518 → kd b ≠ 519 → kd b ≠ 520 → kd b ≠ 521 → kd b ≠ 522 → kd b ≠ 523 → kd b ≠ 524 → kd b ≠ 525 → kd b ≠ 526 → kd b ≠ 527 → f_75 b = f b) → (∀ b, kd b = 1 → fldR (f_75 b) 0 = fldR (f b) 0) → (∀ b, kd b = 1 → fldR (f_75 b) 1 = fldR (f b) 1) → (∀ b, kd b = 3 → fldR (f_75 b) 0 = fldR (f b) 0) → (∀ b, kd b = 3 → fldR (f_75 b) 3 = fldR (f b) 3) → (f_75 o0 = .inr (11, [.ref a_2, .int v_3, .ref a_4, .ref a_5, .ref a_6, .ref a_7, .ref a_8, .ref a_9, .int v_10, .ref a_11, .ref a_12, .ref a_13, .int v_14, .int v_15, .ref a_16, .int v_17, .ref a_18, .ref a_19, .int v_20])) → (f_75 a_5 = .inr (7, [.ref a_41, .int v_42, .ref a_43, .ref a_44, .ref a_45, .ref a_46, .int v_47, .ref a_48, .ref a_49, .ref a_50, .ref a_51, .ref a_52, .int v_53, .ref a_54, .ref a_55, .ref a_56])) → drel kd 1 521 522 f_75 a_25 → ((y_72.toInt = 1 ∧ y_73.toInt ≤ 1) ∨ (y_72.toInt = 2 ∧ y_73.toInt ≤ 8) ∨ (y_72.toInt = 3 ∧ y_73.toInt ≤ 64) ∨ (y_72.toInt = 4 ∧ y_73.toInt ≤ 512)) → 4 - y_72.toInt < (n : Int) → ∀ (ls : Array Slot), lv_has ls 8 [(6, .int y_72), (5, .int y_73), (4, .int x_57), (0, .ref o0), (1, .int p1), (2, .int p2), (3, .int p3)] → W p l e (headSpec (wU yX11_lives cX11_lives 8 (some .int)) { frames := 16, cells := 0, slots := 0, locals := 541 }).room s m [.ref o0, .int p1, .int p2, .int p3].toArray below meth c H locs 0 0 (MQ below (va_Qi (fun (r : Int32) (f9 : Nat → va_E) => GI (okc cI cL cZ cR cG cH L kd) kd L f9 ∧ ((-2147483648) ≤ r.toInt ∧ r.toInt ≤ 2147483647) ∧ (∀ b, kd b ≠ 1 → kd b ≠ 3 → kd b ≠ 10 → kd b ≠ 507 → kd b ≠ 517 → kd b ≠ 518 → kd b ≠ 519 → kd b ≠ 520 → kd b ≠ 521 → kd b ≠ 522 → kd b ≠ 523 → kd b ≠ 524 → kd b ≠ 525 → kd b ≠ 526 → kd b ≠ 527 → f9 b = f b) ∧ (∀ b, kd b = 1 → fldR (f9 b) 0 = fldR (f b) 0) ∧ (∀ b, kd b = 1 → fldR (f9 b) 1 = fldR (f b) 1) ∧ (∀ b, kd b = 3 → fldR (f9 b) 0 = fldR (f b) 0) ∧ (∀ b, kd b = 3 → fldR (f9 b) 3 = fldR (f b) 3) ∧ (∀ r9 d9, fldR (f9 o0) 2 = some r9 → fldR (f9 r9) 3 = some d9 → drel kd 1 521 522 f9 d9)) (qP (dC, dI) cI cL cZ cR cG cH L) (fun q => q ∈ L)) [.ref o0, .int p1, .int p2, .int p3].toArray s 0 0 (fun q => q ∈ L)) (F0 m 35 ls []) := by
          intro n
          induction n with
          | zero => intro y_72 by_72 y_73 by_73 f_75 hG H locs hP hS hD hfr0 hrr1_0 hrr1_1 hrr3_0 hrr3_3 hfo_76 hfo_77 hT0 hrelhloop_71_0 hmuhloop_71 ls hl; exfalso; omega
          | succ n ih_hloop_71 =>
            intro y_72 by_72 y_73 by_73 f_75 hG H locs hP hS hD hfr0 hrr1_0 hrr1_1 hrr3_0 hrr3_3 hfo_76 hfo_77 hT0 hrelhloop_71_0 hmuhloop_71 ls hl
            refine lv_iload hx hb dX11_lives_35 (lv_at hl 0 rfl) ?_
            refine lv_iload_n hx hb dX11_lives_37 rfl (lv_at hl 6 rfl) ?_
            refine lv_icmp_gt (tgt := 114) hx hb dX11_lives_38 (by decide) (fun c_78 => ?_) (fun c_78 => ?_)
            · skip
              rw [Int32.lt_iff_toInt_lt] at c_78
              refine lv_iconst (v := 0) hx hb dX11_lives_114 (by decide) ?_
              obtain ⟨a_80, a_81, a_82, a_83, a_84, v_85, v_86, v_87, v_88, v_89, v_90, v_91, a_92, a_93, a_94, v_95, a_96, a_97, hfo_79, ⟨ma_80, ka_80⟩, ⟨ma_81, ka_81⟩, ⟨ma_82, ka_82⟩, ⟨ma_83, ka_83⟩, ⟨ma_84, ka_84⟩, bv_85, bv_86, bv_87, ⟨ma_92, ka_92⟩, ⟨ma_93, ka_93⟩, ⟨ma_94, ka_94⟩, bv_95, ⟨ma_96, ka_96⟩, ⟨ma_97, ka_97⟩⟩ := un_3 (hG _ ma_4) ka_4
              have bv_88 : ((-2147483648) ≤ v_88.toInt ∧ v_88.toInt ≤ 2147483647) := ⟨i32_lo _, i32_hi _⟩
              have bv_89 : ((-2147483648) ≤ v_89.toInt ∧ v_89.toInt ≤ 2147483647) := ⟨i32_lo _, i32_hi _⟩
              have bv_90 : ((-2147483648) ≤ v_90.toInt ∧ v_90.toInt ≤ 2147483647) := ⟨i32_lo _, i32_hi _⟩
              have bv_91 : ((-2147483648) ≤ v_91.toInt ∧ v_91.toInt ≤ 2147483647) := ⟨i32_lo _, i32_hi _⟩
              obtain rfl : a_22 = a_80 := by have hk9 := hrr3_0 a_4 ka_4; rw [hfo_79, hfo_21] at hk9; exact (Option.some.inj hk9).symm
              obtain rfl : a_25 = a_83 := by have hk9 := hrr3_3 a_4 ka_4; rw [hfo_79, hfo_21] at hk9; exact (Option.some.inj hk9).symm
              exact W.iret (v := 0) hx hb hr (fun t ht hW => ⟨⟨0, f_75, rfl, ⟨hG, (by decide), hfr0, hrr1_0, hrr1_1, hrr3_0, hrr3_3, (fun r9 d9 h8 h9 => by rw [hfo_76] at h8; obtain rfl := Option.some.inj h8; rw [hfo_79] at h9; obtain rfl := Option.some.inj h9; exact hT0)⟩, by rw [ht]; exact hP, va_K.moved hW.alike hK, pl_in hD⟩, hS.F ht⟩) hS.2.2 dX11_lives_115
            · skip
              rw [Int32.lt_iff_toInt_lt] at c_78
              refine lv_iload hx hb dX11_lives_41 (lv_at hl 1 rfl) ?_
              refine lv_aload_n hx hb dX11_lives_43 rfl (lv_at hl 3 rfl) ?_
              refine tk_getP (D := (dC, dI)) (ci := 11) (v := .ref a_5) (C := RX11) (T := TX11) (N := 19) hx hb hU inlX11 hown hK hP mo0 hfo_76 rfl 3 (by decide) (hU _ wd_19) (fun _ h9 => h9) rfl dX11_lives_44 ?_
              refine tk_getP (D := (dC, dI)) (ci := 7) (v := .int v_42) (C := RX7) (T := TX7) (N := 16) hx hb hU inlX7 hown hK hP ma_5 hfo_77 rfl 1 (by decide) (hU _ wd_1151) (fun _ h9 => h9) rfl dX11_lives_47 ?_
              refine lv_imul hx hb dX11_lives_50 ?_
              refine lv_topi (fun x_98 ex_98 => ?_)
              have bx_98 : (0 ≤ x_98.toInt ∧ x_98.toInt ≤ 4096) := by rw [ex_98]; exact ml_B (a := 512) (b := 8) (by constructor <;> omega) (by constructor <;> omega) (by decide)
              have hm8x_98 : 0 ≤ x_98.toInt ∧ x_98.toInt ≤ 8 * y_73.toInt := by rw [ex_98]; exact ml_8r (m := 512) (by decide) (by constructor <;> omega) (by constructor <;> omega)
              have hclx_98 : (0 ≤ x_98.toInt ∧ x_98.toInt ≤ 512) := by constructor <;> omega
              refine lv_istore (lv' := [(5, .int x_98), (6, .int y_72), (4, .int x_57), (0, .ref o0), (1, .int p1), (2, .int p2), (3, .int p3)]) hx hb dX11_lives_51 hl (by decide) rfl (fun ls hl => ?_)
              refine lv_iconst (v := 0) hx hb dX11_lives_53 (by decide) ?_
              refine lv_istore (lv' := [(7, .int 0), (5, .int x_98), (6, .int y_72), (4, .int x_57), (0, .ref o0), (1, .int p1), (2, .int p2), (3, .int p3)]) hx hb dX11_lives_54 hl (by decide) rfl (fun ls hl => ?_)
              have hloop_105 : ∀ (n : Nat), ∀ (y_106 : Int32), (0 ≤ y_106.toInt ∧ y_106.toInt ≤ 512) → ∀ (f_108 : Nat → va_E), GI (okc cI cL cZ cR cG cH L kd) kd L f_108 → ∀ (H : Heap) (locs : List Loc), va_P (dC, dI) vwCl (va_pl L f_108) H → va_S (fun q => q ∈ L) s.heap H locs → va_D (fun q => q ∈ L) (va_pl L f_108) → (∀ b, kd b ≠ 1 → kd b ≠ 3 → kd b ≠ 10 → kd b ≠ 507 → kd b ≠ 517 → kd b ≠ 518 → kd b ≠ 519 → kd b ≠ 520 → kd b ≠ 521 → kd b ≠ 522 → kd b ≠ 523 → kd b ≠ 524 → kd b ≠ 525 → kd b ≠ 526 → kd b ≠ 527 → f_108 b = f b) → (∀ b, kd b = 1 → fldR (f_108 b) 0 = fldR (f b) 0) → (∀ b, kd b = 1 → fldR (f_108 b) 1 = fldR (f b) 1) → (∀ b, kd b = 3 → fldR (f_108 b) 0 = fldR (f b) 0) → (∀ b, kd b = 3 → fldR (f_108 b) 3 = fldR (f b) 3) → (f_108 o0 = .inr (11, [.ref a_2, .int v_3, .ref a_4, .ref a_5, .ref a_6, .ref a_7, .ref a_8, .ref a_9, .int v_10, .ref a_11, .ref a_12, .ref a_13, .int v_14, .int v_15, .ref a_16, .int v_17, .ref a_18, .ref a_19, .int v_20])) → (f_108 a_5 = .inr (7, [.ref a_41, .int v_42, .ref a_43, .ref a_44, .ref a_45, .ref a_46, .int v_47, .ref a_48, .ref a_49, .ref a_50, .ref a_51, .ref a_52, .int v_53, .ref a_54, .ref a_55, .ref a_56])) → drel kd 1 521 522 f_108 a_25 → 512 - y_106.toInt < (n : Int) → ∀ (ls : Array Slot), lv_has ls 8 [(7, .int y_106), (5, .int x_98), (6, .int y_72), (4, .int x_57), (0, .ref o0), (1, .int p1), (2, .int p2), (3, .int p3)] → W p l e (headSpec (wU yX11_lives cX11_lives 8 (some .int)) { frames := 16, cells := 0, slots := 0, locals := 541 }).room s m [.ref o0, .int p1, .int p2, .int p3].toArray below meth c H locs 0 0 (MQ below (va_Qi (fun (r : Int32) (f9 : Nat → va_E) => GI (okc cI cL cZ cR cG cH L kd) kd L f9 ∧ ((-2147483648) ≤ r.toInt ∧ r.toInt ≤ 2147483647) ∧ (∀ b, kd b ≠ 1 → kd b ≠ 3 → kd b ≠ 10 → kd b ≠ 507 → kd b ≠ 517 → kd b ≠ 518 → kd b ≠ 519 → kd b ≠ 520 → kd b ≠ 521 → kd b ≠ 522 → kd b ≠ 523 → kd b ≠ 524 → kd b ≠ 525 → kd b ≠ 526 → kd b ≠ 527 → f9 b = f b) ∧ (∀ b, kd b = 1 → fldR (f9 b) 0 = fldR (f b) 0) ∧ (∀ b, kd b = 1 → fldR (f9 b) 1 = fldR (f b) 1) ∧ (∀ b, kd b = 3 → fldR (f9 b) 0 = fldR (f b) 0) ∧ (∀ b, kd b = 3 → fldR (f9 b) 3 = fldR (f b) 3) ∧ (∀ r9 d9, fldR (f9 o0) 2 = some r9 → fldR (f9 r9) 3 = some d9 → drel kd 1 521 522 f9 d9)) (qP (dC, dI) cI cL cZ cR cG cH L) (fun q => q ∈ L)) [.ref o0, .int p1, .int p2, .int p3].toArray s 0 0 (fun q => q ∈ L)) (F0 m 56 ls []) := by
                intro n
                induction n with
                | zero => intro y_106 by_106 f_108 hG H locs hP hS hD hfr0 hrr1_0 hrr1_1 hrr3_0 hrr3_3 hfo_109 hfo_110 hT0 hmuhloop_105 ls hl; exfalso; omega
                | succ n ih_hloop_105 =>
                  intro y_106 by_106 f_108 hG H locs hP hS hD hfr0 hrr1_0 hrr1_1 hrr3_0 hrr3_3 hfo_109 hfo_110 hT0 hmuhloop_105 ls hl
                  refine lv_iload hx hb dX11_lives_56 (lv_at hl 0 rfl) ?_
                  refine lv_iload hx hb dX11_lives_58 (lv_at hl 1 rfl) ?_
                  refine lv_icmp_ge (tgt := 108) hx hb dX11_lives_60 (by decide) (fun c_111 => ?_) (fun c_111 => ?_)
                  · skip
                    rw [Int32.le_iff_toInt_le] at c_111
                    obtain ⟨x_112, ex_112⟩ : ∃ y : Int32, y_72 + 1 = y := ⟨_, rfl⟩
                    have hx_112 : x_112.toInt = y_72.toInt + 1 := by rw [← ex_112, ad_I (by rw [ti_1]; omega) (by rw [ti_1]; omega), ti_1]
                    have bx_112 : (2 ≤ x_112.toInt ∧ x_112.toInt ≤ 4) := by constructor <;> omega
                    refine lv_iinc (v := x_112) (lv' := [(6, .int x_112), (7, .int y_106), (5, .int x_98), (4, .int x_57), (0, .ref o0), (1, .int p1), (2, .int p2), (3, .int p3)]) hx hb dX11_lives_108 hl (k := 2) rfl ex_112 (by decide) rfl (fun ls hl => ?_)
                    refine lv_goto (tgt := 35) hx hb dX11_lives_111 (by decide) ?_
                    exact ih_hloop_71 x_112 (by constructor <;> omega) x_98 (by constructor <;> omega) f_108 hG _ _ hP hS hD hfr0 hrr1_0 hrr1_1 hrr3_0 hrr3_3 hfo_109 hfo_110 hT0 (by omega) (by omega) ls (lv_sub hl [0, 2, 3, 4, 5, 6, 7] rfl)
                  · skip
                    rw [Int32.le_iff_toInt_le] at c_111
                    refine lv_aload_n hx hb dX11_lives_63 rfl (lv_at hl 4 rfl) ?_
                    refine tk_getP (D := (dC, dI)) (ci := 11) (v := .ref a_4) (C := RX11) (T := TX11) (N := 19) hx hb hU inlX11 hown hK hP mo0 hfo_109 rfl 2 (by decide) (hU _ wd_17) (fun _ h9 => h9) rfl dX11_lives_64 ?_
                    refine lv_iload hx hb dX11_lives_67 (lv_at hl 2 rfl) ?_
                    refine lv_iload hx hb dX11_lives_69 (lv_at hl 0 rfl) ?_
                    obtain ⟨a_114, a_115, a_116, a_117, a_118, v_119, v_120, v_121, v_122, v_123, v_124, v_125, a_126, a_127, a_128, v_129, a_130, a_131, hfo_113, ⟨ma_114, ka_114⟩, ⟨ma_115, ka_115⟩, ⟨ma_116, ka_116⟩, ⟨ma_117, ka_117⟩, ⟨ma_118, ka_118⟩, bv_119, bv_120, bv_121, ⟨ma_126, ka_126⟩, ⟨ma_127, ka_127⟩, ⟨ma_128, ka_128⟩, bv_129, ⟨ma_130, ka_130⟩, ⟨ma_131, ka_131⟩⟩ := un_3 (hG _ ma_4) ka_4
                    have bv_122 : ((-2147483648) ≤ v_122.toInt ∧ v_122.toInt ≤ 2147483647) := ⟨i32_lo _, i32_hi _⟩
                    have bv_123 : ((-2147483648) ≤ v_123.toInt ∧ v_123.toInt ≤ 2147483647) := ⟨i32_lo _, i32_hi _⟩
                    have bv_124 : ((-2147483648) ≤ v_124.toInt ∧ v_124.toInt ≤ 2147483647) := ⟨i32_lo _, i32_hi _⟩
                    have bv_125 : ((-2147483648) ≤ v_125.toInt ∧ v_125.toInt ≤ 2147483647) := ⟨i32_lo _, i32_hi _⟩
                    obtain rfl : a_22 = a_114 := by have hk9 := hrr3_0 a_4 ka_4; rw [hfo_113, hfo_21] at hk9; exact (Option.some.inj hk9).symm
                    obtain rfl : a_25 = a_117 := by have hk9 := hrr3_3 a_4 ka_4; rw [hfo_113, hfo_21] at hk9; exact (Option.some.inj hk9).symm
                    refine tk_VvP (As := [.int y_72, .int y_106]) (rest := []) (n := 2) hx hb hml hown hU hN hZ (s_X3_takeNumbered_k3 l (dC, dI) cI cL cZ cR cG cH Z kd L f_108 hG a_4 ma_4 ka_4 y_72 y_106 (by constructor <;> omega)) wd_1152 wd_1153 wd_1154 wd_16 wd_1155 (by decide +kernel) ⟨Nat.le_of_ble_eq_true rfl, Nat.le_of_ble_eq_true rfl⟩ hK hP hD hS ma_4 hfo_113 3 rfl rfl rfl hl.1 rfl (Nat.le_of_ble_eq_true rfl) dX11_lives_71 ⟨Nat.le_of_ble_eq_true rfl, Nat.le_of_ble_eq_true rfl⟩ (fun f_133 H locs hw hP hD hS => ?_)
                    obtain ⟨hG, hkc_134, hrc_135, hrc_136⟩ := hw
                    have hfo_138 : f_133 o0 = .inr (11, [.ref a_2, .int v_3, .ref a_4, .ref a_5, .ref a_6, .ref a_7, .ref a_8, .ref a_9, .int v_10, .ref a_11, .ref a_12, .ref a_13, .int v_14, .int v_15, .ref a_16, .int v_17, .ref a_18, .ref a_19, .int v_20]) := by rw [hkc_134 o0 (by rw [ko0]; decide) (by rw [ko0]; decide)]; exact hfo_109
                    have hfo_139 : f_133 a_5 = .inr (7, [.ref a_41, .int v_42, .ref a_43, .ref a_44, .ref a_45, .ref a_46, .int v_47, .ref a_48, .ref a_49, .ref a_50, .ref a_51, .ref a_52, .int v_53, .ref a_54, .ref a_55, .ref a_56]) := by rw [hkc_134 a_5 (by rw [ka_5]; decide) (by rw [ka_5]; decide)]; exact hfo_110
                    have hfr0 : ∀ b, kd b ≠ 1 → kd b ≠ 3 → kd b ≠ 10 → kd b ≠ 507 → kd b ≠ 517 → kd b ≠ 518 → kd b ≠ 519 → kd b ≠ 520 → kd b ≠ 521 → kd b ≠ 522 → kd b ≠ 523 → kd b ≠ 524 → kd b ≠ 525 → kd b ≠ 526 → kd b ≠ 527 → f_133 b = f b := fun b q1 q3 q10 q507 q517 q518 q519 q520 q521 q522 q523 q524 q525 q526 q527 => (hkc_134 b q3 q507).trans (hfr0 b q1 q3 q10 q507 q517 q518 q519 q520 q521 q522 q523 q524 q525 q526 q527)
                    have hrr1_0 : ∀ b, kd b = 1 → fldR (f_133 b) 0 = fldR (f b) 0 := fun b kb => (congrArg (fun x => fldR x 0) (hkc_134 b (by rw [kb]; decide) (by rw [kb]; decide))).trans (hrr1_0 b kb)
                    have hrr1_1 : ∀ b, kd b = 1 → fldR (f_133 b) 1 = fldR (f b) 1 := fun b kb => (congrArg (fun x => fldR x 1) (hkc_134 b (by rw [kb]; decide) (by rw [kb]; decide))).trans (hrr1_1 b kb)
                    have hrr3_0 : ∀ b, kd b = 3 → fldR (f_133 b) 0 = fldR (f b) 0 := fun b kb => (hrc_135 b kb).trans (hrr3_0 b kb)
                    have hrr3_3 : ∀ b, kd b = 3 → fldR (f_133 b) 3 = fldR (f b) 3 := fun b kb => (hrc_136 b kb).trans (hrr3_3 b kb)
                    have hT0 : drel kd 1 521 522 f_133 a_25 := hT0.keep (fun b q => congrArg (fun x => fldI x 5) (hkc_134 b (by rw [q]; decide) (by rw [q]; decide))) (fun b q => congrArg (fun x => fldR x 0) (hkc_134 b (by rw [q]; decide) (by rw [q]; decide))) (fun b q => congrArg (fun x => fldR x 1) (hkc_134 b (by rw [q]; decide) (by rw [q]; decide))) (fun b q => hkc_134 b (by rw [q]; decide) (by rw [q]; decide)) (fun b q => hkc_134 b (by rw [q]; decide) (by rw [q]; decide))
                    obtain ⟨a_141, a_142, a_143, a_144, a_145, v_146, v_147, v_148, v_149, v_150, v_151, v_152, a_153, a_154, a_155, v_156, a_157, a_158, hfo_140, ⟨ma_141, ka_141⟩, ⟨ma_142, ka_142⟩, ⟨ma_143, ka_143⟩, ⟨ma_144, ka_144⟩, ⟨ma_145, ka_145⟩, bv_146, bv_147, bv_148, ⟨ma_153, ka_153⟩, ⟨ma_154, ka_154⟩, ⟨ma_155, ka_155⟩, bv_156, ⟨ma_157, ka_157⟩, ⟨ma_158, ka_158⟩⟩ := un_3 (hG _ ma_4) ka_4
                    have bv_149 : ((-2147483648) ≤ v_149.toInt ∧ v_149.toInt ≤ 2147483647) := ⟨i32_lo _, i32_hi _⟩
                    have bv_150 : ((-2147483648) ≤ v_150.toInt ∧ v_150.toInt ≤ 2147483647) := ⟨i32_lo _, i32_hi _⟩
                    have bv_151 : ((-2147483648) ≤ v_151.toInt ∧ v_151.toInt ≤ 2147483647) := ⟨i32_lo _, i32_hi _⟩
                    have bv_152 : ((-2147483648) ≤ v_152.toInt ∧ v_152.toInt ≤ 2147483647) := ⟨i32_lo _, i32_hi _⟩
                    obtain rfl : a_22 = a_141 := by have hk9 := hrr3_0 a_4 ka_4; rw [hfo_140, hfo_21] at hk9; exact (Option.some.inj hk9).symm
                    obtain rfl : a_25 = a_144 := by have hk9 := hrr3_3 a_4 ka_4; rw [hfo_140, hfo_21] at hk9; exact (Option.some.inj hk9).symm
                    refine lv_aload_n hx hb dX11_lives_74 rfl (lv_at hl 4 rfl) ?_
                    refine tk_getP (D := (dC, dI)) (ci := 11) (v := .ref a_4) (C := RX11) (T := TX11) (N := 19) hx hb hU inlX11 hown hK hP mo0 hfo_138 rfl 2 (by decide) (hU _ wd_17) (fun _ h9 => h9) rfl dX11_lives_75 ?_
                    refine lv_iload hx hb dX11_lives_78 (lv_at hl 3 rfl) ?_
                    refine lv_aload_n hx hb dX11_lives_80 rfl (lv_at hl 4 rfl) ?_
                    refine tk_getP (D := (dC, dI)) (ci := 11) (v := .ref a_7) (C := RX11) (T := TX11) (N := 19) hx hb hU inlX11 hown hK hP mo0 hfo_138 rfl 5 (by decide) (hU _ wd_25) (fun _ h9 => h9) rfl dX11_lives_81 ?_
                    obtain ⟨v_160, v_161, a_162, a_163, a_164, v_165, a_166, a_167, a_168, hfo_159, bv_161, ⟨ma_162, ka_162⟩, ⟨ma_163, ka_163⟩, ⟨ma_164, ka_164⟩, ⟨ma_166, ka_166⟩, ⟨ma_167, ka_167⟩, ⟨ma_168, ka_168⟩⟩ := un_6 (hG _ ma_7) ka_7
                    have bv_160 : ((-2147483648) ≤ v_160.toInt ∧ v_160.toInt ≤ 2147483647) := ⟨i32_lo _, i32_hi _⟩
                    have bv_165 : ((-2147483648) ≤ v_165.toInt ∧ v_165.toInt ≤ 2147483647) := ⟨i32_lo _, i32_hi _⟩
                    refine tk_getP (D := (dC, dI)) (ci := 6) (v := .int v_160) (C := RX6) (T := TX6) (N := 9) hx hb hU inlX6 hown hK hP ma_7 hfo_159 rfl 0 (by decide) (hU _ wd_677) (fun _ h9 => h9) rfl dX11_lives_84 ?_
                    refine lv_aload_n hx hb dX11_lives_87 rfl (lv_at hl 4 rfl) ?_
                    refine tk_getP (D := (dC, dI)) (ci := 11) (v := .ref a_7) (C := RX11) (T := TX11) (N := 19) hx hb hU inlX11 hown hK hP mo0 hfo_138 rfl 5 (by decide) (hU _ wd_25) (fun _ h9 => h9) rfl dX11_lives_88 ?_
                    refine tk_getP (D := (dC, dI)) (ci := 6) (v := .int v_161) (C := RX6) (T := TX6) (N := 9) hx hb hU inlX6 hown hK hP ma_7 hfo_159 rfl 1 (by decide) (hU _ wd_694) (fun _ h9 => h9) rfl dX11_lives_91 ?_
                    refine tk_ViP (As := [.int x_57, .int v_160, .int v_161]) (rest := []) (n := 3) hx hb hml hown hU hN hZ (s_X3_hasAllowedRowWith_k3 l (dC, dI) cI cL cZ cR cG cH Z kd L f_133 hG a_4 ma_4 ka_4 x_57 (by constructor <;> omega) v_160 v_161 (fun d9 h9 => by rw [hfo_140] at h9; obtain rfl := Option.some.inj h9; exact hT0)) wd_1157 wd_1158 wd_1159 wd_16 wd_1160 (by decide +kernel) ⟨Nat.le_of_ble_eq_true rfl, Nat.le_of_ble_eq_true rfl⟩ hK hP hD hS ma_4 hfo_140 3 rfl rfl rfl hl.1 rfl (Nat.le_of_ble_eq_true rfl) dX11_lives_94 ⟨Nat.le_of_ble_eq_true rfl, Nat.le_of_ble_eq_true rfl⟩ (fun x_169 f_170 H locs hw hP hD hS => ?_)
                    obtain ⟨hG, bx_169, hkc_171, hrc_172, hrc_173, hrc_174, hrc_175, hTc_176⟩ := hw
                    have hfo_178 : f_170 o0 = .inr (11, [.ref a_2, .int v_3, .ref a_4, .ref a_5, .ref a_6, .ref a_7, .ref a_8, .ref a_9, .int v_10, .ref a_11, .ref a_12, .ref a_13, .int v_14, .int v_15, .ref a_16, .int v_17, .ref a_18, .ref a_19, .int v_20]) := by rw [hkc_171 o0 (by rw [ko0]; decide) (by rw [ko0]; decide) (by rw [ko0]; decide) (by rw [ko0]; decide) (by rw [ko0]; decide) (by rw [ko0]; decide) (by rw [ko0]; decide) (by rw [ko0]; decide) (by rw [ko0]; decide) (by rw [ko0]; decide) (by rw [ko0]; decide) (by rw [ko0]; decide) (by rw [ko0]; decide) (by rw [ko0]; decide)]; exact hfo_138
                    have hfo_179 : f_170 a_5 = .inr (7, [.ref a_41, .int v_42, .ref a_43, .ref a_44, .ref a_45, .ref a_46, .int v_47, .ref a_48, .ref a_49, .ref a_50, .ref a_51, .ref a_52, .int v_53, .ref a_54, .ref a_55, .ref a_56]) := by rw [hkc_171 a_5 (by rw [ka_5]; decide) (by rw [ka_5]; decide) (by rw [ka_5]; decide) (by rw [ka_5]; decide) (by rw [ka_5]; decide) (by rw [ka_5]; decide) (by rw [ka_5]; decide) (by rw [ka_5]; decide) (by rw [ka_5]; decide) (by rw [ka_5]; decide) (by rw [ka_5]; decide) (by rw [ka_5]; decide) (by rw [ka_5]; decide) (by rw [ka_5]; decide)]; exact hfo_139
                    have hfo_180 : f_170 a_7 = .inr (6, [.int v_160, .int v_161, .ref a_162, .ref a_163, .ref a_164, .int v_165, .ref a_166, .ref a_167, .ref a_168]) := by rw [hkc_171 a_7 (by rw [ka_7]; decide) (by rw [ka_7]; decide) (by rw [ka_7]; decide) (by rw [ka_7]; decide) (by rw [ka_7]; decide) (by rw [ka_7]; decide) (by rw [ka_7]; decide) (by rw [ka_7]; decide) (by rw [ka_7]; decide) (by rw [ka_7]; decide) (by rw [ka_7]; decide) (by rw [ka_7]; decide) (by rw [ka_7]; decide) (by rw [ka_7]; decide)]; exact hfo_159
                    have hfr0 : ∀ b, kd b ≠ 1 → kd b ≠ 3 → kd b ≠ 10 → kd b ≠ 507 → kd b ≠ 517 → kd b ≠ 518 → kd b ≠ 519 → kd b ≠ 520 → kd b ≠ 521 → kd b ≠ 522 → kd b ≠ 523 → kd b ≠ 524 → kd b ≠ 525 → kd b ≠ 526 → kd b ≠ 527 → f_170 b = f b := fun b q1 q3 q10 q507 q517 q518 q519 q520 q521 q522 q523 q524 q525 q526 q527 => (hkc_171 b q1 q3 q10 q517 q518 q519 q520 q521 q522 q523 q524 q525 q526 q527).trans (hfr0 b q1 q3 q10 q507 q517 q518 q519 q520 q521 q522 q523 q524 q525 q526 q527)
                    have hrr1_0 : ∀ b, kd b = 1 → fldR (f_170 b) 0 = fldR (f b) 0 := fun b kb => (hrc_172 b kb).trans (hrr1_0 b kb)
                    have hrr1_1 : ∀ b, kd b = 1 → fldR (f_170 b) 1 = fldR (f b) 1 := fun b kb => (hrc_173 b kb).trans (hrr1_1 b kb)
                    have hrr3_0 : ∀ b, kd b = 3 → fldR (f_170 b) 0 = fldR (f b) 0 := fun b kb => (hrc_174 b kb).trans (hrr3_0 b kb)
                    have hrr3_3 : ∀ b, kd b = 3 → fldR (f_170 b) 3 = fldR (f b) 3 := fun b kb => (hrc_175 b kb).trans (hrr3_3 b kb)
                    obtain ⟨a_182, a_183, a_184, a_185, a_186, v_187, v_188, v_189, v_190, v_191, v_192, v_193, a_194, a_195, a_196, v_197, a_198, a_199, hfo_181, ⟨ma_182, ka_182⟩, ⟨ma_183, ka_183⟩, ⟨ma_184, ka_184⟩, ⟨ma_185, ka_185⟩, ⟨ma_186, ka_186⟩, bv_187, bv_188, bv_189, ⟨ma_194, ka_194⟩, ⟨ma_195, ka_195⟩, ⟨ma_196, ka_196⟩, bv_197, ⟨ma_198, ka_198⟩, ⟨ma_199, ka_199⟩⟩ := un_3 (hG _ ma_4) ka_4
                    have bv_190 : ((-2147483648) ≤ v_190.toInt ∧ v_190.toInt ≤ 2147483647) := ⟨i32_lo _, i32_hi _⟩
                    have bv_191 : ((-2147483648) ≤ v_191.toInt ∧ v_191.toInt ≤ 2147483647) := ⟨i32_lo _, i32_hi _⟩
                    have bv_192 : ((-2147483648) ≤ v_192.toInt ∧ v_192.toInt ≤ 2147483647) := ⟨i32_lo _, i32_hi _⟩
                    have bv_193 : ((-2147483648) ≤ v_193.toInt ∧ v_193.toInt ≤ 2147483647) := ⟨i32_lo _, i32_hi _⟩
                    obtain rfl : a_22 = a_182 := by have hk9 := hrr3_0 a_4 ka_4; rw [hfo_181, hfo_21] at hk9; exact (Option.some.inj hk9).symm
                    obtain rfl : a_25 = a_185 := by have hk9 := hrr3_3 a_4 ka_4; rw [hfo_181, hfo_21] at hk9; exact (Option.some.inj hk9).symm
                    have hT_200 := hTc_176 a_25 (by rw [hfo_181]; rfl)
                    refine lv_if_eq (tgt := 102) hx hb dX11_lives_97 (by decide) (fun c_201 => ?_) (fun c_201 => ?_)
                    · skip
                      rw [← Int32.toInt_inj, ti_0] at c_201
                      obtain ⟨x_202, ex_202⟩ : ∃ y : Int32, y_106 + 1 = y := ⟨_, rfl⟩
                      have hx_202 : x_202.toInt = y_106.toInt + 1 := by rw [← ex_202, ad_I (by rw [ti_1]; omega) (by rw [ti_1]; omega), ti_1]
                      have bx_202 : (1 ≤ x_202.toInt ∧ x_202.toInt ≤ 512) := by constructor <;> omega
                      refine lv_iinc (v := x_202) (lv' := [(7, .int x_202), (5, .int x_98), (6, .int y_72), (4, .int x_57), (0, .ref o0), (1, .int p1), (2, .int p2), (3, .int p3)]) hx hb dX11_lives_102 hl (k := 0) rfl ex_202 (by decide) rfl (fun ls hl => ?_)
                      refine lv_goto (tgt := 56) hx hb dX11_lives_105 (by decide) ?_
                      exact ih_hloop_105 x_202 (by constructor <;> omega) f_170 hG _ _ hP hS hD hfr0 hrr1_0 hrr1_1 hrr3_0 hrr3_3 hfo_178 hfo_179 hT_200 (by omega) ls (lv_sub hl [0, 1, 2, 3, 4, 5, 6, 7] rfl)
                    · skip
                      rw [← Int32.toInt_inj, ti_0] at c_201
                      refine lv_iconst (v := 1) hx hb dX11_lives_100 (by decide) ?_
                      exact W.iret (v := 1) hx hb hr (fun t ht hW => ⟨⟨1, f_170, rfl, ⟨hG, (by decide), hfr0, hrr1_0, hrr1_1, hrr3_0, hrr3_3, (fun r9 d9 h8 h9 => by rw [hfo_178] at h8; obtain rfl := Option.some.inj h8; rw [hfo_181] at h9; obtain rfl := Option.some.inj h9; exact hT_200)⟩, by rw [ht]; exact hP, va_K.moved hW.alike hK, pl_in hD⟩, hS.F ht⟩) hS.2.2 dX11_lives_101
              exact hloop_105 513 0 (by decide) f_75 hG _ _ hP hS hD hfr0 hrr1_0 hrr1_1 hrr3_0 hrr3_3 hfo_76 hfo_77 hT0 (by (try rw [ti_0]) <;> omega) ls hl
        exact hloop_71 4 1 (by decide) 1 (by decide) f hG _ _ hP hS hD hfr0 hrr1_0 hrr1_1 hrr3_0 hrr3_3 hfo_1 hfo_40 hT0 (by (try rw [ti_1]) <;> omega) (by (try rw [ti_1]) <;> omega) ls hl
      · skip
        rw [Int32.le_iff_toInt_le, ti_3] at c_62
        refine lv_iconst (v := (-1)) hx hb dX11_lives_27 (by decide) ?_
        exact W.iret (v := (-1)) hx hb hr (fun t ht hW => ⟨⟨(-1), f, rfl, ⟨hG, (by decide), hfr0, hrr1_0, hrr1_1, hrr3_0, hrr3_3, (fun r9 d9 h8 h9 => by rw [hfo_1] at h8; obtain rfl := Option.some.inj h8; rw [hfo_21] at h9; obtain rfl := Option.some.inj h9; exact hT0)⟩, by rw [ht]; exact hP, va_K.moved hW.alike hK, pl_in hD⟩, hS.F ht⟩) hS.2.2 dX11_lives_28
set_option maxHeartbeats 8000000 in
set_option maxRecDepth 100000 in
theorem s_X11_firstParted_k11 (l : Launch) (D : va_G) (cI cL cZ cR cG cH : ClassId) (Z : zT) (kd : Nat → Nat) (L : List Nat) (f : Nat → va_E) (hG : GI (okc cI cL cZ cR cG cH L kd) kd L f) (o0 : Nat) (mo0 : o0 ∈ L) (ko0 : kd o0 = 11) (p1 : Int32) (p2 : Int32) (p3 : Int32) (bp3 : (1 ≤ p3.toInt ∧ p3.toInt ≤ 3)) (hxtr0 : ∀ r9 d9, fldR (f o0) 2 = some r9 → fldR (f r9) 3 = some d9 → drel kd 1 521 522 f d9) : mPI l D cI cL cZ cR cG cH Z yX11_firstParted cX11_firstParted 8 (some .int) 16 544 [.ref o0, .int p1, .int p2, .int p3] L f (fun (r : Int32) (f9 : Nat → va_E) => GI (okc cI cL cZ cR cG cH L kd) kd L f9 ∧ ((-2147483648) ≤ r.toInt ∧ r.toInt ≤ 2147483647) ∧ (∀ b, kd b ≠ 1 → kd b ≠ 3 → kd b ≠ 10 → kd b ≠ 507 → kd b ≠ 517 → kd b ≠ 518 → kd b ≠ 519 → kd b ≠ 520 → kd b ≠ 521 → kd b ≠ 522 → kd b ≠ 523 → kd b ≠ 524 → kd b ≠ 525 → kd b ≠ 526 → kd b ≠ 527 → kd b ≠ 528 → f9 b = f b) ∧ (∀ b, kd b = 1 → fldR (f9 b) 0 = fldR (f b) 0) ∧ (∀ b, kd b = 1 → fldR (f9 b) 1 = fldR (f b) 1) ∧ (∀ b, kd b = 3 → fldR (f9 b) 0 = fldR (f b) 0) ∧ (∀ b, kd b = 3 → fldR (f9 b) 3 = fldR (f b) 3) ∧ (∀ r9 d9, fldR (f9 o0) 2 = some r9 → fldR (f9 r9) 3 = some d9 → drel kd 1 521 522 f9 d9)) := by
  obtain ⟨dC, dI⟩ := D
  refine Met.ofW (cc := cX11_firstParted) (maxL := 8) (ret := (some .int)) (by decide) rfl ?_
  intro p e s m args below meth c s₁ B hml hv
  obtain ⟨rfl, hP, hK, hD0, hN, hZ⟩ := hv
  have hx := B.exec
  have hb := B.bytes
  have hr := B.returns
  have hU : ∀ w ∈ wsU, w.before _ s = true := fun w h => atoms_spec (ws := wU yX11_firstParted cX11_firstParted 8 (some .int)) B.pre w (List.mem_cons_of_mem _ h)
  have hown : s.vm.findClass RX11 = some m.cls := findClass_of_methodNamed B.named
  have hlocks := B.notSynchronized
  have hD := pl_in hD0
  have hS : va_S (fun q => q ∈ L) s.heap s.heap [] := va_S.rf
  have hl := lv_entry ([.ref o0, .int p1, .int p2, .int p3]) (n := 8) (Nat.le_of_ble_eq_true rfl)
  rw [lg_entry_eq]
  generalize (lg_sl ([.ref o0, .int p1, .int p2, .int p3]) ++ List.replicate (8 - (lg_sl ([.ref o0, .int p1, .int p2, .int p3])).length) Slot.unset).toArray = ls at hl ⊢
  have hl : lv_has ls 8 [(0, .ref o0), (1, .int p1), (2, .int p2), (3, .int p3)] := hl
  have bp1 : ((-2147483648) ≤ p1.toInt ∧ p1.toInt ≤ 2147483647) := ⟨i32_lo _, i32_hi _⟩
  have bp2 : ((-2147483648) ≤ p2.toInt ∧ p2.toInt ≤ 2147483647) := ⟨i32_lo _, i32_hi _⟩
  have hfr0 : ∀ b, kd b ≠ 1 → kd b ≠ 3 → kd b ≠ 10 → kd b ≠ 507 → kd b ≠ 517 → kd b ≠ 518 → kd b ≠ 519 → kd b ≠ 520 → kd b ≠ 521 → kd b ≠ 522 → kd b ≠ 523 → kd b ≠ 524 → kd b ≠ 525 → kd b ≠ 526 → kd b ≠ 527 → kd b ≠ 528 → f b = f b := fun _ _ _ _ _ _ _ _ _ _ _ _ _ _ _ _ _ => rfl
  have hrr1_0 : ∀ b, kd b = 1 → fldR (f b) 0 = fldR (f b) 0 := fun _ _ => rfl
  have hrr1_1 : ∀ b, kd b = 1 → fldR (f b) 1 = fldR (f b) 1 := fun _ _ => rfl
  have hrr3_0 : ∀ b, kd b = 3 → fldR (f b) 0 = fldR (f b) 0 := fun _ _ => rfl
  have hrr3_3 : ∀ b, kd b = 3 → fldR (f b) 3 = fldR (f b) 3 := fun _ _ => rfl
  obtain ⟨a_2, v_3, a_4, a_5, a_6, a_7, a_8, a_9, v_10, a_11, a_12, a_13, v_14, v_15, a_16, v_17, a_18, a_19, v_20, hfo_1, ⟨ma_2, ka_2⟩, bv_3, ⟨ma_4, ka_4⟩, ⟨ma_5, ka_5⟩, ⟨ma_6, ka_6⟩, ⟨ma_7, ka_7⟩, ⟨ma_8, ka_8⟩, ⟨ma_9, ka_9⟩, bv_10, ⟨ma_11, ka_11⟩, ⟨ma_12, ka_12⟩, ⟨ma_13, ka_13⟩, bv_14, ⟨ma_16, ka_16⟩, bv_17, ⟨ma_18, ka_18⟩, ⟨ma_19, ka_19⟩⟩ := un_11 (hG _ mo0) ko0
  have bv_15 : ((-2147483648) ≤ v_15.toInt ∧ v_15.toInt ≤ 2147483647) := ⟨i32_lo _, i32_hi _⟩
  have bv_20 : ((-2147483648) ≤ v_20.toInt ∧ v_20.toInt ≤ 2147483647) := ⟨i32_lo _, i32_hi _⟩
  obtain ⟨a_22, a_23, a_24, a_25, a_26, v_27, v_28, v_29, v_30, v_31, v_32, v_33, a_34, a_35, a_36, v_37, a_38, a_39, hfo_21, ⟨ma_22, ka_22⟩, ⟨ma_23, ka_23⟩, ⟨ma_24, ka_24⟩, ⟨ma_25, ka_25⟩, ⟨ma_26, ka_26⟩, bv_27, bv_28, bv_29, ⟨ma_34, ka_34⟩, ⟨ma_35, ka_35⟩, ⟨ma_36, ka_36⟩, bv_37, ⟨ma_38, ka_38⟩, ⟨ma_39, ka_39⟩⟩ := un_3 (hG _ ma_4) ka_4
  have bv_30 : ((-2147483648) ≤ v_30.toInt ∧ v_30.toInt ≤ 2147483647) := ⟨i32_lo _, i32_hi _⟩
  have bv_31 : ((-2147483648) ≤ v_31.toInt ∧ v_31.toInt ≤ 2147483647) := ⟨i32_lo _, i32_hi _⟩
  have bv_32 : ((-2147483648) ≤ v_32.toInt ∧ v_32.toInt ≤ 2147483647) := ⟨i32_lo _, i32_hi _⟩
  have bv_33 : ((-2147483648) ≤ v_33.toInt ∧ v_33.toInt ≤ 2147483647) := ⟨i32_lo _, i32_hi _⟩
  have hT0 := hxtr0 a_4 a_25 (by rw [hfo_1]; rfl) (by rw [hfo_21]; rfl)
  refine lv_iconst (v := 0) hx hb dX11_firstParted_0 (by decide) ?_
  refine lv_istore (lv' := [(4, .int 0), (0, .ref o0), (1, .int p1), (2, .int p2), (3, .int p3)]) hx hb dX11_firstParted_1 hl (by decide) rfl (fun ls hl => ?_)
  refine lv_iconst (v := 1) hx hb dX11_firstParted_3 (by decide) ?_
  refine lv_istore (lv' := [(5, .int 1), (4, .int 0), (0, .ref o0), (1, .int p1), (2, .int p2), (3, .int p3)]) hx hb dX11_firstParted_4 hl (by decide) rfl (fun ls hl => ?_)
  refine lv_iconst (v := 1) hx hb dX11_firstParted_6 (by decide) ?_
  refine lv_istore (lv' := [(6, .int 1), (5, .int 1), (4, .int 0), (0, .ref o0), (1, .int p1), (2, .int p2), (3, .int p3)]) hx hb dX11_firstParted_7 hl (by decide) rfl (fun ls hl => ?_)
  have hloop_48 : ∀ (n : Nat), ∀ (y_49 : Int32), (1 ≤ y_49.toInt ∧ y_49.toInt ≤ 4) → ∀ (y_50 : Int32), (0 ≤ y_50.toInt ∧ y_50.toInt ≤ 512) → ∀ (y_51 : Int32), ((-2147483648) ≤ y_51.toInt ∧ y_51.toInt ≤ 2147483647) → ∀ (f_53 : Nat → va_E), GI (okc cI cL cZ cR cG cH L kd) kd L f_53 → ∀ (H : Heap) (locs : List Loc), va_P (dC, dI) vwCl (va_pl L f_53) H → va_S (fun q => q ∈ L) s.heap H locs → va_D (fun q => q ∈ L) (va_pl L f_53) → (∀ b, kd b ≠ 1 → kd b ≠ 3 → kd b ≠ 10 → kd b ≠ 507 → kd b ≠ 517 → kd b ≠ 518 → kd b ≠ 519 → kd b ≠ 520 → kd b ≠ 521 → kd b ≠ 522 → kd b ≠ 523 → kd b ≠ 524 → kd b ≠ 525 → kd b ≠ 526 → kd b ≠ 527 → kd b ≠ 528 → f_53 b = f b) → (∀ b, kd b = 1 → fldR (f_53 b) 0 = fldR (f b) 0) → (∀ b, kd b = 1 → fldR (f_53 b) 1 = fldR (f b) 1) → (∀ b, kd b = 3 → fldR (f_53 b) 0 = fldR (f b) 0) → (∀ b, kd b = 3 → fldR (f_53 b) 3 = fldR (f b) 3) → (f_53 o0 = .inr (11, [.ref a_2, .int v_3, .ref a_4, .ref a_5, .ref a_6, .ref a_7, .ref a_8, .ref a_9, .int v_10, .ref a_11, .ref a_12, .ref a_13, .int v_14, .int v_15, .ref a_16, .int v_17, .ref a_18, .ref a_19, .int v_20])) → drel kd 1 521 522 f_53 a_25 → ((y_49.toInt = 1 ∧ y_50.toInt ≤ 1) ∨ (y_49.toInt = 2 ∧ y_50.toInt ≤ 8) ∨ (y_49.toInt = 3 ∧ y_50.toInt ≤ 64) ∨ (y_49.toInt = 4 ∧ y_50.toInt ≤ 512)) → 4 - y_49.toInt < (n : Int) → ∀ (ls : Array Slot), lv_has ls 8 [(6, .int y_49), (5, .int y_50), (4, .int y_51), (0, .ref o0), (1, .int p1), (2, .int p2), (3, .int p3)] → W p l e (headSpec (wU yX11_firstParted cX11_firstParted 8 (some .int)) { frames := 16, cells := 0, slots := 0, locals := 544 }).room s m [.ref o0, .int p1, .int p2, .int p3].toArray below meth c H locs 0 0 (MQ below (va_Qi (fun (r : Int32) (f9 : Nat → va_E) => GI (okc cI cL cZ cR cG cH L kd) kd L f9 ∧ ((-2147483648) ≤ r.toInt ∧ r.toInt ≤ 2147483647) ∧ (∀ b, kd b ≠ 1 → kd b ≠ 3 → kd b ≠ 10 → kd b ≠ 507 → kd b ≠ 517 → kd b ≠ 518 → kd b ≠ 519 → kd b ≠ 520 → kd b ≠ 521 → kd b ≠ 522 → kd b ≠ 523 → kd b ≠ 524 → kd b ≠ 525 → kd b ≠ 526 → kd b ≠ 527 → kd b ≠ 528 → f9 b = f b) ∧ (∀ b, kd b = 1 → fldR (f9 b) 0 = fldR (f b) 0) ∧ (∀ b, kd b = 1 → fldR (f9 b) 1 = fldR (f b) 1) ∧ (∀ b, kd b = 3 → fldR (f9 b) 0 = fldR (f b) 0) ∧ (∀ b, kd b = 3 → fldR (f9 b) 3 = fldR (f b) 3) ∧ (∀ r9 d9, fldR (f9 o0) 2 = some r9 → fldR (f9 r9) 3 = some d9 → drel kd 1 521 522 f9 d9)) (qP (dC, dI) cI cL cZ cR cG cH L) (fun q => q ∈ L)) [.ref o0, .int p1, .int p2, .int p3].toArray s 0 0 (fun q => q ∈ L)) (F0 m 9 ls []) := by
    intro n
    induction n with
    | zero => intro y_49 by_49 y_50 by_50 y_51 by_51 f_53 hG H locs hP hS hD hfr0 hrr1_0 hrr1_1 hrr3_0 hrr3_3 hfo_54 hT0 hrelhloop_48_0 hmuhloop_48 ls hl; exfalso; omega
    | succ n ih_hloop_48 =>
      intro y_49 by_49 y_50 by_50 y_51 by_51 f_53 hG H locs hP hS hD hfr0 hrr1_0 hrr1_1 hrr3_0 hrr3_3 hfo_54 hT0 hrelhloop_48_0 hmuhloop_48 ls hl
      refine lv_iload hx hb dX11_firstParted_9 (lv_at hl 0 rfl) ?_
      refine lv_iload_n hx hb dX11_firstParted_11 rfl (lv_at hl 6 rfl) ?_
      refine lv_icmp_gt (tgt := 90) hx hb dX11_firstParted_12 (by decide) (fun c_55 => ?_) (fun c_55 => ?_)
      · skip
        rw [Int32.lt_iff_toInt_lt] at c_55
        refine lv_iconst (v := (-1)) hx hb dX11_firstParted_90 (by decide) ?_
        obtain ⟨a_57, a_58, a_59, a_60, a_61, v_62, v_63, v_64, v_65, v_66, v_67, v_68, a_69, a_70, a_71, v_72, a_73, a_74, hfo_56, ⟨ma_57, ka_57⟩, ⟨ma_58, ka_58⟩, ⟨ma_59, ka_59⟩, ⟨ma_60, ka_60⟩, ⟨ma_61, ka_61⟩, bv_62, bv_63, bv_64, ⟨ma_69, ka_69⟩, ⟨ma_70, ka_70⟩, ⟨ma_71, ka_71⟩, bv_72, ⟨ma_73, ka_73⟩, ⟨ma_74, ka_74⟩⟩ := un_3 (hG _ ma_4) ka_4
        have bv_65 : ((-2147483648) ≤ v_65.toInt ∧ v_65.toInt ≤ 2147483647) := ⟨i32_lo _, i32_hi _⟩
        have bv_66 : ((-2147483648) ≤ v_66.toInt ∧ v_66.toInt ≤ 2147483647) := ⟨i32_lo _, i32_hi _⟩
        have bv_67 : ((-2147483648) ≤ v_67.toInt ∧ v_67.toInt ≤ 2147483647) := ⟨i32_lo _, i32_hi _⟩
        have bv_68 : ((-2147483648) ≤ v_68.toInt ∧ v_68.toInt ≤ 2147483647) := ⟨i32_lo _, i32_hi _⟩
        obtain rfl : a_22 = a_57 := by have hk9 := hrr3_0 a_4 ka_4; rw [hfo_56, hfo_21] at hk9; exact (Option.some.inj hk9).symm
        obtain rfl : a_25 = a_60 := by have hk9 := hrr3_3 a_4 ka_4; rw [hfo_56, hfo_21] at hk9; exact (Option.some.inj hk9).symm
        exact W.iret (v := (-1)) hx hb hr (fun t ht hW => ⟨⟨(-1), f_53, rfl, ⟨hG, (by decide), hfr0, hrr1_0, hrr1_1, hrr3_0, hrr3_3, (fun r9 d9 h8 h9 => by rw [hfo_54] at h8; obtain rfl := Option.some.inj h8; rw [hfo_56] at h9; obtain rfl := Option.some.inj h9; exact hT0)⟩, by rw [ht]; exact hP, va_K.moved hW.alike hK, pl_in hD⟩, hS.F ht⟩) hS.2.2 dX11_firstParted_91
      · skip
        rw [Int32.lt_iff_toInt_lt] at c_55
        refine lv_iload_n hx hb dX11_firstParted_15 rfl (lv_at hl 4 rfl) ?_
        refine lv_iload_n hx hb dX11_firstParted_16 rfl (lv_at hl 5 rfl) ?_
        refine lv_icmp_eq (tgt := 90) hx hb dX11_firstParted_17 (by decide) (fun c_75 => ?_) (fun c_75 => ?_)
        · skip
          rw [← Int32.toInt_inj] at c_75
          refine lv_iconst (v := (-1)) hx hb dX11_firstParted_90 (by decide) ?_
          obtain ⟨a_77, a_78, a_79, a_80, a_81, v_82, v_83, v_84, v_85, v_86, v_87, v_88, a_89, a_90, a_91, v_92, a_93, a_94, hfo_76, ⟨ma_77, ka_77⟩, ⟨ma_78, ka_78⟩, ⟨ma_79, ka_79⟩, ⟨ma_80, ka_80⟩, ⟨ma_81, ka_81⟩, bv_82, bv_83, bv_84, ⟨ma_89, ka_89⟩, ⟨ma_90, ka_90⟩, ⟨ma_91, ka_91⟩, bv_92, ⟨ma_93, ka_93⟩, ⟨ma_94, ka_94⟩⟩ := un_3 (hG _ ma_4) ka_4
          have bv_85 : ((-2147483648) ≤ v_85.toInt ∧ v_85.toInt ≤ 2147483647) := ⟨i32_lo _, i32_hi _⟩
          have bv_86 : ((-2147483648) ≤ v_86.toInt ∧ v_86.toInt ≤ 2147483647) := ⟨i32_lo _, i32_hi _⟩
          have bv_87 : ((-2147483648) ≤ v_87.toInt ∧ v_87.toInt ≤ 2147483647) := ⟨i32_lo _, i32_hi _⟩
          have bv_88 : ((-2147483648) ≤ v_88.toInt ∧ v_88.toInt ≤ 2147483647) := ⟨i32_lo _, i32_hi _⟩
          obtain rfl : a_22 = a_77 := by have hk9 := hrr3_0 a_4 ka_4; rw [hfo_76, hfo_21] at hk9; exact (Option.some.inj hk9).symm
          obtain rfl : a_25 = a_80 := by have hk9 := hrr3_3 a_4 ka_4; rw [hfo_76, hfo_21] at hk9; exact (Option.some.inj hk9).symm
          exact W.iret (v := (-1)) hx hb hr (fun t ht hW => ⟨⟨(-1), f_53, rfl, ⟨hG, (by decide), hfr0, hrr1_0, hrr1_1, hrr3_0, hrr3_3, (fun r9 d9 h8 h9 => by rw [hfo_54] at h8; obtain rfl := Option.some.inj h8; rw [hfo_76] at h9; obtain rfl := Option.some.inj h9; exact hT0)⟩, by rw [ht]; exact hP, va_K.moved hW.alike hK, pl_in hD⟩, hS.F ht⟩) hS.2.2 dX11_firstParted_91
        · skip
          rw [← Int32.toInt_inj] at c_75
          refine lv_iload hx hb dX11_firstParted_20 (lv_at hl 1 rfl) ?_
          refine lv_aload_n hx hb dX11_firstParted_22 rfl (lv_at hl 3 rfl) ?_
          refine tk_getP (D := (dC, dI)) (ci := 11) (v := .ref a_5) (C := RX11) (T := TX11) (N := 19) hx hb hU inlX11 hown hK hP mo0 hfo_54 rfl 3 (by decide) (hU _ wd_19) (fun _ h9 => h9) rfl dX11_firstParted_23 ?_
          obtain ⟨a_96, v_97, a_98, a_99, a_100, a_101, v_102, a_103, a_104, a_105, a_106, a_107, v_108, a_109, a_110, a_111, hfo_95, ⟨ma_96, ka_96⟩, bv_97, ⟨ma_98, ka_98⟩, ⟨ma_99, ka_99⟩, ⟨ma_100, ka_100⟩, ⟨ma_101, ka_101⟩, bv_102, ⟨ma_103, ka_103⟩, ⟨ma_104, ka_104⟩, ⟨ma_105, ka_105⟩, ⟨ma_106, ka_106⟩, ⟨ma_107, ka_107⟩, bv_108, ⟨ma_109, ka_109⟩, ⟨ma_110, ka_110⟩, ⟨ma_111, ka_111⟩⟩ := un_7 (hG _ ma_5) ka_5
          refine tk_getP (D := (dC, dI)) (ci := 7) (v := .int v_97) (C := RX7) (T := TX7) (N := 16) hx hb hU inlX7 hown hK hP ma_5 hfo_95 rfl 1 (by decide) (hU _ wd_1151) (fun _ h9 => h9) rfl dX11_firstParted_26 ?_
          refine lv_imul hx hb dX11_firstParted_29 ?_
          refine lv_topi (fun x_112 ex_112 => ?_)
          have bx_112 : (0 ≤ x_112.toInt ∧ x_112.toInt ≤ 4096) := by rw [ex_112]; exact ml_B (a := 512) (b := 8) (by constructor <;> omega) (by constructor <;> omega) (by decide)
          have hm8x_112 : 0 ≤ x_112.toInt ∧ x_112.toInt ≤ 8 * y_50.toInt := by rw [ex_112]; exact ml_8r (m := 512) (by decide) (by constructor <;> omega) (by constructor <;> omega)
          have hclx_112 : (0 ≤ x_112.toInt ∧ x_112.toInt ≤ 512) := by constructor <;> omega
          refine lv_istore (lv' := [(5, .int x_112), (6, .int y_49), (4, .int y_51), (0, .ref o0), (1, .int p1), (2, .int p2), (3, .int p3)]) hx hb dX11_firstParted_30 hl (by decide) rfl (fun ls hl => ?_)
          refine lv_iconst (v := 0) hx hb dX11_firstParted_32 (by decide) ?_
          refine lv_istore (lv' := [(7, .int 0), (5, .int x_112), (6, .int y_49), (4, .int y_51), (0, .ref o0), (1, .int p1), (2, .int p2), (3, .int p3)]) hx hb dX11_firstParted_33 hl (by decide) rfl (fun ls hl => ?_)
          have hloop_120 : ∀ (n : Nat), ∀ (y_121 : Int32), (0 ≤ y_121.toInt ∧ y_121.toInt ≤ 512) → ∀ (y_122 : Int32), ((-2147483648) ≤ y_122.toInt ∧ y_122.toInt ≤ 2147483647) → ∀ (f_124 : Nat → va_E), GI (okc cI cL cZ cR cG cH L kd) kd L f_124 → ∀ (H : Heap) (locs : List Loc), va_P (dC, dI) vwCl (va_pl L f_124) H → va_S (fun q => q ∈ L) s.heap H locs → va_D (fun q => q ∈ L) (va_pl L f_124) → (∀ b, kd b ≠ 1 → kd b ≠ 3 → kd b ≠ 10 → kd b ≠ 507 → kd b ≠ 517 → kd b ≠ 518 → kd b ≠ 519 → kd b ≠ 520 → kd b ≠ 521 → kd b ≠ 522 → kd b ≠ 523 → kd b ≠ 524 → kd b ≠ 525 → kd b ≠ 526 → kd b ≠ 527 → kd b ≠ 528 → f_124 b = f b) → (∀ b, kd b = 1 → fldR (f_124 b) 0 = fldR (f b) 0) → (∀ b, kd b = 1 → fldR (f_124 b) 1 = fldR (f b) 1) → (∀ b, kd b = 3 → fldR (f_124 b) 0 = fldR (f b) 0) → (∀ b, kd b = 3 → fldR (f_124 b) 3 = fldR (f b) 3) → (f_124 o0 = .inr (11, [.ref a_2, .int v_3, .ref a_4, .ref a_5, .ref a_6, .ref a_7, .ref a_8, .ref a_9, .int v_10, .ref a_11, .ref a_12, .ref a_13, .int v_14, .int v_15, .ref a_16, .int v_17, .ref a_18, .ref a_19, .int v_20])) → (f_124 a_5 = .inr (7, [.ref a_96, .int v_97, .ref a_98, .ref a_99, .ref a_100, .ref a_101, .int v_102, .ref a_103, .ref a_104, .ref a_105, .ref a_106, .ref a_107, .int v_108, .ref a_109, .ref a_110, .ref a_111])) → drel kd 1 521 522 f_124 a_25 → 512 - y_121.toInt < (n : Int) → ∀ (ls : Array Slot), lv_has ls 8 [(7, .int y_121), (5, .int x_112), (6, .int y_49), (4, .int y_122), (0, .ref o0), (1, .int p1), (2, .int p2), (3, .int p3)] → W p l e (headSpec (wU yX11_firstParted cX11_firstParted 8 (some .int)) { frames := 16, cells := 0, slots := 0, locals := 544 }).room s m [.ref o0, .int p1, .int p2, .int p3].toArray below meth c H locs 0 0 (MQ below (va_Qi (fun (r : Int32) (f9 : Nat → va_E) => GI (okc cI cL cZ cR cG cH L kd) kd L f9 ∧ ((-2147483648) ≤ r.toInt ∧ r.toInt ≤ 2147483647) ∧ (∀ b, kd b ≠ 1 → kd b ≠ 3 → kd b ≠ 10 → kd b ≠ 507 → kd b ≠ 517 → kd b ≠ 518 → kd b ≠ 519 → kd b ≠ 520 → kd b ≠ 521 → kd b ≠ 522 → kd b ≠ 523 → kd b ≠ 524 → kd b ≠ 525 → kd b ≠ 526 → kd b ≠ 527 → kd b ≠ 528 → f9 b = f b) ∧ (∀ b, kd b = 1 → fldR (f9 b) 0 = fldR (f b) 0) ∧ (∀ b, kd b = 1 → fldR (f9 b) 1 = fldR (f b) 1) ∧ (∀ b, kd b = 3 → fldR (f9 b) 0 = fldR (f b) 0) ∧ (∀ b, kd b = 3 → fldR (f9 b) 3 = fldR (f b) 3) ∧ (∀ r9 d9, fldR (f9 o0) 2 = some r9 → fldR (f9 r9) 3 = some d9 → drel kd 1 521 522 f9 d9)) (qP (dC, dI) cI cL cZ cR cG cH L) (fun q => q ∈ L)) [.ref o0, .int p1, .int p2, .int p3].toArray s 0 0 (fun q => q ∈ L)) (F0 m 35 ls []) := by
            intro n
            induction n with
            | zero => intro y_121 by_121 y_122 by_122 f_124 hG H locs hP hS hD hfr0 hrr1_0 hrr1_1 hrr3_0 hrr3_3 hfo_125 hfo_126 hT0 hmuhloop_120 ls hl; exfalso; omega
            | succ n ih_hloop_120 =>
              intro y_121 by_121 y_122 by_122 f_124 hG H locs hP hS hD hfr0 hrr1_0 hrr1_1 hrr3_0 hrr3_3 hfo_125 hfo_126 hT0 hmuhloop_120 ls hl
              refine lv_iload hx hb dX11_firstParted_35 (lv_at hl 0 rfl) ?_
              refine lv_iload hx hb dX11_firstParted_37 (lv_at hl 1 rfl) ?_
              refine lv_icmp_ge (tgt := 84) hx hb dX11_firstParted_39 (by decide) (fun c_127 => ?_) (fun c_127 => ?_)
              · skip
                rw [Int32.le_iff_toInt_le] at c_127
                obtain ⟨x_128, ex_128⟩ : ∃ y : Int32, y_49 + 1 = y := ⟨_, rfl⟩
                have hx_128 : x_128.toInt = y_49.toInt + 1 := by rw [← ex_128, ad_I (by rw [ti_1]; omega) (by rw [ti_1]; omega), ti_1]
                have bx_128 : (2 ≤ x_128.toInt ∧ x_128.toInt ≤ 4) := by constructor <;> omega
                refine lv_iinc (v := x_128) (lv' := [(6, .int x_128), (7, .int y_121), (5, .int x_112), (4, .int y_122), (0, .ref o0), (1, .int p1), (2, .int p2), (3, .int p3)]) hx hb dX11_firstParted_84 hl (k := 2) rfl ex_128 (by decide) rfl (fun ls hl => ?_)
                refine lv_goto (tgt := 9) hx hb dX11_firstParted_87 (by decide) ?_
                exact ih_hloop_48 x_128 (by constructor <;> omega) x_112 (by constructor <;> omega) y_122 (by constructor <;> omega) f_124 hG _ _ hP hS hD hfr0 hrr1_0 hrr1_1 hrr3_0 hrr3_3 hfo_125 hT0 (by omega) (by omega) ls (lv_sub hl [0, 2, 3, 4, 5, 6, 7] rfl)
              · skip
                rw [Int32.le_iff_toInt_le] at c_127
                refine lv_aload_n hx hb dX11_firstParted_42 rfl (lv_at hl 4 rfl) ?_
                refine tk_getP (D := (dC, dI)) (ci := 11) (v := .ref a_4) (C := RX11) (T := TX11) (N := 19) hx hb hU inlX11 hown hK hP mo0 hfo_125 rfl 2 (by decide) (hU _ wd_17) (fun _ h9 => h9) rfl dX11_firstParted_43 ?_
                refine lv_iload hx hb dX11_firstParted_46 (lv_at hl 2 rfl) ?_
                refine lv_iload hx hb dX11_firstParted_48 (lv_at hl 0 rfl) ?_
                obtain ⟨a_130, a_131, a_132, a_133, a_134, v_135, v_136, v_137, v_138, v_139, v_140, v_141, a_142, a_143, a_144, v_145, a_146, a_147, hfo_129, ⟨ma_130, ka_130⟩, ⟨ma_131, ka_131⟩, ⟨ma_132, ka_132⟩, ⟨ma_133, ka_133⟩, ⟨ma_134, ka_134⟩, bv_135, bv_136, bv_137, ⟨ma_142, ka_142⟩, ⟨ma_143, ka_143⟩, ⟨ma_144, ka_144⟩, bv_145, ⟨ma_146, ka_146⟩, ⟨ma_147, ka_147⟩⟩ := un_3 (hG _ ma_4) ka_4
                have bv_138 : ((-2147483648) ≤ v_138.toInt ∧ v_138.toInt ≤ 2147483647) := ⟨i32_lo _, i32_hi _⟩
                have bv_139 : ((-2147483648) ≤ v_139.toInt ∧ v_139.toInt ≤ 2147483647) := ⟨i32_lo _, i32_hi _⟩
                have bv_140 : ((-2147483648) ≤ v_140.toInt ∧ v_140.toInt ≤ 2147483647) := ⟨i32_lo _, i32_hi _⟩
                have bv_141 : ((-2147483648) ≤ v_141.toInt ∧ v_141.toInt ≤ 2147483647) := ⟨i32_lo _, i32_hi _⟩
                obtain rfl : a_22 = a_130 := by have hk9 := hrr3_0 a_4 ka_4; rw [hfo_129, hfo_21] at hk9; exact (Option.some.inj hk9).symm
                obtain rfl : a_25 = a_133 := by have hk9 := hrr3_3 a_4 ka_4; rw [hfo_129, hfo_21] at hk9; exact (Option.some.inj hk9).symm
                refine tk_VvP (As := [.int y_49, .int y_121]) (rest := []) (n := 2) hx hb hml hown hU hN hZ (s_X3_takeNumbered_k3 l (dC, dI) cI cL cZ cR cG cH Z kd L f_124 hG a_4 ma_4 ka_4 y_49 y_121 (by constructor <;> omega)) wd_1152 wd_1153 wd_1154 wd_16 wd_1155 (by decide +kernel) ⟨Nat.le_of_ble_eq_true rfl, Nat.le_of_ble_eq_true rfl⟩ hK hP hD hS ma_4 hfo_129 3 rfl rfl rfl hl.1 rfl (Nat.le_of_ble_eq_true rfl) dX11_firstParted_50 ⟨Nat.le_of_ble_eq_true rfl, Nat.le_of_ble_eq_true rfl⟩ (fun f_149 H locs hw hP hD hS => ?_)
                obtain ⟨hG, hkc_150, hrc_151, hrc_152⟩ := hw
                have hfo_154 : f_149 o0 = .inr (11, [.ref a_2, .int v_3, .ref a_4, .ref a_5, .ref a_6, .ref a_7, .ref a_8, .ref a_9, .int v_10, .ref a_11, .ref a_12, .ref a_13, .int v_14, .int v_15, .ref a_16, .int v_17, .ref a_18, .ref a_19, .int v_20]) := by rw [hkc_150 o0 (by rw [ko0]; decide) (by rw [ko0]; decide)]; exact hfo_125
                have hfo_155 : f_149 a_5 = .inr (7, [.ref a_96, .int v_97, .ref a_98, .ref a_99, .ref a_100, .ref a_101, .int v_102, .ref a_103, .ref a_104, .ref a_105, .ref a_106, .ref a_107, .int v_108, .ref a_109, .ref a_110, .ref a_111]) := by rw [hkc_150 a_5 (by rw [ka_5]; decide) (by rw [ka_5]; decide)]; exact hfo_126
                have hfr0 : ∀ b, kd b ≠ 1 → kd b ≠ 3 → kd b ≠ 10 → kd b ≠ 507 → kd b ≠ 517 → kd b ≠ 518 → kd b ≠ 519 → kd b ≠ 520 → kd b ≠ 521 → kd b ≠ 522 → kd b ≠ 523 → kd b ≠ 524 → kd b ≠ 525 → kd b ≠ 526 → kd b ≠ 527 → kd b ≠ 528 → f_149 b = f b := fun b q1 q3 q10 q507 q517 q518 q519 q520 q521 q522 q523 q524 q525 q526 q527 q528 => (hkc_150 b q3 q507).trans (hfr0 b q1 q3 q10 q507 q517 q518 q519 q520 q521 q522 q523 q524 q525 q526 q527 q528)
                have hrr1_0 : ∀ b, kd b = 1 → fldR (f_149 b) 0 = fldR (f b) 0 := fun b kb => (congrArg (fun x => fldR x 0) (hkc_150 b (by rw [kb]; decide) (by rw [kb]; decide))).trans (hrr1_0 b kb)
                have hrr1_1 : ∀ b, kd b = 1 → fldR (f_149 b) 1 = fldR (f b) 1 := fun b kb => (congrArg (fun x => fldR x 1) (hkc_150 b (by rw [kb]; decide) (by rw [kb]; decide))).trans (hrr1_1 b kb)
                have hrr3_0 : ∀ b, kd b = 3 → fldR (f_149 b) 0 = fldR (f b) 0 := fun b kb => (hrc_151 b kb).trans (hrr3_0 b kb)
                have hrr3_3 : ∀ b, kd b = 3 → fldR (f_149 b) 3 = fldR (f b) 3 := fun b kb => (hrc_152 b kb).trans (hrr3_3 b kb)
                have hT0 : drel kd 1 521 522 f_149 a_25 := hT0.keep (fun b q => congrArg (fun x => fldI x 5) (hkc_150 b (by rw [q]; decide) (by rw [q]; decide))) (fun b q => congrArg (fun x => fldR x 0) (hkc_150 b (by rw [q]; decide) (by rw [q]; decide))) (fun b q => congrArg (fun x => fldR x 1) (hkc_150 b (by rw [q]; decide) (by rw [q]; decide))) (fun b q => hkc_150 b (by rw [q]; decide) (by rw [q]; decide)) (fun b q => hkc_150 b (by rw [q]; decide) (by rw [q]; decide))
                obtain ⟨a_157, a_158, a_159, a_160, a_161, v_162, v_163, v_164, v_165, v_166, v_167, v_168, a_169, a_170, a_171, v_172, a_173, a_174, hfo_156, ⟨ma_157, ka_157⟩, ⟨ma_158, ka_158⟩, ⟨ma_159, ka_159⟩, ⟨ma_160, ka_160⟩, ⟨ma_161, ka_161⟩, bv_162, bv_163, bv_164, ⟨ma_169, ka_169⟩, ⟨ma_170, ka_170⟩, ⟨ma_171, ka_171⟩, bv_172, ⟨ma_173, ka_173⟩, ⟨ma_174, ka_174⟩⟩ := un_3 (hG _ ma_4) ka_4
                have bv_165 : ((-2147483648) ≤ v_165.toInt ∧ v_165.toInt ≤ 2147483647) := ⟨i32_lo _, i32_hi _⟩
                have bv_166 : ((-2147483648) ≤ v_166.toInt ∧ v_166.toInt ≤ 2147483647) := ⟨i32_lo _, i32_hi _⟩
                have bv_167 : ((-2147483648) ≤ v_167.toInt ∧ v_167.toInt ≤ 2147483647) := ⟨i32_lo _, i32_hi _⟩
                have bv_168 : ((-2147483648) ≤ v_168.toInt ∧ v_168.toInt ≤ 2147483647) := ⟨i32_lo _, i32_hi _⟩
                obtain rfl : a_22 = a_157 := by have hk9 := hrr3_0 a_4 ka_4; rw [hfo_156, hfo_21] at hk9; exact (Option.some.inj hk9).symm
                obtain rfl : a_25 = a_160 := by have hk9 := hrr3_3 a_4 ka_4; rw [hfo_156, hfo_21] at hk9; exact (Option.some.inj hk9).symm
                refine lv_aload_n hx hb dX11_firstParted_53 rfl (lv_at hl 4 rfl) ?_
                refine tk_getP (D := (dC, dI)) (ci := 11) (v := .ref a_4) (C := RX11) (T := TX11) (N := 19) hx hb hU inlX11 hown hK hP mo0 hfo_154 rfl 2 (by decide) (hU _ wd_17) (fun _ h9 => h9) rfl dX11_firstParted_54 ?_
                refine lv_iload_n hx hb dX11_firstParted_57 rfl (lv_at hl 5 rfl) ?_
                refine lv_iload_n hx hb dX11_firstParted_58 rfl (lv_at hl 6 rfl) ?_
                refine lv_aload_n hx hb dX11_firstParted_59 rfl (lv_at hl 4 rfl) ?_
                refine tk_getP (D := (dC, dI)) (ci := 11) (v := .ref a_7) (C := RX11) (T := TX11) (N := 19) hx hb hU inlX11 hown hK hP mo0 hfo_154 rfl 5 (by decide) (hU _ wd_25) (fun _ h9 => h9) rfl dX11_firstParted_60 ?_
                obtain ⟨v_176, v_177, a_178, a_179, a_180, v_181, a_182, a_183, a_184, hfo_175, bv_177, ⟨ma_178, ka_178⟩, ⟨ma_179, ka_179⟩, ⟨ma_180, ka_180⟩, ⟨ma_182, ka_182⟩, ⟨ma_183, ka_183⟩, ⟨ma_184, ka_184⟩⟩ := un_6 (hG _ ma_7) ka_7
                have bv_176 : ((-2147483648) ≤ v_176.toInt ∧ v_176.toInt ≤ 2147483647) := ⟨i32_lo _, i32_hi _⟩
                have bv_181 : ((-2147483648) ≤ v_181.toInt ∧ v_181.toInt ≤ 2147483647) := ⟨i32_lo _, i32_hi _⟩
                refine tk_getP (D := (dC, dI)) (ci := 6) (v := .int v_177) (C := RX6) (T := TX6) (N := 9) hx hb hU inlX6 hown hK hP ma_7 hfo_175 rfl 1 (by decide) (hU _ wd_694) (fun _ h9 => h9) rfl dX11_firstParted_63 ?_
                refine tk_ViP (As := [.int p1, .int p2, .int v_177]) (rest := []) (n := 3) hx hb hml hown hU hN hZ (s_X3_tellsApart_k3 l (dC, dI) cI cL cZ cR cG cH Z kd L f_149 hG a_4 ma_4 ka_4 p1 p2 v_177 (fun d9 h9 => by rw [hfo_156] at h9; obtain rfl := Option.some.inj h9; exact hT0)) wd_1317 wd_1318 wd_1319 wd_16 wd_1320 (by decide +kernel) ⟨Nat.le_of_ble_eq_true rfl, Nat.le_of_ble_eq_true rfl⟩ hK hP hD hS ma_4 hfo_156 3 rfl rfl rfl hl.1 rfl (Nat.le_of_ble_eq_true rfl) dX11_firstParted_66 ⟨Nat.le_of_ble_eq_true rfl, Nat.le_of_ble_eq_true rfl⟩ (fun x_185 f_186 H locs hw hP hD hS => ?_)
                obtain ⟨hG, bx_185, hkc_187, hrc_188, hrc_189, hrc_190, hrc_191, hTc_192⟩ := hw
                have hfo_194 : f_186 o0 = .inr (11, [.ref a_2, .int v_3, .ref a_4, .ref a_5, .ref a_6, .ref a_7, .ref a_8, .ref a_9, .int v_10, .ref a_11, .ref a_12, .ref a_13, .int v_14, .int v_15, .ref a_16, .int v_17, .ref a_18, .ref a_19, .int v_20]) := by rw [hkc_187 o0 (by rw [ko0]; decide) (by rw [ko0]; decide) (by rw [ko0]; decide) (by rw [ko0]; decide) (by rw [ko0]; decide) (by rw [ko0]; decide) (by rw [ko0]; decide) (by rw [ko0]; decide) (by rw [ko0]; decide) (by rw [ko0]; decide) (by rw [ko0]; decide) (by rw [ko0]; decide) (by rw [ko0]; decide) (by rw [ko0]; decide) (by rw [ko0]; decide)]; exact hfo_154
                have hfo_195 : f_186 a_5 = .inr (7, [.ref a_96, .int v_97, .ref a_98, .ref a_99, .ref a_100, .ref a_101, .int v_102, .ref a_103, .ref a_104, .ref a_105, .ref a_106, .ref a_107, .int v_108, .ref a_109, .ref a_110, .ref a_111]) := by rw [hkc_187 a_5 (by rw [ka_5]; decide) (by rw [ka_5]; decide) (by rw [ka_5]; decide) (by rw [ka_5]; decide) (by rw [ka_5]; decide) (by rw [ka_5]; decide) (by rw [ka_5]; decide) (by rw [ka_5]; decide) (by rw [ka_5]; decide) (by rw [ka_5]; decide) (by rw [ka_5]; decide) (by rw [ka_5]; decide) (by rw [ka_5]; decide) (by rw [ka_5]; decide) (by rw [ka_5]; decide)]; exact hfo_155
                have hfo_196 : f_186 a_7 = .inr (6, [.int v_176, .int v_177, .ref a_178, .ref a_179, .ref a_180, .int v_181, .ref a_182, .ref a_183, .ref a_184]) := by rw [hkc_187 a_7 (by rw [ka_7]; decide) (by rw [ka_7]; decide) (by rw [ka_7]; decide) (by rw [ka_7]; decide) (by rw [ka_7]; decide) (by rw [ka_7]; decide) (by rw [ka_7]; decide) (by rw [ka_7]; decide) (by rw [ka_7]; decide) (by rw [ka_7]; decide) (by rw [ka_7]; decide) (by rw [ka_7]; decide) (by rw [ka_7]; decide) (by rw [ka_7]; decide) (by rw [ka_7]; decide)]; exact hfo_175
                have hfr0 : ∀ b, kd b ≠ 1 → kd b ≠ 3 → kd b ≠ 10 → kd b ≠ 507 → kd b ≠ 517 → kd b ≠ 518 → kd b ≠ 519 → kd b ≠ 520 → kd b ≠ 521 → kd b ≠ 522 → kd b ≠ 523 → kd b ≠ 524 → kd b ≠ 525 → kd b ≠ 526 → kd b ≠ 527 → kd b ≠ 528 → f_186 b = f b := fun b q1 q3 q10 q507 q517 q518 q519 q520 q521 q522 q523 q524 q525 q526 q527 q528 => (hkc_187 b q1 q3 q10 q517 q518 q519 q520 q521 q522 q523 q524 q525 q526 q527 q528).trans (hfr0 b q1 q3 q10 q507 q517 q518 q519 q520 q521 q522 q523 q524 q525 q526 q527 q528)
                have hrr1_0 : ∀ b, kd b = 1 → fldR (f_186 b) 0 = fldR (f b) 0 := fun b kb => (hrc_188 b kb).trans (hrr1_0 b kb)
                have hrr1_1 : ∀ b, kd b = 1 → fldR (f_186 b) 1 = fldR (f b) 1 := fun b kb => (hrc_189 b kb).trans (hrr1_1 b kb)
                have hrr3_0 : ∀ b, kd b = 3 → fldR (f_186 b) 0 = fldR (f b) 0 := fun b kb => (hrc_190 b kb).trans (hrr3_0 b kb)
                have hrr3_3 : ∀ b, kd b = 3 → fldR (f_186 b) 3 = fldR (f b) 3 := fun b kb => (hrc_191 b kb).trans (hrr3_3 b kb)
                obtain ⟨a_198, a_199, a_200, a_201, a_202, v_203, v_204, v_205, v_206, v_207, v_208, v_209, a_210, a_211, a_212, v_213, a_214, a_215, hfo_197, ⟨ma_198, ka_198⟩, ⟨ma_199, ka_199⟩, ⟨ma_200, ka_200⟩, ⟨ma_201, ka_201⟩, ⟨ma_202, ka_202⟩, bv_203, bv_204, bv_205, ⟨ma_210, ka_210⟩, ⟨ma_211, ka_211⟩, ⟨ma_212, ka_212⟩, bv_213, ⟨ma_214, ka_214⟩, ⟨ma_215, ka_215⟩⟩ := un_3 (hG _ ma_4) ka_4
                have bv_206 : ((-2147483648) ≤ v_206.toInt ∧ v_206.toInt ≤ 2147483647) := ⟨i32_lo _, i32_hi _⟩
                have bv_207 : ((-2147483648) ≤ v_207.toInt ∧ v_207.toInt ≤ 2147483647) := ⟨i32_lo _, i32_hi _⟩
                have bv_208 : ((-2147483648) ≤ v_208.toInt ∧ v_208.toInt ≤ 2147483647) := ⟨i32_lo _, i32_hi _⟩
                have bv_209 : ((-2147483648) ≤ v_209.toInt ∧ v_209.toInt ≤ 2147483647) := ⟨i32_lo _, i32_hi _⟩
                obtain rfl : a_22 = a_198 := by have hk9 := hrr3_0 a_4 ka_4; rw [hfo_197, hfo_21] at hk9; exact (Option.some.inj hk9).symm
                obtain rfl : a_25 = a_201 := by have hk9 := hrr3_3 a_4 ka_4; rw [hfo_197, hfo_21] at hk9; exact (Option.some.inj hk9).symm
                have hT_216 := hTc_192 a_25 (by rw [hfo_197]; rfl)
                refine lv_if_eq (tgt := 75) hx hb dX11_firstParted_69 (by decide) (fun c_217 => ?_) (fun c_217 => ?_)
                · skip
                  rw [← Int32.toInt_inj, ti_0] at c_217
                  obtain ⟨x_218, ex_218⟩ : ∃ y : Int32, y_122 + 1 = y := ⟨_, rfl⟩
                  have bx_218 : ((-2147483648) ≤ x_218.toInt ∧ x_218.toInt ≤ 2147483647) := ⟨i32_lo _, i32_hi _⟩
                  refine lv_iinc (v := x_218) (lv' := [(4, .int x_218), (7, .int y_121), (5, .int x_112), (6, .int y_49), (0, .ref o0), (1, .int p1), (2, .int p2), (3, .int p3)]) hx hb dX11_firstParted_75 hl (k := 3) rfl ex_218 (by decide) rfl (fun ls hl => ?_)
                  obtain ⟨x_219, ex_219⟩ : ∃ y : Int32, y_121 + 1 = y := ⟨_, rfl⟩
                  have hx_219 : x_219.toInt = y_121.toInt + 1 := by rw [← ex_219, ad_I (by rw [ti_1]; omega) (by rw [ti_1]; omega), ti_1]
                  have bx_219 : (1 ≤ x_219.toInt ∧ x_219.toInt ≤ 512) := by constructor <;> omega
                  refine lv_iinc (v := x_219) (lv' := [(7, .int x_219), (4, .int x_218), (5, .int x_112), (6, .int y_49), (0, .ref o0), (1, .int p1), (2, .int p2), (3, .int p3)]) hx hb dX11_firstParted_78 hl (k := 1) rfl ex_219 (by decide) rfl (fun ls hl => ?_)
                  refine lv_goto (tgt := 35) hx hb dX11_firstParted_81 (by decide) ?_
                  exact ih_hloop_120 x_219 (by constructor <;> omega) x_218 (by constructor <;> omega) f_186 hG _ _ hP hS hD hfr0 hrr1_0 hrr1_1 hrr3_0 hrr3_3 hfo_194 hfo_195 hT_216 (by omega) ls (lv_sub hl [0, 2, 3, 1, 4, 5, 6, 7] rfl)
                · skip
                  rw [← Int32.toInt_inj, ti_0] at c_217
                  refine lv_iload hx hb dX11_firstParted_72 (lv_at hl 3 rfl) ?_
                  exact W.iret (v := y_122) hx hb hr (fun t ht hW => ⟨⟨y_122, f_186, rfl, ⟨hG, (by constructor <;> omega), hfr0, hrr1_0, hrr1_1, hrr3_0, hrr3_3, (fun r9 d9 h8 h9 => by rw [hfo_194] at h8; obtain rfl := Option.some.inj h8; rw [hfo_197] at h9; obtain rfl := Option.some.inj h9; exact hT_216)⟩, by rw [ht]; exact hP, va_K.moved hW.alike hK, pl_in hD⟩, hS.F ht⟩) hS.2.2 dX11_firstParted_74
          exact hloop_120 513 0 (by decide) y_51 (by constructor <;> omega) f_53 hG _ _ hP hS hD hfr0 hrr1_0 hrr1_1 hrr3_0 hrr3_3 hfo_54 hfo_95 hT0 (by (try rw [ti_0]) <;> omega) ls hl
  exact hloop_48 4 1 (by decide) 1 (by decide) 0 (by decide) f hG _ _ hP hS hD hfr0 hrr1_0 hrr1_1 hrr3_0 hrr3_3 hfo_1 hT0 (by (try rw [ti_1]) <;> (try rw [ti_0]) <;> omega) (by (try rw [ti_1]) <;> (try rw [ti_0]) <;> omega) ls hl
