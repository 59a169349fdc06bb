set_option maxHeartbeats 8000000 in
set_option maxRecDepth 100000 in
theorem s_X0_fillAgrees_k0_k3_k6 (l : Launch) (D : va_G) (cI cL cZ cR cG cH : ClassId) (Z : zT) (kd : Nat → Nat) (L : List Nat) (f : Nat → va_E) (hG : GI (okc cI cL cZ cR cG cH L kd) kd L f) (o0 : Nat) (mo0 : o0 ∈ L) (ko0 : kd o0 = 0) (o1 : Nat) (mo1 : o1 ∈ L) (ko1 : kd o1 = 3) (o2 : Nat) (mo2 : o2 ∈ L) (ko2 : kd o2 = 6) (hxtr0 : ∀ d9, fldR (f o1) 3 = some d9 → drel kd 1 521 522 f d9) : mPV l D cI cL cZ cR cG cH Z yX0_fillAgrees cX0_fillAgrees 7 none 15 518 [.ref o0, .ref o1, .ref o2] L f (fun (f9 : Nat → va_E) => GI (okc cI cL cZ cR cG cH L kd) kd L f9 ∧ (∀ b, kd b ≠ 1 → kd b ≠ 3 → kd b ≠ 10 → kd b ≠ 507 → kd b ≠ 517 → kd b ≠ 518 → kd b ≠ 519 → kd b ≠ 520 → kd b ≠ 521 → kd b ≠ 522 → kd b ≠ 523 → kd b ≠ 524 → kd b ≠ 525 → kd b ≠ 526 → kd b ≠ 527 → kd b ≠ 535 → kd b ≠ 538 → f9 b = f b) ∧ (∀ b, kd b = 1 → fldR (f9 b) 0 = fldR (f b) 0) ∧ (∀ b, kd b = 1 → fldR (f9 b) 1 = fldR (f b) 1) ∧ (∀ b, kd b = 3 → fldR (f9 b) 0 = fldR (f b) 0) ∧ (∀ b, kd b = 3 → fldR (f9 b) 3 = fldR (f b) 3) ∧ (∀ d9, fldR (f9 o1) 3 = some d9 → drel kd 1 521 522 f9 d9)) := by
  obtain ⟨dC, dI⟩ := D
  refine Met.ofW (cc := cX0_fillAgrees) (maxL := 7) (ret := none) (by decide) rfl ?_
  intro p e s m args below meth c s₁ B hml hv
  obtain ⟨rfl, hP, hK, hD0, hN, hZ⟩ := hv
  have hx := B.exec
  have hb := B.bytes
  have hr := B.returns
  have hU : ∀ w ∈ wsU, w.before _ s = true := fun w h => atoms_spec (ws := wU yX0_fillAgrees cX0_fillAgrees 7 none) B.pre w (List.mem_cons_of_mem _ h)
  have hown : s.vm.findClass RX0 = some m.cls := findClass_of_methodNamed B.named
  have hlocks := B.notSynchronized
  have hD := pl_in hD0
  have hS : va_S (fun q => q ∈ L) s.heap s.heap [] := va_S.rf
  have hl := lv_entry ([.ref o0, .ref o1, .ref o2]) (n := 7) (Nat.le_of_ble_eq_true rfl)
  rw [lg_entry_eq]
  generalize (lg_sl ([.ref o0, .ref o1, .ref o2]) ++ List.replicate (7 - (lg_sl ([.ref o0, .ref o1, .ref o2])).length) Slot.unset).toArray = ls at hl ⊢
  have hl : lv_has ls 7 [(0, .ref o0), (1, .ref o1), (2, .ref o2)] := hl
  have hfr0 : ∀ b, kd b ≠ 1 → kd b ≠ 3 → kd b ≠ 10 → kd b ≠ 507 → kd b ≠ 517 → kd b ≠ 518 → kd b ≠ 519 → kd b ≠ 520 → kd b ≠ 521 → kd b ≠ 522 → kd b ≠ 523 → kd b ≠ 524 → kd b ≠ 525 → kd b ≠ 526 → kd b ≠ 527 → kd b ≠ 535 → kd b ≠ 538 → f b = f b := fun _ _ _ _ _ _ _ _ _ _ _ _ _ _ _ _ _ _ => rfl
  have hrr1_0 : ∀ b, kd b = 1 → fldR (f b) 0 = fldR (f b) 0 := fun _ _ => rfl
  have hrr1_1 : ∀ b, kd b = 1 → fldR (f b) 1 = fldR (f b) 1 := fun _ _ => rfl
  have hrr3_0 : ∀ b, kd b = 3 → fldR (f b) 0 = fldR (f b) 0 := fun _ _ => rfl
  have hrr3_3 : ∀ b, kd b = 3 → fldR (f b) 3 = fldR (f b) 3 := fun _ _ => rfl
  obtain ⟨a_2, a_3, a_4, a_5, a_6, v_7, v_8, v_9, v_10, v_11, v_12, v_13, a_14, a_15, a_16, v_17, a_18, a_19, hfo_1, ⟨ma_2, ka_2⟩, ⟨ma_3, ka_3⟩, ⟨ma_4, ka_4⟩, ⟨ma_5, ka_5⟩, ⟨ma_6, ka_6⟩, bv_7, bv_8, bv_9, ⟨ma_14, ka_14⟩, ⟨ma_15, ka_15⟩, ⟨ma_16, ka_16⟩, bv_17, ⟨ma_18, ka_18⟩, ⟨ma_19, ka_19⟩⟩ := un_3 (hG _ mo1) ko1
  have bv_10 : ((-2147483648) ≤ v_10.toInt ∧ v_10.toInt ≤ 2147483647) := ⟨i32_lo _, i32_hi _⟩
  have bv_11 : ((-2147483648) ≤ v_11.toInt ∧ v_11.toInt ≤ 2147483647) := ⟨i32_lo _, i32_hi _⟩
  have bv_12 : ((-2147483648) ≤ v_12.toInt ∧ v_12.toInt ≤ 2147483647) := ⟨i32_lo _, i32_hi _⟩
  have bv_13 : ((-2147483648) ≤ v_13.toInt ∧ v_13.toInt ≤ 2147483647) := ⟨i32_lo _, i32_hi _⟩
  have hT0 := hxtr0 a_5 (by rw [hfo_1]; rfl)
  refine lv_aload_n hx hb dX0_fillAgrees_0 rfl (lv_at hl 0 rfl) ?_
  obtain ⟨a_21, a_22, a_23, v_24, a_25, a_26, a_27, v_28, a_29, v_30, v_31, hfo_20, ⟨ma_21, ka_21⟩, ⟨ma_22, ka_22⟩, ⟨ma_23, ka_23⟩, bv_24, ⟨ma_25, ka_25⟩, ⟨ma_26, ka_26⟩, ⟨ma_27, ka_27⟩, ⟨ma_29, ka_29⟩⟩ := un_0 (hG _ mo0) ko0
  have bv_28 : ((-2147483648) ≤ v_28.toInt ∧ v_28.toInt ≤ 2147483647) := ⟨i32_lo _, i32_hi _⟩
  have bv_30 : ((-2147483648) ≤ v_30.toInt ∧ v_30.toInt ≤ 2147483647) := ⟨i32_lo _, i32_hi _⟩
  have bv_31 : ((-2147483648) ≤ v_31.toInt ∧ v_31.toInt ≤ 2147483647) := ⟨i32_lo _, i32_hi _⟩
  refine tk_getP (D := (dC, dI)) (ci := 0) (v := .ref a_22) (C := RX0) (T := TX0) (N := 11) hx hb hU inlX0 hown hK hP mo0 hfo_20 rfl 1 (by decide) (hU _ wd_158) (fun _ h9 => h9) rfl dX0_fillAgrees_1 ?_
  refine lv_iconst (v := 0) hx hb dX0_fillAgrees_4 (by decide) ?_
  refine tk_SvP (As := [.ref a_22, .int 0]) (rest := []) (n := 2) hx hb hml hown hU hN hZ (s_J7_fill_53178_a535 l (dC, dI) cI cL cZ cR cG cH Z kd L f hG a_22 ma_22 ka_22 0 (by decide)) wd_1214 wd_266 wd_267 wd_268 (by decide +kernel) ⟨Nat.le_of_ble_eq_true rfl, Nat.le_of_ble_eq_true rfl⟩ hK hP hD hS rfl hl.1 rfl (Nat.le_of_ble_eq_true rfl) dX0_fillAgrees_5 ⟨Nat.le_of_ble_eq_true rfl, Nat.le_of_ble_eq_true rfl⟩ (fun f_33 H locs hw hP hD hS => ?_)
  obtain ⟨hG, hkc_34⟩ := hw
  have hfo_36 : f_33 o1 = .inr (3, [.ref a_2, .ref a_3, .ref a_4, .ref a_5, .ref a_6, .int v_7, .int v_8, .int v_9, .int v_10, .int v_11, .int v_12, .int v_13, .ref a_14, .ref a_15, .ref a_16, .int v_17, .ref a_18, .ref a_19]) := by rw [hkc_34 o1 (by rw [ko1]; decide)]; exact hfo_1
  have hfo_37 : f_33 o0 = .inr (0, [.ref a_21, .ref a_22, .ref a_23, .int v_24, .ref a_25, .ref a_26, .ref a_27, .int v_28, .ref a_29, .int v_30, .int v_31]) := by rw [hkc_34 o0 (by rw [ko0]; decide)]; exact hfo_20
  have hfr0 : ∀ b, kd b ≠ 1 → kd b ≠ 3 → kd b ≠ 10 → kd b ≠ 507 → kd b ≠ 517 → kd b ≠ 518 → kd b ≠ 519 → kd b ≠ 520 → kd b ≠ 521 → kd b ≠ 522 → kd b ≠ 523 → kd b ≠ 524 → kd b ≠ 525 → kd b ≠ 526 → kd b ≠ 527 → kd b ≠ 535 → kd b ≠ 538 → f_33 b = f b := fun b q1 q3 q10 q507 q517 q518 q519 q520 q521 q522 q523 q524 q525 q526 q527 q535 q538 => (hkc_34 b q535).trans (hfr0 b q1 q3 q10 q507 q517 q518 q519 q520 q521 q522 q523 q524 q525 q526 q527 q535 q538)
  have hrr1_0 : ∀ b, kd b = 1 → fldR (f_33 b) 0 = fldR (f b) 0 := fun b kb => (congrArg (fun x => fldR x 0) (hkc_34 b (by rw [kb]; decide))).trans (hrr1_0 b kb)
  have hrr1_1 : ∀ b, kd b = 1 → fldR (f_33 b) 1 = fldR (f b) 1 := fun b kb => (congrArg (fun x => fldR x 1) (hkc_34 b (by rw [kb]; decide))).trans (hrr1_1 b kb)
  have hrr3_0 : ∀ b, kd b = 3 → fldR (f_33 b) 0 = fldR (f b) 0 := fun b kb => (congrArg (fun x => fldR x 0) (hkc_34 b (by rw [kb]; decide))).trans (hrr3_0 b kb)
  have hrr3_3 : ∀ b, kd b = 3 → fldR (f_33 b) 3 = fldR (f b) 3 := fun b kb => (congrArg (fun x => fldR x 3) (hkc_34 b (by rw [kb]; decide))).trans (hrr3_3 b kb)
  have hT0 : drel kd 1 521 522 f_33 a_5 := hT0.keep (fun b q => congrArg (fun x => fldI x 5) (hkc_34 b (by rw [q]; decide))) (fun b q => congrArg (fun x => fldR x 0) (hkc_34 b (by rw [q]; decide))) (fun b q => congrArg (fun x => fldR x 1) (hkc_34 b (by rw [q]; decide))) (fun b q => hkc_34 b (by rw [q]; decide)) (fun b q => hkc_34 b (by rw [q]; decide))
  refine lv_aload_n hx hb dX0_fillAgrees_8 rfl (lv_at hl 1 rfl) ?_
  refine tk_getP (D := (dC, dI)) (ci := 3) (v := .ref a_2) (C := RX3) (T := TX3) (N := 18) hx hb hU inlX3 hown hK hP mo1 hfo_36 rfl 0 (by decide) (hU _ wd_1196) (fun _ h9 => h9) rfl dX0_fillAgrees_9 ?_
  obtain ⟨a_39, v_40, a_41, a_42, a_43, a_44, v_45, a_46, a_47, a_48, a_49, a_50, v_51, a_52, a_53, a_54, hfo_38, ⟨ma_39, ka_39⟩, bv_40, ⟨ma_41, ka_41⟩, ⟨ma_42, ka_42⟩, ⟨ma_43, ka_43⟩, ⟨ma_44, ka_44⟩, bv_45, ⟨ma_46, ka_46⟩, ⟨ma_47, ka_47⟩, ⟨ma_48, ka_48⟩, ⟨ma_49, ka_49⟩, ⟨ma_50, ka_50⟩, bv_51, ⟨ma_52, ka_52⟩, ⟨ma_53, ka_53⟩, ⟨ma_54, ka_54⟩⟩ := un_7 (hG _ ma_2) ka_2
  refine tk_getP (D := (dC, dI)) (ci := 7) (v := .int v_40) (C := RX7) (T := TX7) (N := 16) hx hb hU inlX7 hown hK hP ma_2 hfo_38 rfl 1 (by decide) (hU _ wd_1204) (fun _ h9 => h9) rfl dX0_fillAgrees_12 ?_
  refine lv_istore_n (lv' := [(3, .int v_40), (0, .ref o0), (1, .ref o1), (2, .ref o2)]) hx hb dX0_fillAgrees_15 rfl hl (by decide) rfl (fun ls hl => ?_)
  refine lv_iconst (v := 1) hx hb dX0_fillAgrees_16 (by decide) ?_
  refine lv_istore (lv' := [(4, .int 1), (3, .int v_40), (0, .ref o0), (1, .ref o1), (2, .ref o2)]) hx hb dX0_fillAgrees_17 hl (by decide) rfl (fun ls hl => ?_)
  have hloop_74 : ∀ (n : Nat), ∀ (y_75 : Int32), (1 ≤ y_75.toInt ∧ y_75.toInt ≤ 9) → ∀ (f_77 : Nat → va_E), GI (okc cI cL cZ cR cG cH L kd) kd L f_77 → ∀ (H : Heap) (locs : List Loc), va_P (dC, dI) vwCl (va_pl L f_77) H → va_S (fun q => q ∈ L) s.heap H locs → va_D (fun q => q ∈ L) (va_pl L f_77) → (∀ b, kd b ≠ 1 → kd b ≠ 3 → kd b ≠ 10 → kd b ≠ 507 → kd b ≠ 517 → kd b ≠ 518 → kd b ≠ 519 → kd b ≠ 520 → kd b ≠ 521 → kd b ≠ 522 → kd b ≠ 523 → kd b ≠ 524 → kd b ≠ 525 → kd b ≠ 526 → kd b ≠ 527 → kd b ≠ 535 → kd b ≠ 538 → f_77 b = f b) → (∀ b, kd b = 1 → fldR (f_77 b) 0 = fldR (f b) 0) → (∀ b, kd b = 1 → fldR (f_77 b) 1 = fldR (f b) 1) → (∀ b, kd b = 3 → fldR (f_77 b) 0 = fldR (f b) 0) → (∀ b, kd b = 3 → fldR (f_77 b) 3 = fldR (f b) 3) → (f_77 o0 = .inr (0, [.ref a_21, .ref a_22, .ref a_23, .int v_24, .ref a_25, .ref a_26, .ref a_27, .int v_28, .ref a_29, .int v_30, .int v_31])) → (f_77 a_2 = .inr (7, [.ref a_39, .int v_40, .ref a_41, .ref a_42, .ref a_43, .ref a_44, .int v_45, .ref a_46, .ref a_47, .ref a_48, .ref a_49, .ref a_50, .int v_51, .ref a_52, .ref a_53, .ref a_54])) → drel kd 1 521 522 f_77 a_5 → 9 - y_75.toInt < (n : Int) → ∀ (ls : Array Slot), lv_has ls 7 [(4, .int y_75), (3, .int v_40), (0, .ref o0), (1, .ref o1), (2, .ref o2)] → W p l e (headSpec (wU yX0_fillAgrees cX0_fillAgrees 7 none) { frames := 15, cells := 0, slots := 0, locals := 518 }).room s m [.ref o0, .ref o1, .ref o2].toArray below meth c H locs 0 0 (MQ below (va_Qv (fun (f9 : Nat → va_E) => GI (okc cI cL cZ cR cG cH L kd) kd L f9 ∧ (∀ b, kd b ≠ 1 → kd b ≠ 3 → kd b ≠ 10 → kd b ≠ 507 → kd b ≠ 517 → kd b ≠ 518 → kd b ≠ 519 → kd b ≠ 520 → kd b ≠ 521 → kd b ≠ 522 → kd b ≠ 523 → kd b ≠ 524 → kd b ≠ 525 → kd b ≠ 526 → kd b ≠ 527 → kd b ≠ 535 → kd b ≠ 538 → f9 b = f b) ∧ (∀ b, kd b = 1 → fldR (f9 b) 0 = fldR (f b) 0) ∧ (∀ b, kd b = 1 → fldR (f9 b) 1 = fldR (f b) 1) ∧ (∀ b, kd b = 3 → fldR (f9 b) 0 = fldR (f b) 0) ∧ (∀ b, kd b = 3 → fldR (f9 b) 3 = fldR (f b) 3) ∧ (∀ d9, fldR (f9 o1) 3 = some d9 → drel kd 1 521 522 f9 d9)) (qP (dC, dI) cI cL cZ cR cG cH L) (fun q => q ∈ L)) [.ref o0, .ref o1, .ref o2].toArray s 0 0 (fun q => q ∈ L)) (F0 m 19 ls []) := by
    intro n
    induction n with
    | zero => intro y_75 by_75 f_77 hG H locs hP hS hD hfr0 hrr1_0 hrr1_1 hrr3_0 hrr3_3 hfo_78 hfo_79 hT0 hmuhloop_74 ls hl; exfalso; omega
    | succ n ih_hloop_74 =>
      intro y_75 by_75 f_77 hG H locs hP hS hD hfr0 hrr1_0 hrr1_1 hrr3_0 hrr3_3 hfo_78 hfo_79 hT0 hmuhloop_74 ls hl
      refine lv_iload hx hb dX0_fillAgrees_19 (lv_at hl 0 rfl) ?_
      refine lv_iload_n hx hb dX0_fillAgrees_21 rfl (lv_at hl 1 rfl) ?_
      refine lv_icmp_gt (tgt := 128) hx hb dX0_fillAgrees_22 (by decide) (fun c_80 => ?_) (fun c_80 => ?_)
      · skip
        rw [Int32.lt_iff_toInt_lt] at c_80
        obtain ⟨a_82, a_83, a_84, a_85, a_86, v_87, v_88, v_89, v_90, v_91, v_92, v_93, a_94, a_95, a_96, v_97, a_98, a_99, hfo_81, ⟨ma_82, ka_82⟩, ⟨ma_83, ka_83⟩, ⟨ma_84, ka_84⟩, ⟨ma_85, ka_85⟩, ⟨ma_86, ka_86⟩, bv_87, bv_88, bv_89, ⟨ma_94, ka_94⟩, ⟨ma_95, ka_95⟩, ⟨ma_96, ka_96⟩, bv_97, ⟨ma_98, ka_98⟩, ⟨ma_99, ka_99⟩⟩ := un_3 (hG _ mo1) ko1
        have bv_90 : ((-2147483648) ≤ v_90.toInt ∧ v_90.toInt ≤ 2147483647) := ⟨i32_lo _, i32_hi _⟩
        have bv_91 : ((-2147483648) ≤ v_91.toInt ∧ v_91.toInt ≤ 2147483647) := ⟨i32_lo _, i32_hi _⟩
        have bv_92 : ((-2147483648) ≤ v_92.toInt ∧ v_92.toInt ≤ 2147483647) := ⟨i32_lo _, i32_hi _⟩
        have bv_93 : ((-2147483648) ≤ v_93.toInt ∧ v_93.toInt ≤ 2147483647) := ⟨i32_lo _, i32_hi _⟩
        obtain rfl : a_2 = a_82 := by have hk9 := hrr3_0 o1 ko1; rw [hfo_81, hfo_1] at hk9; exact (Option.some.inj hk9).symm
        obtain rfl : a_5 = a_85 := by have hk9 := hrr3_3 o1 ko1; rw [hfo_81, hfo_1] at hk9; exact (Option.some.inj hk9).symm
        exact W.vret hx hb hr (fun t ht hW => ⟨⟨f_77, rfl, ⟨hG, hfr0, hrr1_0, hrr1_1, hrr3_0, hrr3_3, (fun d9 h9 => by rw [hfo_81] at h9; obtain rfl := Option.some.inj h9; exact hT0)⟩, by rw [ht]; exact hP, va_K.moved hW.alike hK, pl_in hD⟩, hS.F ht⟩) hS.2.2 dX0_fillAgrees_128
      · skip
        rw [Int32.lt_iff_toInt_lt] at c_80
        refine lv_aload_n hx hb dX0_fillAgrees_25 rfl (lv_at hl 2 rfl) ?_
        refine tk_getP (D := (dC, dI)) (ci := 0) (v := .int v_30) (C := RX0) (T := TX0) (N := 11) hx hb hU inlX0 hown hK hP mo0 hfo_78 rfl 9 (by decide) (hU _ wd_1194) (fun _ h9 => h9) rfl dX0_fillAgrees_26 ?_
        refine lv_iconst (v := 2) hx hb dX0_fillAgrees_29 (by decide) ?_
        have hcut_101 : ∀ (y_100 : Int32), (0 ≤ y_100.toInt ∧ y_100.toInt ≤ 8) → ∀ (ls : Array Slot), lv_has ls 7 [(4, .int y_75), (3, .int v_40), (0, .ref o0), (1, .ref o1), (2, .ref o2)] → W p l e (headSpec (wU yX0_fillAgrees cX0_fillAgrees 7 none) { frames := 15, cells := 0, slots := 0, locals := 518 }).room s m [.ref o0, .ref o1, .ref o2].toArray below meth c H locs 0 0 (MQ below (va_Qv (fun (f9 : Nat → va_E) => GI (okc cI cL cZ cR cG cH L kd) kd L f9 ∧ (∀ b, kd b ≠ 1 → kd b ≠ 3 → kd b ≠ 10 → kd b ≠ 507 → kd b ≠ 517 → kd b ≠ 518 → kd b ≠ 519 → kd b ≠ 520 → kd b ≠ 521 → kd b ≠ 522 → kd b ≠ 523 → kd b ≠ 524 → kd b ≠ 525 → kd b ≠ 526 → kd b ≠ 527 → kd b ≠ 535 → kd b ≠ 538 → f9 b = f b) ∧ (∀ b, kd b = 1 → fldR (f9 b) 0 = fldR (f b) 0) ∧ (∀ b, kd b = 1 → fldR (f9 b) 1 = fldR (f b) 1) ∧ (∀ b, kd b = 3 → fldR (f9 b) 0 = fldR (f b) 0) ∧ (∀ b, kd b = 3 → fldR (f9 b) 3 = fldR (f b) 3) ∧ (∀ d9, fldR (f9 o1) 3 = some d9 → drel kd 1 521 522 f9 d9)) (qP (dC, dI) cI cL cZ cR cG cH L) (fun q => q ∈ L)) [.ref o0, .ref o1, .ref o2].toArray s 0 0 (fun q => q ∈ L)) (F0 m 38 ls [.int y_100]) := by
          intro y_100 by_100 ls hl
          refine lv_istore (lv' := [(5, .int y_100), (4, .int y_75), (3, .int v_40), (0, .ref o0), (1, .ref o1), (2, .ref o2)]) hx hb dX0_fillAgrees_38 hl (by decide) rfl (fun ls hl => ?_)
          refine lv_iconst (v := 0) hx hb dX0_fillAgrees_40 (by decide) ?_
          refine lv_istore (lv' := [(6, .int 0), (5, .int y_100), (4, .int y_75), (3, .int v_40), (0, .ref o0), (1, .ref o1), (2, .ref o2)]) hx hb dX0_fillAgrees_41 hl (by decide) rfl (fun ls hl => ?_)
          have hloop_120 : ∀ (n : Nat), ∀ (y_121 : Int32), (0 ≤ y_121.toInt ∧ y_121.toInt ≤ 9) → ∀ (f_123 : Nat → va_E), GI (okc cI cL cZ cR cG cH L kd) kd L f_123 → ∀ (H : Heap) (locs : List Loc), va_P (dC, dI) vwCl (va_pl L f_123) H → va_S (fun q => q ∈ L) s.heap H locs → va_D (fun q => q ∈ L) (va_pl L f_123) → (∀ b, kd b ≠ 1 → kd b ≠ 3 → kd b ≠ 10 → kd b ≠ 507 → kd b ≠ 517 → kd b ≠ 518 → kd b ≠ 519 → kd b ≠ 520 → kd b ≠ 521 → kd b ≠ 522 → kd b ≠ 523 → kd b ≠ 524 → kd b ≠ 525 → kd b ≠ 526 → kd b ≠ 527 → kd b ≠ 535 → kd b ≠ 538 → f_123 b = f b) → (∀ b, kd b = 1 → fldR (f_123 b) 0 = fldR (f b) 0) → (∀ b, kd b = 1 → fldR (f_123 b) 1 = fldR (f b) 1) → (∀ b, kd b = 3 → fldR (f_123 b) 0 = fldR (f b) 0) → (∀ b, kd b = 3 → fldR (f_123 b) 3 = fldR (f b) 3) → (f_123 o0 = .inr (0, [.ref a_21, .ref a_22, .ref a_23, .int v_24, .ref a_25, .ref a_26, .ref a_27, .int v_28, .ref a_29, .int v_30, .int v_31])) → (f_123 a_2 = .inr (7, [.ref a_39, .int v_40, .ref a_41, .ref a_42, .ref a_43, .ref a_44, .int v_45, .ref a_46, .ref a_47, .ref a_48, .ref a_49, .ref a_50, .int v_51, .ref a_52, .ref a_53, .ref a_54])) → drel kd 1 521 522 f_123 a_5 → 9 - y_121.toInt < (n : Int) → ∀ (ls : Array Slot), lv_has ls 7 [(6, .int y_121), (5, .int y_100), (4, .int y_75), (3, .int v_40), (0, .ref o0), (1, .ref o1), (2, .ref o2)] → W p l e (headSpec (wU yX0_fillAgrees cX0_fillAgrees 7 none) { frames := 15, cells := 0, slots := 0, locals := 518 }).room s m [.ref o0, .ref o1, .ref o2].toArray below meth c H locs 0 0 (MQ below (va_Qv (fun (f9 : Nat → va_E) => GI (okc cI cL cZ cR cG cH L kd) kd L f9 ∧ (∀ b, kd b ≠ 1 → kd b ≠ 3 → kd b ≠ 10 → kd b ≠ 507 → kd b ≠ 517 → kd b ≠ 518 → kd b ≠ 519 → kd b ≠ 520 → kd b ≠ 521 → kd b ≠ 522 → kd b ≠ 523 → kd b ≠ 524 → kd b ≠ 525 → kd b ≠ 526 → kd b ≠ 527 → kd b ≠ 535 → kd b ≠ 538 → f9 b = f b) ∧ (∀ b, kd b = 1 → fldR (f9 b) 0 = fldR (f b) 0) ∧ (∀ b, kd b = 1 → fldR (f9 b) 1 = fldR (f b) 1) ∧ (∀ b, kd b = 3 → fldR (f9 b) 0 = fldR (f b) 0) ∧ (∀ b, kd b = 3 → fldR (f9 b) 3 = fldR (f b) 3) ∧ (∀ d9, fldR (f9 o1) 3 = some d9 → drel kd 1 521 522 f9 d9)) (qP (dC, dI) cI cL cZ cR cG cH L) (fun q => q ∈ L)) [.ref o0, .ref o1, .ref o2].toArray s 0 0 (fun q => q ∈ L)) (F0 m 43 ls []) := by
            intro n
            induction n with
            | zero => intro y_121 by_121 f_123 hG H locs hP hS hD hfr0 hrr1_0 hrr1_1 hrr3_0 hrr3_3 hfo_124 hfo_125 hT0 hmuhloop_120 ls hl; exfalso; omega
            | succ n ih_hloop_120 =>
              intro y_121 by_121 f_123 hG H locs hP hS hD hfr0 hrr1_0 hrr1_1 hrr3_0 hrr3_3 hfo_124 hfo_125 hT0 hmuhloop_120 ls hl
              refine lv_iload hx hb dX0_fillAgrees_43 (lv_at hl 0 rfl) ?_
              refine lv_iload hx hb dX0_fillAgrees_45 (lv_at hl 1 rfl) ?_
              refine lv_icmp_gt (tgt := 122) hx hb dX0_fillAgrees_47 (by decide) (fun c_126 => ?_) (fun c_126 => ?_)
              · skip
                rw [Int32.lt_iff_toInt_lt] at c_126
                obtain ⟨x_127, ex_127⟩ : ∃ y : Int32, y_75 + 1 = y := ⟨_, rfl⟩
                have hx_127 : x_127.toInt = y_75.toInt + 1 := by rw [← ex_127, ad_I (by rw [ti_1]; omega) (by rw [ti_1]; omega), ti_1]
                have bx_127 : (2 ≤ x_127.toInt ∧ x_127.toInt ≤ 9) := by constructor <;> omega
                refine lv_iinc (v := x_127) (lv' := [(4, .int x_127), (6, .int y_121), (5, .int y_100), (3, .int v_40), (0, .ref o0), (1, .ref o1), (2, .ref o2)]) hx hb dX0_fillAgrees_122 hl (k := 2) rfl ex_127 (by decide) rfl (fun ls hl => ?_)
                refine lv_goto (tgt := 19) hx hb dX0_fillAgrees_125 (by decide) ?_
                exact ih_hloop_74 x_127 (by constructor <;> omega) f_123 hG _ _ hP hS hD hfr0 hrr1_0 hrr1_1 hrr3_0 hrr3_3 hfo_124 hfo_125 hT0 (by omega) ls (lv_sub hl [0, 3, 4, 5, 6] rfl)
              · skip
                rw [Int32.lt_iff_toInt_lt] at c_126
                refine lv_aload_n hx hb dX0_fillAgrees_50 rfl (lv_at hl 4 rfl) ?_
                refine tk_getP (D := (dC, dI)) (ci := 0) (v := .ref a_29) (C := RX0) (T := TX0) (N := 11) hx hb hU inlX0 hown hK hP mo0 hfo_124 rfl 8 (by decide) (hU _ wd_163) (fun _ h9 => h9) rfl dX0_fillAgrees_51 ?_
                refine lv_iconst (v := 0) hx hb dX0_fillAgrees_54 (by decide) ?_
                refine lv_iload hx hb dX0_fillAgrees_55 (lv_at hl 2 rfl) ?_
                obtain ⟨g_129, hfo_128, hbg_129⟩ := un_538 (hG _ ma_29) ka_29
                refine tk_istP hx hb hK hP hD hS 0 ma_29 hfo_128 rfl (vp_in_nI (n := 0) (by decide) (by decide)) dX0_fillAgrees_57 (fun H locs hP hD hS => ?_)
                obtain ⟨f_131, ef_131⟩ : ∃ y : Nat → va_E, y = va_up f_123 a_29 (.inl (cI, 2, .inl (upd g_129 (Int32.toNatClampNeg 0) y_75))) := ⟨_, rfl⟩
                have hP : va_P (dC, dI) vwCl (va_pl L f_131) H := by rw [ef_131]; exact hP
                have hD : va_D (fun q => q ∈ L) (va_pl L f_131) := by rw [ef_131]; exact hD
                have hG : GI (okc cI cL cZ cR cG cH L kd) kd L f_131 := by rw [ef_131]; exact hG.set a_29 (mk_538 ka_29 ⟨_, rfl, okI_up hbg_129 (by constructor <;> omega) _⟩)
                have hfo_132 : f_131 o0 = .inr (0, [.ref a_21, .ref a_22, .ref a_23, .int v_24, .ref a_25, .ref a_26, .ref a_27, .int v_28, .ref a_29, .int v_30, .int v_31]) := by rw [ef_131, up_ne (kd_ne ka_29 ko0 (by decide))]; exact hfo_124
                have hfo_133 : f_131 a_2 = .inr (7, [.ref a_39, .int v_40, .ref a_41, .ref a_42, .ref a_43, .ref a_44, .int v_45, .ref a_46, .ref a_47, .ref a_48, .ref a_49, .ref a_50, .int v_51, .ref a_52, .ref a_53, .ref a_54]) := by rw [ef_131, up_ne (kd_ne ka_29 ka_2 (by decide))]; exact hfo_125
                have hfr0 : ∀ b, kd b ≠ 1 → kd b ≠ 3 → kd b ≠ 10 → kd b ≠ 507 → kd b ≠ 517 → kd b ≠ 518 → kd b ≠ 519 → kd b ≠ 520 → kd b ≠ 521 → kd b ≠ 522 → kd b ≠ 523 → kd b ≠ 524 → kd b ≠ 525 → kd b ≠ 526 → kd b ≠ 527 → kd b ≠ 535 → kd b ≠ 538 → f_131 b = f b := fun b q1 q3 q10 q507 q517 q518 q519 q520 q521 q522 q523 q524 q525 q526 q527 q535 q538 => (congrFun ef_131 b).trans ((up_ne (fun e9 => q538 (by rw [e9]; exact ka_29))).trans (hfr0 b q1 q3 q10 q507 q517 q518 q519 q520 q521 q522 q523 q524 q525 q526 q527 q535 q538))
                have hrr1_0 : ∀ b, kd b = 1 → fldR (f_131 b) 0 = fldR (f b) 0 := fun b kb => (congrArg (fun x => fldR x 0) ((congrFun ef_131 b).trans (up_ne (kd_ne ka_29 kb (by decide))))).trans (hrr1_0 b kb)
                have hrr1_1 : ∀ b, kd b = 1 → fldR (f_131 b) 1 = fldR (f b) 1 := fun b kb => (congrArg (fun x => fldR x 1) ((congrFun ef_131 b).trans (up_ne (kd_ne ka_29 kb (by decide))))).trans (hrr1_1 b kb)
                have hrr3_0 : ∀ b, kd b = 3 → fldR (f_131 b) 0 = fldR (f b) 0 := fun b kb => (congrArg (fun x => fldR x 0) ((congrFun ef_131 b).trans (up_ne (kd_ne ka_29 kb (by decide))))).trans (hrr3_0 b kb)
                have hrr3_3 : ∀ b, kd b = 3 → fldR (f_131 b) 3 = fldR (f b) 3 := fun b kb => (congrArg (fun x => fldR x 3) ((congrFun ef_131 b).trans (up_ne (kd_ne ka_29 kb (by decide))))).trans (hrr3_3 b kb)
                have hT0 : drel kd 1 521 522 f_131 a_5 := by rw [ef_131]; exact hT0.up ka_29 (by decide) (by decide) (by decide)
                have hfo_134 : f_131 a_29 = .inl (cI, 2, .inl (upd g_129 (Int32.toNatClampNeg 0) y_75)) := by rw [ef_131]; exact up_self
                refine lv_aload_n hx hb dX0_fillAgrees_58 rfl (lv_at hl 4 rfl) ?_
                refine tk_getP (D := (dC, dI)) (ci := 0) (v := .ref a_29) (C := RX0) (T := TX0) (N := 11) hx hb hU inlX0 hown hK hP mo0 hfo_132 rfl 8 (by decide) (hU _ wd_163) (fun _ h9 => h9) rfl dX0_fillAgrees_59 ?_
                refine lv_iconst (v := 1) hx hb dX0_fillAgrees_62 (by decide) ?_
                refine lv_iload hx hb dX0_fillAgrees_63 (lv_at hl 0 rfl) ?_
                obtain ⟨g_136, hfo_135, hbg_136⟩ := un_538 (hG _ ma_29) ka_29
                refine tk_istP hx hb hK hP hD hS 0 ma_29 hfo_135 rfl (vp_in_nI (n := 1) (by decide) (by decide)) dX0_fillAgrees_65 (fun H locs hP hD hS => ?_)
                obtain ⟨f_138, ef_138⟩ : ∃ y : Nat → va_E, y = va_up f_131 a_29 (.inl (cI, 2, .inl (upd g_136 (Int32.toNatClampNeg 1) y_121))) := ⟨_, rfl⟩
                have hP : va_P (dC, dI) vwCl (va_pl L f_138) H := by rw [ef_138]; exact hP
                have hD : va_D (fun q => q ∈ L) (va_pl L f_138) := by rw [ef_138]; exact hD
                have hG : GI (okc cI cL cZ cR cG cH L kd) kd L f_138 := by rw [ef_138]; exact hG.set a_29 (mk_538 ka_29 ⟨_, rfl, okI_up hbg_136 (by constructor <;> omega) _⟩)
                have hfo_139 : f_138 o0 = .inr (0, [.ref a_21, .ref a_22, .ref a_23, .int v_24, .ref a_25, .ref a_26, .ref a_27, .int v_28, .ref a_29, .int v_30, .int v_31]) := by rw [ef_138, up_ne (kd_ne ka_29 ko0 (by decide))]; exact hfo_132
                have hfo_140 : f_138 a_2 = .inr (7, [.ref a_39, .int v_40, .ref a_41, .ref a_42, .ref a_43, .ref a_44, .int v_45, .ref a_46, .ref a_47, .ref a_48, .ref a_49, .ref a_50, .int v_51, .ref a_52, .ref a_53, .ref a_54]) := by rw [ef_138, up_ne (kd_ne ka_29 ka_2 (by decide))]; exact hfo_133
                have hfr0 : ∀ b, kd b ≠ 1 → kd b ≠ 3 → kd b ≠ 10 → kd b ≠ 507 → kd b ≠ 517 → kd b ≠ 518 → kd b ≠ 519 → kd b ≠ 520 → kd b ≠ 521 → kd b ≠ 522 → kd b ≠ 523 → kd b ≠ 524 → kd b ≠ 525 → kd b ≠ 526 → kd b ≠ 527 → kd b ≠ 535 → kd b ≠ 538 → f_138 b = f b := fun b q1 q3 q10 q507 q517 q518 q519 q520 q521 q522 q523 q524 q525 q526 q527 q535 q538 => (congrFun ef_138 b).trans ((up_ne (fun e9 => q538 (by rw [e9]; exact ka_29))).trans (hfr0 b q1 q3 q10 q507 q517 q518 q519 q520 q521 q522 q523 q524 q525 q526 q527 q535 q538))
                have hrr1_0 : ∀ b, kd b = 1 → fldR (f_138 b) 0 = fldR (f b) 0 := fun b kb => (congrArg (fun x => fldR x 0) ((congrFun ef_138 b).trans (up_ne (kd_ne ka_29 kb (by decide))))).trans (hrr1_0 b kb)
                have hrr1_1 : ∀ b, kd b = 1 → fldR (f_138 b) 1 = fldR (f b) 1 := fun b kb => (congrArg (fun x => fldR x 1) ((congrFun ef_138 b).trans (up_ne (kd_ne ka_29 kb (by decide))))).trans (hrr1_1 b kb)
                have hrr3_0 : ∀ b, kd b = 3 → fldR (f_138 b) 0 = fldR (f b) 0 := fun b kb => (congrArg (fun x => fldR x 0) ((congrFun ef_138 b).trans (up_ne (kd_ne ka_29 kb (by decide))))).trans (hrr3_0 b kb)
                have hrr3_3 : ∀ b, kd b = 3 → fldR (f_138 b) 3 = fldR (f b) 3 := fun b kb => (congrArg (fun x => fldR x 3) ((congrFun ef_138 b).trans (up_ne (kd_ne ka_29 kb (by decide))))).trans (hrr3_3 b kb)
                have hT0 : drel kd 1 521 522 f_138 a_5 := by rw [ef_138]; exact hT0.up ka_29 (by decide) (by decide) (by decide)
                have hfo_141 : f_138 a_29 = .inl (cI, 2, .inl (upd g_136 (Int32.toNatClampNeg 1) y_121)) := by rw [ef_138]; exact up_self
                refine lv_aload_n hx hb dX0_fillAgrees_66 rfl (lv_at hl 5 rfl) ?_
                refine lv_aload_n hx hb dX0_fillAgrees_67 rfl (lv_at hl 4 rfl) ?_
                refine tk_getP (D := (dC, dI)) (ci := 0) (v := .ref a_29) (C := RX0) (T := TX0) (N := 11) hx hb hU inlX0 hown hK hP mo0 hfo_139 rfl 8 (by decide) (hU _ wd_163) (fun _ h9 => h9) rfl dX0_fillAgrees_68 ?_
                refine lv_iload hx hb dX0_fillAgrees_71 (lv_at hl 0 rfl) ?_
                have hcut_143 : ∀ (y_142 : Int32), (1 ≤ y_142.toInt ∧ y_142.toInt ≤ 2) → ∀ (ls : Array Slot), lv_has ls 7 [(6, .int y_121), (5, .int y_100), (4, .int y_75), (3, .int v_40), (0, .ref o0), (1, .ref o1), (2, .ref o2)] → W p l e (headSpec (wU yX0_fillAgrees cX0_fillAgrees 7 none) { frames := 15, cells := 0, slots := 0, locals := 518 }).room s m [.ref o0, .ref o1, .ref o2].toArray below meth c H locs 0 0 (MQ below (va_Qv (fun (f9 : Nat → va_E) => GI (okc cI cL cZ cR cG cH L kd) kd L f9 ∧ (∀ b, kd b ≠ 1 → kd b ≠ 3 → kd b ≠ 10 → kd b ≠ 507 → kd b ≠ 517 → kd b ≠ 518 → kd b ≠ 519 → kd b ≠ 520 → kd b ≠ 521 → kd b ≠ 522 → kd b ≠ 523 → kd b ≠ 524 → kd b ≠ 525 → kd b ≠ 526 → kd b ≠ 527 → kd b ≠ 535 → kd b ≠ 538 → f9 b = f b) ∧ (∀ b, kd b = 1 → fldR (f9 b) 0 = fldR (f b) 0) ∧ (∀ b, kd b = 1 → fldR (f9 b) 1 = fldR (f b) 1) ∧ (∀ b, kd b = 3 → fldR (f9 b) 0 = fldR (f b) 0) ∧ (∀ b, kd b = 3 → fldR (f9 b) 3 = fldR (f b) 3) ∧ (∀ d9, fldR (f9 o1) 3 = some d9 → drel kd 1 521 522 f9 d9)) (qP (dC, dI) cI cL cZ cR cG cH L) (fun q => q ∈ L)) [.ref o0, .ref o1, .ref o2].toArray s 0 0 (fun q => q ∈ L)) (F0 m 81 ls [.int y_142, .ref a_29, .ref o1]) := by
                  intro y_142 by_142 ls hl
                  obtain ⟨a_145, a_146, a_147, a_148, a_149, v_150, v_151, v_152, v_153, v_154, v_155, v_156, a_157, a_158, a_159, v_160, a_161, a_162, hfo_144, ⟨ma_145, ka_145⟩, ⟨ma_146, ka_146⟩, ⟨ma_147, ka_147⟩, ⟨ma_148, ka_148⟩, ⟨ma_149, ka_149⟩, bv_150, bv_151, bv_152, ⟨ma_157, ka_157⟩, ⟨ma_158, ka_158⟩, ⟨ma_159, ka_159⟩, bv_160, ⟨ma_161, ka_161⟩, ⟨ma_162, ka_162⟩⟩ := un_3 (hG _ mo1) ko1
                  have bv_153 : ((-2147483648) ≤ v_153.toInt ∧ v_153.toInt ≤ 2147483647) := ⟨i32_lo _, i32_hi _⟩
                  have bv_154 : ((-2147483648) ≤ v_154.toInt ∧ v_154.toInt ≤ 2147483647) := ⟨i32_lo _, i32_hi _⟩
                  have bv_155 : ((-2147483648) ≤ v_155.toInt ∧ v_155.toInt ≤ 2147483647) := ⟨i32_lo _, i32_hi _⟩
                  have bv_156 : ((-2147483648) ≤ v_156.toInt ∧ v_156.toInt ≤ 2147483647) := ⟨i32_lo _, i32_hi _⟩
                  obtain rfl : a_2 = a_145 := by have hk9 := hrr3_0 o1 ko1; rw [hfo_144, hfo_1] at hk9; exact (Option.some.inj hk9).symm
                  obtain rfl : a_5 = a_148 := by have hk9 := hrr3_3 o1 ko1; rw [hfo_144, hfo_1] at hk9; exact (Option.some.inj hk9).symm
                  refine tk_VvP (As := [.ref a_29, .int y_142]) (rest := []) (n := 2) hx hb hml hown hU hN hZ (s_X3_takeSigns_k3_a538 l (dC, dI) cI cL cZ cR cG cH Z kd L f_138 hG o1 mo1 ko1 a_29 ma_29 ka_29 y_142) wd_1215 wd_719 wd_720 wd_16 wd_721 (by decide +kernel) ⟨Nat.le_of_ble_eq_true rfl, Nat.le_of_ble_eq_true rfl⟩ hK hP hD hS mo1 hfo_144 3 rfl rfl rfl hl.1 rfl (Nat.le_of_ble_eq_true rfl) dX0_fillAgrees_81 ⟨Nat.le_of_ble_eq_true rfl, Nat.le_of_ble_eq_true rfl⟩ (fun f_164 H locs hw hP hD hS => ?_)
                  obtain ⟨hG, hkc_165, hrc_166, hrc_167⟩ := hw
                  have hfo_169 : f_164 o0 = .inr (0, [.ref a_21, .ref a_22, .ref a_23, .int v_24, .ref a_25, .ref a_26, .ref a_27, .int v_28, .ref a_29, .int v_30, .int v_31]) := by rw [hkc_165 o0 (by rw [ko0]; decide) (by rw [ko0]; decide)]; exact hfo_139
                  have hfo_170 : f_164 a_2 = .inr (7, [.ref a_39, .int v_40, .ref a_41, .ref a_42, .ref a_43, .ref a_44, .int v_45, .ref a_46, .ref a_47, .ref a_48, .ref a_49, .ref a_50, .int v_51, .ref a_52, .ref a_53, .ref a_54]) := by rw [hkc_165 a_2 (by rw [ka_2]; decide) (by rw [ka_2]; decide)]; exact hfo_140
                  have hfr0 : ∀ b, kd b ≠ 1 → kd b ≠ 3 → kd b ≠ 10 → kd b ≠ 507 → kd b ≠ 517 → kd b ≠ 518 → kd b ≠ 519 → kd b ≠ 520 → kd b ≠ 521 → kd b ≠ 522 → kd b ≠ 523 → kd b ≠ 524 → kd b ≠ 525 → kd b ≠ 526 → kd b ≠ 527 → kd b ≠ 535 → kd b ≠ 538 → f_164 b = f b := fun b q1 q3 q10 q507 q517 q518 q519 q520 q521 q522 q523 q524 q525 q526 q527 q535 q538 => (hkc_165 b q3 q507).trans (hfr0 b q1 q3 q10 q507 q517 q518 q519 q520 q521 q522 q523 q524 q525 q526 q527 q535 q538)
                  have hrr1_0 : ∀ b, kd b = 1 → fldR (f_164 b) 0 = fldR (f b) 0 := fun b kb => (congrArg (fun x => fldR x 0) (hkc_165 b (by rw [kb]; decide) (by rw [kb]; decide))).trans (hrr1_0 b kb)
                  have hrr1_1 : ∀ b, kd b = 1 → fldR (f_164 b) 1 = fldR (f b) 1 := fun b kb => (congrArg (fun x => fldR x 1) (hkc_165 b (by rw [kb]; decide) (by rw [kb]; decide))).trans (hrr1_1 b kb)
                  have hrr3_0 : ∀ b, kd b = 3 → fldR (f_164 b) 0 = fldR (f b) 0 := fun b kb => (hrc_166 b kb).trans (hrr3_0 b kb)
                  have hrr3_3 : ∀ b, kd b = 3 → fldR (f_164 b) 3 = fldR (f b) 3 := fun b kb => (hrc_167 b kb).trans (hrr3_3 b kb)
                  have hT0 : drel kd 1 521 522 f_164 a_5 := hT0.keep (fun b q => congrArg (fun x => fldI x 5) (hkc_165 b (by rw [q]; decide) (by rw [q]; decide))) (fun b q => congrArg (fun x => fldR x 0) (hkc_165 b (by rw [q]; decide) (by rw [q]; decide))) (fun b q => congrArg (fun x => fldR x 1) (hkc_165 b (by rw [q]; decide) (by rw [q]; decide))) (fun b q => hkc_165 b (by rw [q]; decide) (by rw [q]; decide)) (fun b q => hkc_165 b (by rw [q]; decide) (by rw [q]; decide))
                  obtain ⟨a_172, a_173, a_174, a_175, a_176, v_177, v_178, v_179, v_180, v_181, v_182, v_183, a_184, a_185, a_186, v_187, a_188, a_189, hfo_171, ⟨ma_172, ka_172⟩, ⟨ma_173, ka_173⟩, ⟨ma_174, ka_174⟩, ⟨ma_175, ka_175⟩, ⟨ma_176, ka_176⟩, bv_177, bv_178, bv_179, ⟨ma_184, ka_184⟩, ⟨ma_185, ka_185⟩, ⟨ma_186, ka_186⟩, bv_187, ⟨ma_188, ka_188⟩, ⟨ma_189, ka_189⟩⟩ := un_3 (hG _ mo1) ko1
                  have bv_180 : ((-2147483648) ≤ v_180.toInt ∧ v_180.toInt ≤ 2147483647) := ⟨i32_lo _, i32_hi _⟩
                  have bv_181 : ((-2147483648) ≤ v_181.toInt ∧ v_181.toInt ≤ 2147483647) := ⟨i32_lo _, i32_hi _⟩
                  have bv_182 : ((-2147483648) ≤ v_182.toInt ∧ v_182.toInt ≤ 2147483647) := ⟨i32_lo _, i32_hi _⟩
                  have bv_183 : ((-2147483648) ≤ v_183.toInt ∧ v_183.toInt ≤ 2147483647) := ⟨i32_lo _, i32_hi _⟩
                  obtain rfl : a_2 = a_172 := by have hk9 := hrr3_0 o1 ko1; rw [hfo_171, hfo_1] at hk9; exact (Option.some.inj hk9).symm
                  obtain rfl : a_5 = a_175 := by have hk9 := hrr3_3 o1 ko1; rw [hfo_171, hfo_1] at hk9; exact (Option.some.inj hk9).symm
                  refine lv_aload_n hx hb dX0_fillAgrees_84 rfl (lv_at hl 5 rfl) ?_
                  refine lv_aload_n hx hb dX0_fillAgrees_85 rfl (lv_at hl 6 rfl) ?_
                  obtain ⟨v_191, v_192, a_193, a_194, a_195, v_196, a_197, a_198, a_199, hfo_190, bv_192, ⟨ma_193, ka_193⟩, ⟨ma_194, ka_194⟩, ⟨ma_195, ka_195⟩, ⟨ma_197, ka_197⟩, ⟨ma_198, ka_198⟩, ⟨ma_199, ka_199⟩⟩ := un_6 (hG _ mo2) ko2
                  have bv_191 : ((-2147483648) ≤ v_191.toInt ∧ v_191.toInt ≤ 2147483647) := ⟨i32_lo _, i32_hi _⟩
                  have bv_196 : ((-2147483648) ≤ v_196.toInt ∧ v_196.toInt ≤ 2147483647) := ⟨i32_lo _, i32_hi _⟩
                  refine tk_getP (D := (dC, dI)) (ci := 6) (v := .int v_191) (C := RX6) (T := TX6) (N := 9) hx hb hU inlX6 hown hK hP mo2 hfo_190 rfl 0 (by decide) (hU _ wd_1198) (fun _ h9 => h9) rfl dX0_fillAgrees_86 ?_
                  refine lv_aload_n hx hb dX0_fillAgrees_89 rfl (lv_at hl 6 rfl) ?_
                  refine tk_getP (D := (dC, dI)) (ci := 6) (v := .int v_191) (C := RX6) (T := TX6) (N := 9) hx hb hU inlX6 hown hK hP mo2 hfo_190 rfl 0 (by decide) (hU _ wd_1198) (fun _ h9 => h9) rfl dX0_fillAgrees_90 ?_
                  refine lv_aload_n hx hb dX0_fillAgrees_93 rfl (lv_at hl 6 rfl) ?_
                  refine tk_getP (D := (dC, dI)) (ci := 6) (v := .int v_191) (C := RX6) (T := TX6) (N := 9) hx hb hU inlX6 hown hK hP mo2 hfo_190 rfl 0 (by decide) (hU _ wd_1198) (fun _ h9 => h9) rfl dX0_fillAgrees_94 ?_
                  refine lv_aload_n hx hb dX0_fillAgrees_97 rfl (lv_at hl 6 rfl) ?_
                  refine tk_getP (D := (dC, dI)) (ci := 6) (v := .int v_192) (C := RX6) (T := TX6) (N := 9) hx hb hU inlX6 hown hK hP mo2 hfo_190 rfl 1 (by decide) (hU _ wd_1213) (fun _ h9 => h9) rfl dX0_fillAgrees_98 ?_
                  refine tk_VvP (As := [.int v_191, .int v_191, .int v_191, .int v_192]) (rest := []) (n := 4) hx hb hml hown hU hN hZ (s_X3_list_k3 l (dC, dI) cI cL cZ cR cG cH Z kd L f_164 hG o1 mo1 ko1 v_191 v_191 v_191 v_192 (fun d9 h9 => by rw [hfo_171] at h9; obtain rfl := Option.some.inj h9; exact hT0)) wd_1216 wd_1162 wd_1163 wd_16 wd_1164 (by decide +kernel) ⟨Nat.le_of_ble_eq_true rfl, Nat.le_of_ble_eq_true rfl⟩ hK hP hD hS mo1 hfo_171 3 rfl rfl rfl hl.1 rfl (Nat.le_of_ble_eq_true rfl) dX0_fillAgrees_101 ⟨Nat.le_of_ble_eq_true rfl, Nat.le_of_ble_eq_true rfl⟩ (fun f_201 H locs hw hP hD hS => ?_)
                  obtain ⟨hG, hkc_202, hrc_203, hrc_204, hrc_205, hrc_206, hTc_207⟩ := hw
                  have hfo_209 : f_201 o0 = .inr (0, [.ref a_21, .ref a_22, .ref a_23, .int v_24, .ref a_25, .ref a_26, .ref a_27, .int v_28, .ref a_29, .int v_30, .int v_31]) := by rw [hkc_202 o0 (by rw [ko0]; decide) (by rw [ko0]; decide) (by rw [ko0]; decide) (by rw [ko0]; decide) (by rw [ko0]; decide) (by rw [ko0]; decide) (by rw [ko0]; decide) (by rw [ko0]; decide) (by rw [ko0]; decide) (by rw [ko0]; decide) (by rw [ko0]; decide) (by rw [ko0]; decide) (by rw [ko0]; decide) (by rw [ko0]; decide)]; exact hfo_169
                  have hfo_210 : f_201 a_2 = .inr (7, [.ref a_39, .int v_40, .ref a_41, .ref a_42, .ref a_43, .ref a_44, .int v_45, .ref a_46, .ref a_47, .ref a_48, .ref a_49, .ref a_50, .int v_51, .ref a_52, .ref a_53, .ref a_54]) := by rw [hkc_202 a_2 (by rw [ka_2]; decide) (by rw [ka_2]; decide) (by rw [ka_2]; decide) (by rw [ka_2]; decide) (by rw [ka_2]; decide) (by rw [ka_2]; decide) (by rw [ka_2]; decide) (by rw [ka_2]; decide) (by rw [ka_2]; decide) (by rw [ka_2]; decide) (by rw [ka_2]; decide) (by rw [ka_2]; decide) (by rw [ka_2]; decide) (by rw [ka_2]; decide)]; exact hfo_170
                  have hfo_211 : f_201 o2 = .inr (6, [.int v_191, .int v_192, .ref a_193, .ref a_194, .ref a_195, .int v_196, .ref a_197, .ref a_198, .ref a_199]) := by rw [hkc_202 o2 (by rw [ko2]; decide) (by rw [ko2]; decide) (by rw [ko2]; decide) (by rw [ko2]; decide) (by rw [ko2]; decide) (by rw [ko2]; decide) (by rw [ko2]; decide) (by rw [ko2]; decide) (by rw [ko2]; decide) (by rw [ko2]; decide) (by rw [ko2]; decide) (by rw [ko2]; decide) (by rw [ko2]; decide) (by rw [ko2]; decide)]; exact hfo_190
                  have hfr0 : ∀ b, kd b ≠ 1 → kd b ≠ 3 → kd b ≠ 10 → kd b ≠ 507 → kd b ≠ 517 → kd b ≠ 518 → kd b ≠ 519 → kd b ≠ 520 → kd b ≠ 521 → kd b ≠ 522 → kd b ≠ 523 → kd b ≠ 524 → kd b ≠ 525 → kd b ≠ 526 → kd b ≠ 527 → kd b ≠ 535 → kd b ≠ 538 → f_201 b = f b := fun b q1 q3 q10 q507 q517 q518 q519 q520 q521 q522 q523 q524 q525 q526 q527 q535 q538 => (hkc_202 b q1 q3 q10 q517 q518 q519 q520 q521 q522 q523 q524 q525 q526 q527).trans (hfr0 b q1 q3 q10 q507 q517 q518 q519 q520 q521 q522 q523 q524 q525 q526 q527 q535 q538)
                  have hrr1_0 : ∀ b, kd b = 1 → fldR (f_201 b) 0 = fldR (f b) 0 := fun b kb => (hrc_203 b kb).trans (hrr1_0 b kb)
                  have hrr1_1 : ∀ b, kd b = 1 → fldR (f_201 b) 1 = fldR (f b) 1 := fun b kb => (hrc_204 b kb).trans (hrr1_1 b kb)
                  have hrr3_0 : ∀ b, kd b = 3 → fldR (f_201 b) 0 = fldR (f b) 0 := fun b kb => (hrc_205 b kb).trans (hrr3_0 b kb)
                  have hrr3_3 : ∀ b, kd b = 3 → fldR (f_201 b) 3 = fldR (f b) 3 := fun b kb => (hrc_206 b kb).trans (hrr3_3 b kb)
                  obtain ⟨a_213, a_214, a_215, a_216, a_217, v_218, v_219, v_220, v_221, v_222, v_223, v_224, a_225, a_226, a_227, v_228, a_229, a_230, hfo_212, ⟨ma_213, ka_213⟩, ⟨ma_214, ka_214⟩, ⟨ma_215, ka_215⟩, ⟨ma_216, ka_216⟩, ⟨ma_217, ka_217⟩, bv_218, bv_219, bv_220, ⟨ma_225, ka_225⟩, ⟨ma_226, ka_226⟩, ⟨ma_227, ka_227⟩, bv_228, ⟨ma_229, ka_229⟩, ⟨ma_230, ka_230⟩⟩ := un_3 (hG _ mo1) ko1
                  have bv_221 : ((-2147483648) ≤ v_221.toInt ∧ v_221.toInt ≤ 2147483647) := ⟨i32_lo _, i32_hi _⟩
                  have bv_222 : ((-2147483648) ≤ v_222.toInt ∧ v_222.toInt ≤ 2147483647) := ⟨i32_lo _, i32_hi _⟩
                  have bv_223 : ((-2147483648) ≤ v_223.toInt ∧ v_223.toInt ≤ 2147483647) := ⟨i32_lo _, i32_hi _⟩
                  have bv_224 : ((-2147483648) ≤ v_224.toInt ∧ v_224.toInt ≤ 2147483647) := ⟨i32_lo _, i32_hi _⟩
                  obtain rfl : a_2 = a_213 := by have hk9 := hrr3_0 o1 ko1; rw [hfo_212, hfo_1] at hk9; exact (Option.some.inj hk9).symm
                  obtain rfl : a_5 = a_216 := by have hk9 := hrr3_3 o1 ko1; rw [hfo_212, hfo_1] at hk9; exact (Option.some.inj hk9).symm
                  have hT_231 := hTc_207 a_5 (by rw [hfo_212]; rfl)
                  refine lv_aload_n hx hb dX0_fillAgrees_104 rfl (lv_at hl 4 rfl) ?_
                  refine lv_aload_n hx hb dX0_fillAgrees_105 rfl (lv_at hl 5 rfl) ?_
                  refine lv_iload hx hb dX0_fillAgrees_106 (lv_at hl 2 rfl) ?_
                  refine lv_iload hx hb dX0_fillAgrees_108 (lv_at hl 0 rfl) ?_
                  refine tk_SiP (As := [.int y_75, .int y_121]) (rest := [.ref o1, .ref o0]) (n := 2) hx hb hml hown hU hN hZ (s_X0_numberOf l (dC, dI) cI cL cZ cR cG cH Z kd L f_201 hG y_75 (by constructor <;> omega) y_121 (by constructor <;> omega)) wd_1206 wd_1207 wd_37 wd_1208 (by decide +kernel) ⟨Nat.le_of_ble_eq_true rfl, Nat.le_of_ble_eq_true rfl⟩ hK hP hD hS rfl hl.1 rfl (Nat.le_of_ble_eq_true rfl) dX0_fillAgrees_110 ⟨Nat.le_of_ble_eq_true rfl, Nat.le_of_ble_eq_true rfl⟩ (fun x_232 f_233 H locs hw hP hD hS => ?_)
                  obtain ⟨rfl, bx_232⟩ := hw
                  refine tk_VvP (As := [.ref o1, .int x_232]) (rest := []) (n := 2) hx hb hml hown hU hN hZ (s_X0_noteSaid_k0_k3 l (dC, dI) cI cL cZ cR cG cH Z kd L f_201 hG o0 mo0 ko0 o1 mo1 ko1 x_232 (by constructor <;> omega)) wd_1217 wd_1218 wd_1219 wd_37 wd_1220 (by decide +kernel) ⟨Nat.le_of_ble_eq_true rfl, Nat.le_of_ble_eq_true rfl⟩ hK hP hD hS mo0 hfo_209 0 rfl rfl rfl hl.1 rfl (Nat.le_of_ble_eq_true rfl) dX0_fillAgrees_113 ⟨Nat.le_of_ble_eq_true rfl, Nat.le_of_ble_eq_true rfl⟩ (fun f_236 H locs hw hP hD hS => ?_)
                  obtain ⟨hG, hkc_237⟩ := hw
                  have hfo_239 : f_236 o0 = .inr (0, [.ref a_21, .ref a_22, .ref a_23, .int v_24, .ref a_25, .ref a_26, .ref a_27, .int v_28, .ref a_29, .int v_30, .int v_31]) := by rw [hkc_237 o0 (by rw [ko0]; decide)]; exact hfo_209
                  have hfo_240 : f_236 a_2 = .inr (7, [.ref a_39, .int v_40, .ref a_41, .ref a_42, .ref a_43, .ref a_44, .int v_45, .ref a_46, .ref a_47, .ref a_48, .ref a_49, .ref a_50, .int v_51, .ref a_52, .ref a_53, .ref a_54]) := by rw [hkc_237 a_2 (by rw [ka_2]; decide)]; exact hfo_210
                  have hfo_241 : f_236 o2 = .inr (6, [.int v_191, .int v_192, .ref a_193, .ref a_194, .ref a_195, .int v_196, .ref a_197, .ref a_198, .ref a_199]) := by rw [hkc_237 o2 (by rw [ko2]; decide)]; exact hfo_211
                  have hfo_242 : f_236 o1 = .inr (3, [.ref a_2, .ref a_214, .ref a_215, .ref a_5, .ref a_217, .int v_218, .int v_219, .int v_220, .int v_221, .int v_222, .int v_223, .int v_224, .ref a_225, .ref a_226, .ref a_227, .int v_228, .ref a_229, .ref a_230]) := by rw [hkc_237 o1 (by rw [ko1]; decide)]; exact hfo_212
                  have hfr0 : ∀ b, kd b ≠ 1 → kd b ≠ 3 → kd b ≠ 10 → kd b ≠ 507 → kd b ≠ 517 → kd b ≠ 518 → kd b ≠ 519 → kd b ≠ 520 → kd b ≠ 521 → kd b ≠ 522 → kd b ≠ 523 → kd b ≠ 524 → kd b ≠ 525 → kd b ≠ 526 → kd b ≠ 527 → kd b ≠ 535 → kd b ≠ 538 → f_236 b = f b := fun b q1 q3 q10 q507 q517 q518 q519 q520 q521 q522 q523 q524 q525 q526 q527 q535 q538 => (hkc_237 b q535).trans (hfr0 b q1 q3 q10 q507 q517 q518 q519 q520 q521 q522 q523 q524 q525 q526 q527 q535 q538)
                  have hrr1_0 : ∀ b, kd b = 1 → fldR (f_236 b) 0 = fldR (f b) 0 := fun b kb => (congrArg (fun x => fldR x 0) (hkc_237 b (by rw [kb]; decide))).trans (hrr1_0 b kb)
                  have hrr1_1 : ∀ b, kd b = 1 → fldR (f_236 b) 1 = fldR (f b) 1 := fun b kb => (congrArg (fun x => fldR x 1) (hkc_237 b (by rw [kb]; decide))).trans (hrr1_1 b kb)
                  have hrr3_0 : ∀ b, kd b = 3 → fldR (f_236 b) 0 = fldR (f b) 0 := fun b kb => (congrArg (fun x => fldR x 0) (hkc_237 b (by rw [kb]; decide))).trans (hrr3_0 b kb)
                  have hrr3_3 : ∀ b, kd b = 3 → fldR (f_236 b) 3 = fldR (f b) 3 := fun b kb => (congrArg (fun x => fldR x 3) (hkc_237 b (by rw [kb]; decide))).trans (hrr3_3 b kb)
                  have hT_231 : drel kd 1 521 522 f_236 a_5 := hT_231.keep (fun b q => congrArg (fun x => fldI x 5) (hkc_237 b (by rw [q]; decide))) (fun b q => congrArg (fun x => fldR x 0) (hkc_237 b (by rw [q]; decide))) (fun b q => congrArg (fun x => fldR x 1) (hkc_237 b (by rw [q]; decide))) (fun b q => hkc_237 b (by rw [q]; decide)) (fun b q => hkc_237 b (by rw [q]; decide))
                  obtain ⟨x_243, ex_243⟩ : ∃ y : Int32, y_121 + 1 = y := ⟨_, rfl⟩
                  have hx_243 : x_243.toInt = y_121.toInt + 1 := by rw [← ex_243, ad_I (by rw [ti_1]; omega) (by rw [ti_1]; omega), ti_1]
                  have bx_243 : (1 ≤ x_243.toInt ∧ x_243.toInt ≤ 9) := by constructor <;> omega
                  refine lv_iinc (v := x_243) (lv' := [(6, .int x_243), (5, .int y_100), (4, .int y_75), (3, .int v_40), (0, .ref o0), (1, .ref o1), (2, .ref o2)]) hx hb dX0_fillAgrees_116 hl (k := 0) rfl ex_243 (by decide) rfl (fun ls hl => ?_)
                  refine lv_goto (tgt := 43) hx hb dX0_fillAgrees_119 (by decide) ?_
                  exact ih_hloop_120 x_243 (by constructor <;> omega) f_236 hG _ _ hP hS hD hfr0 hrr1_0 hrr1_1 hrr3_0 hrr3_3 hfo_239 hfo_240 hT_231 (by omega) ls (lv_sub hl [0, 1, 2, 3, 4, 5, 6] rfl)
                refine lv_if_ne (tgt := 80) hx hb dX0_fillAgrees_73 (by decide) (fun c_244 => ?_) (fun c_244 => ?_)
                · skip
                  rw [← Int32.toInt_inj, ti_0] at c_244
                  refine lv_iconst (v := 2) hx hb dX0_fillAgrees_80 (by decide) ?_
                  exact hcut_143 2 (by decide) ls (lv_sub hl [0, 1, 2, 3, 4, 5, 6] rfl)
                · skip
                  rw [← Int32.toInt_inj, ti_0] at c_244
                  refine lv_iconst (v := 1) hx hb dX0_fillAgrees_76 (by decide) ?_
                  refine lv_goto (tgt := 81) hx hb dX0_fillAgrees_77 (by decide) ?_
                  exact hcut_143 1 (by decide) ls (lv_sub hl [0, 1, 2, 3, 4, 5, 6] rfl)
          exact hloop_120 10 0 (by decide) f_77 hG _ _ hP hS hD hfr0 hrr1_0 hrr1_1 hrr3_0 hrr3_3 hfo_78 hfo_79 hT0 (by (try rw [ti_0]) <;> omega) ls hl
        refine lv_icmp_ne (tgt := 37) hx hb dX0_fillAgrees_30 (by decide) (fun c_245 => ?_) (fun c_245 => ?_)
        · skip
          rw [← Int32.toInt_inj, ti_2] at c_245
          refine lv_iconst (v := 0) hx hb dX0_fillAgrees_37 (by decide) ?_
          exact hcut_101 0 (by decide) ls (lv_sub hl [0, 1, 2, 3, 4] rfl)
        · skip
          rw [← Int32.toInt_inj, ti_2] at c_245
          refine lv_iload_n hx hb dX0_fillAgrees_33 rfl (lv_at hl 1 rfl) ?_
          refine lv_goto (tgt := 38) hx hb dX0_fillAgrees_34 (by decide) ?_
          exact hcut_101 v_40 (by constructor <;> omega) ls (lv_sub hl [0, 1, 2, 3, 4] rfl)
  exact hloop_74 9 1 (by decide) f_33 hG _ _ hP hS hD hfr0 hrr1_0 hrr1_1 hrr3_0 hrr3_3 hfo_37 hfo_38 hT0 (by (try rw [ti_1]) <;> omega) ls hl
set_option maxHeartbeats 8000000 in
set_option maxRecDepth 100000 in
theorem s_X0_refresh_k0_k3_k6 (l : Launch) (D : va_G) (cI cL cZ cR cG cH : ClassId) (Z : zT) (kd : Nat → Nat) (L : List Nat) (f : Nat → va_E) (hG : GI (okc cI cL cZ cR cG cH L kd) kd L f) (o0 : Nat) (mo0 : o0 ∈ L) (ko0 : kd o0 = 0) (p1 : Int32) (bp1 : (1 ≤ p1.toInt ∧ p1.toInt ≤ 2)) (o2 : Nat) (mo2 : o2 ∈ L) (ko2 : kd o2 = 3) (o3 : Nat) (mo3 : o3 ∈ L) (ko3 : kd o3 = 6) (p4 : Int32) (hxtr0 : ∀ d9, fldR (f o2) 0 = some d9 → trel kd 7 508 510 515 4 f d9) (hxtr1 : ∀ d9, fldR (f o2) 3 = some d9 → drel kd 1 521 522 f d9) : mPV l D cI cL cZ cR cG cH Z yX0_refresh cX0_refresh 6 none 16 544 [.ref o0, .int p1, .ref o2, .ref o3, .int p4] L f (fun (f9 : Nat → va_E) => GI (okc cI cL cZ cR cG cH L kd) kd L f9 ∧ (∀ b, kd b ≠ 0 → kd b ≠ 1 → kd b ≠ 3 → kd b ≠ 10 → kd b ≠ 507 → kd b ≠ 516 → kd b ≠ 517 → kd b ≠ 518 → kd b ≠ 519 → kd b ≠ 520 → kd b ≠ 521 → kd b ≠ 522 → kd b ≠ 523 → kd b ≠ 524 → kd b ≠ 525 → kd b ≠ 526 → kd b ≠ 527 → kd b ≠ 534 → kd b ≠ 535 → kd b ≠ 536 → kd b ≠ 537 → kd b ≠ 538 → f9 b = f b) ∧ (∀ b, kd b = 1 → fldR (f9 b) 0 = fldR (f b) 0) ∧ (∀ b, kd b = 1 → fldR (f9 b) 1 = fldR (f b) 1) ∧ (∀ b, kd b = 3 → fldR (f9 b) 0 = fldR (f b) 0) ∧ (∀ b, kd b = 3 → fldR (f9 b) 3 = fldR (f b) 3) ∧ (∀ d9, fldR (f9 o2) 0 = some d9 → trel kd 7 508 510 515 4 f9 d9) ∧ (∀ d9, fldR (f9 o2) 3 = some d9 → drel kd 1 521 522 f9 d9)) := by
  obtain ⟨dC, dI⟩ := D
  refine Met.ofW (cc := cX0_refresh) (maxL := 6) (ret := none) (by decide) rfl ?_
  intro p e s m args below meth c s₁ B hml hv
  obtain ⟨rfl, hP, hK, hD0, hN, hZ⟩ := hv
  have hx := B.exec
  have hb := B.bytes
  have hr := B.returns
  have hU : ∀ w ∈ wsU, w.before _ s = true := fun w h => atoms_spec (ws := wU yX0_refresh cX0_refresh 6 none) B.pre w (List.mem_cons_of_mem _ h)
  have hown : s.vm.findClass RX0 = some m.cls := findClass_of_methodNamed B.named
  have hlocks := B.notSynchronized
  have hD := pl_in hD0
  have hS : va_S (fun q => q ∈ L) s.heap s.heap [] := va_S.rf
  have hl := lv_entry ([.ref o0, .int p1, .ref o2, .ref o3, .int p4]) (n := 6) (Nat.le_of_ble_eq_true rfl)
  rw [lg_entry_eq]
  generalize (lg_sl ([.ref o0, .int p1, .ref o2, .ref o3, .int p4]) ++ List.replicate (6 - (lg_sl ([.ref o0, .int p1, .ref o2, .ref o3, .int p4])).length) Slot.unset).toArray = ls at hl ⊢
  have hl : lv_has ls 6 [(0, .ref o0), (1, .int p1), (2, .ref o2), (3, .ref o3), (4, .int p4)] := hl
  have bp4 : ((-2147483648) ≤ p4.toInt ∧ p4.toInt ≤ 2147483647) := ⟨i32_lo _, i32_hi _⟩
  have hfr0 : ∀ b, kd b ≠ 0 → kd b ≠ 1 → kd b ≠ 3 → kd b ≠ 10 → kd b ≠ 507 → kd b ≠ 516 → kd b ≠ 517 → kd b ≠ 518 → kd b ≠ 519 → kd b ≠ 520 → kd b ≠ 521 → kd b ≠ 522 → kd b ≠ 523 → kd b ≠ 524 → kd b ≠ 525 → kd b ≠ 526 → kd b ≠ 527 → kd b ≠ 534 → kd b ≠ 535 → kd b ≠ 536 → kd b ≠ 537 → kd b ≠ 538 → f b = f b := fun _ _ _ _ _ _ _ _ _ _ _ _ _ _ _ _ _ _ _ _ _ _ _ => rfl
  have hrr1_0 : ∀ b, kd b = 1 → fldR (f b) 0 = fldR (f b) 0 := fun _ _ => rfl
  have hrr1_1 : ∀ b, kd b = 1 → fldR (f b) 1 = fldR (f b) 1 := fun _ _ => rfl
  have hrr3_0 : ∀ b, kd b = 3 → fldR (f b) 0 = fldR (f b) 0 := fun _ _ => rfl
  have hrr3_3 : ∀ b, kd b = 3 → fldR (f b) 3 = fldR (f b) 3 := fun _ _ => rfl
  obtain ⟨a_2, a_3, a_4, a_5, a_6, v_7, v_8, v_9, v_10, v_11, v_12, v_13, a_14, a_15, a_16, v_17, a_18, a_19, hfo_1, ⟨ma_2, ka_2⟩, ⟨ma_3, ka_3⟩, ⟨ma_4, ka_4⟩, ⟨ma_5, ka_5⟩, ⟨ma_6, ka_6⟩, bv_7, bv_8, bv_9, ⟨ma_14, ka_14⟩, ⟨ma_15, ka_15⟩, ⟨ma_16, ka_16⟩, bv_17, ⟨ma_18, ka_18⟩, ⟨ma_19, ka_19⟩⟩ := un_3 (hG _ mo2) ko2
  have bv_10 : ((-2147483648) ≤ v_10.toInt ∧ v_10.toInt ≤ 2147483647) := ⟨i32_lo _, i32_hi _⟩
  have bv_11 : ((-2147483648) ≤ v_11.toInt ∧ v_11.toInt ≤ 2147483647) := ⟨i32_lo _, i32_hi _⟩
  have bv_12 : ((-2147483648) ≤ v_12.toInt ∧ v_12.toInt ≤ 2147483647) := ⟨i32_lo _, i32_hi _⟩
  have bv_13 : ((-2147483648) ≤ v_13.toInt ∧ v_13.toInt ≤ 2147483647) := ⟨i32_lo _, i32_hi _⟩
  have hT0 := hxtr0 a_2 (by rw [hfo_1]; rfl)
  have hT1 := hxtr1 a_5 (by rw [hfo_1]; rfl)
  refine lv_aload_n hx hb dX0_refresh_0 rfl (lv_at hl 0 rfl) ?_
  obtain ⟨a_21, a_22, a_23, v_24, a_25, a_26, a_27, v_28, a_29, v_30, v_31, hfo_20, ⟨ma_21, ka_21⟩, ⟨ma_22, ka_22⟩, ⟨ma_23, ka_23⟩, bv_24, ⟨ma_25, ka_25⟩, ⟨ma_26, ka_26⟩, ⟨ma_27, ka_27⟩, ⟨ma_29, ka_29⟩⟩ := un_0 (hG _ mo0) ko0
  have bv_28 : ((-2147483648) ≤ v_28.toInt ∧ v_28.toInt ≤ 2147483647) := ⟨i32_lo _, i32_hi _⟩
  have bv_30 : ((-2147483648) ≤ v_30.toInt ∧ v_30.toInt ≤ 2147483647) := ⟨i32_lo _, i32_hi _⟩
  have bv_31 : ((-2147483648) ≤ v_31.toInt ∧ v_31.toInt ≤ 2147483647) := ⟨i32_lo _, i32_hi _⟩
  refine tk_getP (D := (dC, dI)) (ci := 0) (v := .int v_31) (C := RX0) (T := TX0) (N := 11) hx hb hU inlX0 hown hK hP mo0 hfo_20 rfl 10 (by decide) (hU _ wd_164) (fun _ h9 => h9) rfl dX0_refresh_1 ?_
  refine lv_iload hx hb dX0_refresh_4 (lv_at hl 4 rfl) ?_
  refine lv_icmp_ne (tgt := 18) hx hb dX0_refresh_6 (by decide) (fun c_32 => ?_) (fun c_32 => ?_)
  · skip
    rw [← Int32.toInt_inj] at c_32
    refine lv_aload_n hx hb dX0_refresh_18 rfl (lv_at hl 0 rfl) ?_
    refine lv_iload hx hb dX0_refresh_19 (lv_at hl 4 rfl) ?_
    refine tk_putP (D := (dC, dI)) (ci := 0) (v := .int p4) (ty := .int) (C := RX0) (T := TX0) (N := 11) hx hb hU inlX0 tyX0 tyX0_ok nmX0 hown hK hP hD hS mo0 hfo_20 rfl 10 (by decide) (hU _ wd_164) (fun _ h9 => h9) rfl (by decide +kernel) rfl rfl (Nat.le_of_ble_eq_true rfl) dX0_refresh_21 (fun H locs hP hD hS => ?_)
    obtain ⟨f_34, ef_34⟩ : ∃ y : Nat → va_E, y = va_up f o0 (.inr (0, [.ref a_21, .ref a_22, .ref a_23, .int v_24, .ref a_25, .ref a_26, .ref a_27, .int v_28, .ref a_29, .int v_30, .int p4])) := ⟨_, rfl⟩
    have hP : va_P (dC, dI) vwCl (va_pl L f_34) H := by rw [ef_34]; exact hP
    have hD : va_D (fun q => q ∈ L) (va_pl L f_34) := by rw [ef_34]; exact hD
    have hG : GI (okc cI cL cZ cR cG cH L kd) kd L f_34 := by rw [ef_34]; exact hG.set o0 (mk_0 ko0 ⟨a_21, a_22, a_23, v_24, a_25, a_26, a_27, v_28, a_29, v_30, p4, rfl, ⟨ma_21, ka_21⟩, ⟨ma_22, ka_22⟩, ⟨ma_23, ka_23⟩, (by constructor <;> omega), ⟨ma_25, ka_25⟩, ⟨ma_26, ka_26⟩, ⟨ma_27, ka_27⟩, ⟨ma_29, ka_29⟩⟩)
    have hfo_35 : f_34 o2 = .inr (3, [.ref a_2, .ref a_3, .ref a_4, .ref a_5, .ref a_6, .int v_7, .int v_8, .int v_9, .int v_10, .int v_11, .int v_12, .int v_13, .ref a_14, .ref a_15, .ref a_16, .int v_17, .ref a_18, .ref a_19]) := by rw [ef_34, up_ne (kd_ne ko0 ko2 (by decide))]; exact hfo_1
    have hfr0 : ∀ b, kd b ≠ 0 → kd b ≠ 1 → kd b ≠ 3 → kd b ≠ 10 → kd b ≠ 507 → kd b ≠ 516 → kd b ≠ 517 → kd b ≠ 518 → kd b ≠ 519 → kd b ≠ 520 → kd b ≠ 521 → kd b ≠ 522 → kd b ≠ 523 → kd b ≠ 524 → kd b ≠ 525 → kd b ≠ 526 → kd b ≠ 527 → kd b ≠ 534 → kd b ≠ 535 → kd b ≠ 536 → kd b ≠ 537 → kd b ≠ 538 → f_34 b = f b := fun b q0 q1 q3 q10 q507 q516 q517 q518 q519 q520 q521 q522 q523 q524 q525 q526 q527 q534 q535 q536 q537 q538 => (congrFun ef_34 b).trans ((up_ne (fun e9 => q0 (by rw [e9]; exact ko0))).trans (hfr0 b q0 q1 q3 q10 q507 q516 q517 q518 q519 q520 q521 q522 q523 q524 q525 q526 q527 q534 q535 q536 q537 q538))
    have hrr1_0 : ∀ b, kd b = 1 → fldR (f_34 b) 0 = fldR (f b) 0 := fun b kb => (congrArg (fun x => fldR x 0) ((congrFun ef_34 b).trans (up_ne (kd_ne ko0 kb (by decide))))).trans (hrr1_0 b kb)
    have hrr1_1 : ∀ b, kd b = 1 → fldR (f_34 b) 1 = fldR (f b) 1 := fun b kb => (congrArg (fun x => fldR x 1) ((congrFun ef_34 b).trans (up_ne (kd_ne ko0 kb (by decide))))).trans (hrr1_1 b kb)
    have hrr3_0 : ∀ b, kd b = 3 → fldR (f_34 b) 0 = fldR (f b) 0 := fun b kb => (congrArg (fun x => fldR x 0) ((congrFun ef_34 b).trans (up_ne (kd_ne ko0 kb (by decide))))).trans (hrr3_0 b kb)
    have hrr3_3 : ∀ b, kd b = 3 → fldR (f_34 b) 3 = fldR (f b) 3 := fun b kb => (congrArg (fun x => fldR x 3) ((congrFun ef_34 b).trans (up_ne (kd_ne ko0 kb (by decide))))).trans (hrr3_3 b kb)
    have hT0 : trel kd 7 508 510 515 4 f_34 a_2 := by rw [ef_34]; exact hT0.up ko0 (by decide) (by decide) (by decide) (by decide) (by decide)
    have hT1 : drel kd 1 521 522 f_34 a_5 := by rw [ef_34]; exact hT1.up ko0 (by decide) (by decide) (by decide)
    have hfo_36 : f_34 o0 = .inr (0, [.ref a_21, .ref a_22, .ref a_23, .int v_24, .ref a_25, .ref a_26, .ref a_27, .int v_28, .ref a_29, .int v_30, .int p4]) := by rw [ef_34]; exact up_self
    refine lv_aload_n hx hb dX0_refresh_24 rfl (lv_at hl 0 rfl) ?_
    refine lv_iload_n hx hb dX0_refresh_25 rfl (lv_at hl 1 rfl) ?_
    refine tk_putP (D := (dC, dI)) (ci := 0) (v := .int p1) (ty := .int) (C := RX0) (T := TX0) (N := 11) hx hb hU inlX0 tyX0 tyX0_ok nmX0 hown hK hP hD hS mo0 hfo_36 rfl 9 (by decide) (hU _ wd_1194) (fun _ h9 => h9) rfl (by decide +kernel) rfl rfl (Nat.le_of_ble_eq_true rfl) dX0_refresh_26 (fun H locs hP hD hS => ?_)
    obtain ⟨f_38, ef_38⟩ : ∃ y : Nat → va_E, y = va_up f_34 o0 (.inr (0, [.ref a_21, .ref a_22, .ref a_23, .int v_24, .ref a_25, .ref a_26, .ref a_27, .int v_28, .ref a_29, .int p1, .int p4])) := ⟨_, rfl⟩
    have hP : va_P (dC, dI) vwCl (va_pl L f_38) H := by rw [ef_38]; exact hP
    have hD : va_D (fun q => q ∈ L) (va_pl L f_38) := by rw [ef_38]; exact hD
    have hG : GI (okc cI cL cZ cR cG cH L kd) kd L f_38 := by rw [ef_38]; exact hG.set o0 (mk_0 ko0 ⟨a_21, a_22, a_23, v_24, a_25, a_26, a_27, v_28, a_29, p1, p4, rfl, ⟨ma_21, ka_21⟩, ⟨ma_22, ka_22⟩, ⟨ma_23, ka_23⟩, (by constructor <;> omega), ⟨ma_25, ka_25⟩, ⟨ma_26, ka_26⟩, ⟨ma_27, ka_27⟩, ⟨ma_29, ka_29⟩⟩)
    have hfo_39 : f_38 o2 = .inr (3, [.ref a_2, .ref a_3, .ref a_4, .ref a_5, .ref a_6, .int v_7, .int v_8, .int v_9, .int v_10, .int v_11, .int v_12, .int v_13, .ref a_14, .ref a_15, .ref a_16, .int v_17, .ref a_18, .ref a_19]) := by rw [ef_38, up_ne (kd_ne ko0 ko2 (by decide))]; exact hfo_35
    have hfr0 : ∀ b, kd b ≠ 0 → kd b ≠ 1 → kd b ≠ 3 → kd b ≠ 10 → kd b ≠ 507 → kd b ≠ 516 → kd b ≠ 517 → kd b ≠ 518 → kd b ≠ 519 → kd b ≠ 520 → kd b ≠ 521 → kd b ≠ 522 → kd b ≠ 523 → kd b ≠ 524 → kd b ≠ 525 → kd b ≠ 526 → kd b ≠ 527 → kd b ≠ 534 → kd b ≠ 535 → kd b ≠ 536 → kd b ≠ 537 → kd b ≠ 538 → f_38 b = f b := fun b q0 q1 q3 q10 q507 q516 q517 q518 q519 q520 q521 q522 q523 q524 q525 q526 q527 q534 q535 q536 q537 q538 => (congrFun ef_38 b).trans ((up_ne (fun e9 => q0 (by rw [e9]; exact ko0))).trans (hfr0 b q0 q1 q3 q10 q507 q516 q517 q518 q519 q520 q521 q522 q523 q524 q525 q526 q527 q534 q535 q536 q537 q538))
    have hrr1_0 : ∀ b, kd b = 1 → fldR (f_38 b) 0 = fldR (f b) 0 := fun b kb => (congrArg (fun x => fldR x 0) ((congrFun ef_38 b).trans (up_ne (kd_ne ko0 kb (by decide))))).trans (hrr1_0 b kb)
    have hrr1_1 : ∀ b, kd b = 1 → fldR (f_38 b) 1 = fldR (f b) 1 := fun b kb => (congrArg (fun x => fldR x 1) ((congrFun ef_38 b).trans (up_ne (kd_ne ko0 kb (by decide))))).trans (hrr1_1 b kb)
    have hrr3_0 : ∀ b, kd b = 3 → fldR (f_38 b) 0 = fldR (f b) 0 := fun b kb => (congrArg (fun x => fldR x 0) ((congrFun ef_38 b).trans (up_ne (kd_ne ko0 kb (by decide))))).trans (hrr3_0 b kb)
    have hrr3_3 : ∀ b, kd b = 3 → fldR (f_38 b) 3 = fldR (f b) 3 := fun b kb => (congrArg (fun x => fldR x 3) ((congrFun ef_38 b).trans (up_ne (kd_ne ko0 kb (by decide))))).trans (hrr3_3 b kb)
    have hT0 : trel kd 7 508 510 515 4 f_38 a_2 := by rw [ef_38]; exact hT0.up ko0 (by decide) (by decide) (by decide) (by decide) (by decide)
    have hT1 : drel kd 1 521 522 f_38 a_5 := by rw [ef_38]; exact hT1.up ko0 (by decide) (by decide) (by decide)
    have hfo_40 : f_38 o0 = .inr (0, [.ref a_21, .ref a_22, .ref a_23, .int v_24, .ref a_25, .ref a_26, .ref a_27, .int v_28, .ref a_29, .int p1, .int p4]) := by rw [ef_38]; exact up_self
    refine lv_aload_n hx hb dX0_refresh_29 rfl (lv_at hl 0 rfl) ?_
    refine lv_iconst (v := 0) hx hb dX0_refresh_30 (by decide) ?_
    refine tk_putP (D := (dC, dI)) (ci := 0) (v := .int 0) (ty := .int) (C := RX0) (T := TX0) (N := 11) hx hb hU inlX0 tyX0 tyX0_ok nmX0 hown hK hP hD hS mo0 hfo_40 rfl 3 (by decide) (hU _ wd_1195) (fun _ h9 => h9) rfl (by decide +kernel) rfl rfl (Nat.le_of_ble_eq_true rfl) dX0_refresh_31 (fun H locs hP hD hS => ?_)
    obtain ⟨f_42, ef_42⟩ : ∃ y : Nat → va_E, y = va_up f_38 o0 (.inr (0, [.ref a_21, .ref a_22, .ref a_23, .int 0, .ref a_25, .ref a_26, .ref a_27, .int v_28, .ref a_29, .int p1, .int p4])) := ⟨_, rfl⟩
    have hP : va_P (dC, dI) vwCl (va_pl L f_42) H := by rw [ef_42]; exact hP
    have hD : va_D (fun q => q ∈ L) (va_pl L f_42) := by rw [ef_42]; exact hD
    have hG : GI (okc cI cL cZ cR cG cH L kd) kd L f_42 := by rw [ef_42]; exact hG.set o0 (mk_0 ko0 ⟨a_21, a_22, a_23, 0, a_25, a_26, a_27, v_28, a_29, p1, p4, rfl, ⟨ma_21, ka_21⟩, ⟨ma_22, ka_22⟩, ⟨ma_23, ka_23⟩, (by decide), ⟨ma_25, ka_25⟩, ⟨ma_26, ka_26⟩, ⟨ma_27, ka_27⟩, ⟨ma_29, ka_29⟩⟩)
    have hfo_43 : f_42 o2 = .inr (3, [.ref a_2, .ref a_3, .ref a_4, .ref a_5, .ref a_6, .int v_7, .int v_8, .int v_9, .int v_10, .int v_11, .int v_12, .int v_13, .ref a_14, .ref a_15, .ref a_16, .int v_17, .ref a_18, .ref a_19]) := by rw [ef_42, up_ne (kd_ne ko0 ko2 (by decide))]; exact hfo_39
    have hfr0 : ∀ b, kd b ≠ 0 → kd b ≠ 1 → kd b ≠ 3 → kd b ≠ 10 → kd b ≠ 507 → kd b ≠ 516 → kd b ≠ 517 → kd b ≠ 518 → kd b ≠ 519 → kd b ≠ 520 → kd b ≠ 521 → kd b ≠ 522 → kd b ≠ 523 → kd b ≠ 524 → kd b ≠ 525 → kd b ≠ 526 → kd b ≠ 527 → kd b ≠ 534 → kd b ≠ 535 → kd b ≠ 536 → kd b ≠ 537 → kd b ≠ 538 → f_42 b = f b := fun b q0 q1 q3 q10 q507 q516 q517 q518 q519 q520 q521 q522 q523 q524 q525 q526 q527 q534 q535 q536 q537 q538 => (congrFun ef_42 b).trans ((up_ne (fun e9 => q0 (by rw [e9]; exact ko0))).trans (hfr0 b q0 q1 q3 q10 q507 q516 q517 q518 q519 q520 q521 q522 q523 q524 q525 q526 q527 q534 q535 q536 q537 q538))
    have hrr1_0 : ∀ b, kd b = 1 → fldR (f_42 b) 0 = fldR (f b) 0 := fun b kb => (congrArg (fun x => fldR x 0) ((congrFun ef_42 b).trans (up_ne (kd_ne ko0 kb (by decide))))).trans (hrr1_0 b kb)
    have hrr1_1 : ∀ b, kd b = 1 → fldR (f_42 b) 1 = fldR (f b) 1 := fun b kb => (congrArg (fun x => fldR x 1) ((congrFun ef_42 b).trans (up_ne (kd_ne ko0 kb (by decide))))).trans (hrr1_1 b kb)
    have hrr3_0 : ∀ b, kd b = 3 → fldR (f_42 b) 0 = fldR (f b) 0 := fun b kb => (congrArg (fun x => fldR x 0) ((congrFun ef_42 b).trans (up_ne (kd_ne ko0 kb (by decide))))).trans (hrr3_0 b kb)
    have hrr3_3 : ∀ b, kd b = 3 → fldR (f_42 b) 3 = fldR (f b) 3 := fun b kb => (congrArg (fun x => fldR x 3) ((congrFun ef_42 b).trans (up_ne (kd_ne ko0 kb (by decide))))).trans (hrr3_3 b kb)
    have hT0 : trel kd 7 508 510 515 4 f_42 a_2 := by rw [ef_42]; exact hT0.up ko0 (by decide) (by decide) (by decide) (by decide) (by decide)
    have hT1 : drel kd 1 521 522 f_42 a_5 := by rw [ef_42]; exact hT1.up ko0 (by decide) (by decide) (by decide)
    have hfo_44 : f_42 o0 = .inr (0, [.ref a_21, .ref a_22, .ref a_23, .int 0, .ref a_25, .ref a_26, .ref a_27, .int v_28, .ref a_29, .int p1, .int p4]) := by rw [ef_42]; exact up_self
    refine lv_iconst (v := 0) hx hb dX0_refresh_34 (by decide) ?_
    refine lv_istore (lv' := [(5, .int 0), (0, .ref o0), (1, .int p1), (2, .ref o2), (3, .ref o3), (4, .int p4)]) hx hb dX0_refresh_35 hl (by decide) rfl (fun ls hl => ?_)
    have hloop_61 : ∀ (n : Nat), ∀ (y_62 : Int32), (0 ≤ y_62.toInt ∧ y_62.toInt ≤ 8) → ∀ (f_64 : Nat → va_E), GI (okc cI cL cZ cR cG cH L kd) kd L f_64 → ∀ (H : Heap) (locs : List Loc), va_P (dC, dI) vwCl (va_pl L f_64) H → va_S (fun q => q ∈ L) s.heap H locs → va_D (fun q => q ∈ L) (va_pl L f_64) → (∀ b, kd b ≠ 0 → kd b ≠ 1 → kd b ≠ 3 → kd b ≠ 10 → kd b ≠ 507 → kd b ≠ 516 → kd b ≠ 517 → kd b ≠ 518 → kd b ≠ 519 → kd b ≠ 520 → kd b ≠ 521 → kd b ≠ 522 → kd b ≠ 523 → kd b ≠ 524 → kd b ≠ 525 → kd b ≠ 526 → kd b ≠ 527 → kd b ≠ 534 → kd b ≠ 535 → kd b ≠ 536 → kd b ≠ 537 → kd b ≠ 538 → f_64 b = f b) → (∀ b, kd b = 1 → fldR (f_64 b) 0 = fldR (f b) 0) → (∀ b, kd b = 1 → fldR (f_64 b) 1 = fldR (f b) 1) → (∀ b, kd b = 3 → fldR (f_64 b) 0 = fldR (f b) 0) → (∀ b, kd b = 3 → fldR (f_64 b) 3 = fldR (f b) 3) → (f_64 o2 = .inr (3, [.ref a_2, .ref a_3, .ref a_4, .ref a_5, .ref a_6, .int v_7, .int v_8, .int v_9, .int v_10, .int v_11, .int v_12, .int v_13, .ref a_14, .ref a_15, .ref a_16, .int v_17, .ref a_18, .ref a_19])) → trel kd 7 508 510 515 4 f_64 a_2 → drel kd 1 521 522 f_64 a_5 → 8 - y_62.toInt < (n : Int) → ∀ (ls : Array Slot), lv_has ls 6 [(5, .int y_62), (0, .ref o0), (1, .int p1), (2, .ref o2), (3, .ref o3), (4, .int p4)] → W p l e (headSpec (wU yX0_refresh cX0_refresh 6 none) { frames := 16, cells := 0, slots := 0, locals := 544 }).room s m [.ref o0, .int p1, .ref o2, .ref o3, .int p4].toArray below meth c H locs 0 0 (MQ below (va_Qv (fun (f9 : Nat → va_E) => GI (okc cI cL cZ cR cG cH L kd) kd L f9 ∧ (∀ b, kd b ≠ 0 → kd b ≠ 1 → kd b ≠ 3 → kd b ≠ 10 → kd b ≠ 507 → kd b ≠ 516 → kd b ≠ 517 → kd b ≠ 518 → kd b ≠ 519 → kd b ≠ 520 → kd b ≠ 521 → kd b ≠ 522 → kd b ≠ 523 → kd b ≠ 524 → kd b ≠ 525 → kd b ≠ 526 → kd b ≠ 527 → kd b ≠ 534 → kd b ≠ 535 → kd b ≠ 536 → kd b ≠ 537 → kd b ≠ 538 → f9 b = f b) ∧ (∀ b, kd b = 1 → fldR (f9 b) 0 = fldR (f b) 0) ∧ (∀ b, kd b = 1 → fldR (f9 b) 1 = fldR (f b) 1) ∧ (∀ b, kd b = 3 → fldR (f9 b) 0 = fldR (f b) 0) ∧ (∀ b, kd b = 3 → fldR (f9 b) 3 = fldR (f b) 3) ∧ (∀ d9, fldR (f9 o2) 0 = some d9 → trel kd 7 508 510 515 4 f9 d9) ∧ (∀ d9, fldR (f9 o2) 3 = some d9 → drel kd 1 521 522 f9 d9)) (qP (dC, dI) cI cL cZ cR cG cH L) (fun q => q ∈ L)) [.ref o0, .int p1, .ref o2, .ref o3, .int p4].toArray s 0 0 (fun q => q ∈ L)) (F0 m 37 ls []) := by
      intro n
      induction n with
      | zero => intro y_62 by_62 f_64 hG H locs hP hS hD hfr0 hrr1_0 hrr1_1 hrr3_0 hrr3_3 hfo_65 hT0 hT1 hmuhloop_61 ls hl; exfalso; omega
      | succ n ih_hloop_61 =>
        intro y_62 by_62 f_64 hG H locs hP hS hD hfr0 hrr1_0 hrr1_1 hrr3_0 hrr3_3 hfo_65 hT0 hT1 hmuhloop_61 ls hl
        refine lv_iload hx hb dX0_refresh_37 (lv_at hl 0 rfl) ?_
        refine lv_aload_n hx hb dX0_refresh_39 rfl (lv_at hl 3 rfl) ?_
        refine tk_getP (D := (dC, dI)) (ci := 3) (v := .ref a_2) (C := RX3) (T := TX3) (N := 18) hx hb hU inlX3 hown hK hP mo2 hfo_65 rfl 0 (by decide) (hU _ wd_1196) (fun _ h9 => h9) rfl dX0_refresh_40 ?_
        obtain ⟨a_67, v_68, a_69, a_70, a_71, a_72, v_73, a_74, a_75, a_76, a_77, a_78, v_79, a_80, a_81, a_82, hfo_66, ⟨ma_67, ka_67⟩, bv_68, ⟨ma_69, ka_69⟩, ⟨ma_70, ka_70⟩, ⟨ma_71, ka_71⟩, ⟨ma_72, ka_72⟩, bv_73, ⟨ma_74, ka_74⟩, ⟨ma_75, ka_75⟩, ⟨ma_76, ka_76⟩, ⟨ma_77, ka_77⟩, ⟨ma_78, ka_78⟩, bv_79, ⟨ma_80, ka_80⟩, ⟨ma_81, ka_81⟩, ⟨ma_82, ka_82⟩⟩ := un_7 (hG _ ma_2) ka_2
        refine tk_getP (D := (dC, dI)) (ci := 7) (v := .int v_79) (C := RX7) (T := TX7) (N := 16) hx hb hU inlX7 hown hK hP ma_2 hfo_66 rfl 12 (by decide) (hU _ wd_1197) (fun _ h9 => h9) rfl dX0_refresh_43 ?_
        refine lv_icmp_ge (tgt := 108) hx hb dX0_refresh_46 (by decide) (fun c_83 => ?_) (fun c_83 => ?_)
        · skip
          rw [Int32.le_iff_toInt_le] at c_83
          refine lv_aload_n hx hb dX0_refresh_108 rfl (lv_at hl 1 rfl) ?_
          refine lv_aload_n hx hb dX0_refresh_109 rfl (lv_at hl 3 rfl) ?_
          refine lv_aload_n hx hb dX0_refresh_110 rfl (lv_at hl 4 rfl) ?_
          obtain ⟨a_85, a_86, a_87, v_88, a_89, a_90, a_91, v_92, a_93, v_94, v_95, hfo_84, ⟨ma_85, ka_85⟩, ⟨ma_86, ka_86⟩, ⟨ma_87, ka_87⟩, bv_88, ⟨ma_89, ka_89⟩, ⟨ma_90, ka_90⟩, ⟨ma_91, ka_91⟩, ⟨ma_93, ka_93⟩⟩ := un_0 (hG _ mo0) ko0
          have bv_92 : ((-2147483648) ≤ v_92.toInt ∧ v_92.toInt ≤ 2147483647) := ⟨i32_lo _, i32_hi _⟩
          have bv_94 : ((-2147483648) ≤ v_94.toInt ∧ v_94.toInt ≤ 2147483647) := ⟨i32_lo _, i32_hi _⟩
          have bv_95 : ((-2147483648) ≤ v_95.toInt ∧ v_95.toInt ≤ 2147483647) := ⟨i32_lo _, i32_hi _⟩
          refine tk_VvP (As := [.ref o2, .ref o3]) (rest := []) (n := 2) hx hb hml hown hU hN hZ (s_X0_fillAgrees_k0_k3_k6 l (dC, dI) cI cL cZ cR cG cH Z kd L f_64 hG o0 mo0 ko0 o2 mo2 ko2 o3 mo3 ko3 (fun d9 h9 => by rw [hfo_65] at h9; obtain rfl := Option.some.inj h9; exact hT1)) wd_1209 wd_1210 wd_1211 wd_37 wd_1212 (by decide +kernel) ⟨Nat.le_of_ble_eq_true rfl, Nat.le_of_ble_eq_true rfl⟩ hK hP hD hS mo0 hfo_84 0 rfl rfl rfl hl.1 rfl (Nat.le_of_ble_eq_true rfl) dX0_refresh_111 ⟨Nat.le_of_ble_eq_true rfl, Nat.le_of_ble_eq_true rfl⟩ (fun f_97 H locs hw hP hD hS => ?_)
          obtain ⟨hG, hkc_98, hrc_99, hrc_100, hrc_101, hrc_102, hTc_103⟩ := hw
          have hfo_105 : f_97 a_2 = .inr (7, [.ref a_67, .int v_68, .ref a_69, .ref a_70, .ref a_71, .ref a_72, .int v_73, .ref a_74, .ref a_75, .ref a_76, .ref a_77, .ref a_78, .int v_79, .ref a_80, .ref a_81, .ref a_82]) := by rw [hkc_98 a_2 (by rw [ka_2]; decide) (by rw [ka_2]; decide) (by rw [ka_2]; decide) (by rw [ka_2]; decide) (by rw [ka_2]; decide) (by rw [ka_2]; decide) (by rw [ka_2]; decide) (by rw [ka_2]; decide) (by rw [ka_2]; decide) (by rw [ka_2]; decide) (by rw [ka_2]; decide) (by rw [ka_2]; decide) (by rw [ka_2]; decide) (by rw [ka_2]; decide) (by rw [ka_2]; decide) (by rw [ka_2]; decide) (by rw [ka_2]; decide)]; exact hfo_66
          have hfo_106 : f_97 o0 = .inr (0, [.ref a_85, .ref a_86, .ref a_87, .int v_88, .ref a_89, .ref a_90, .ref a_91, .int v_92, .ref a_93, .int v_94, .int v_95]) := by rw [hkc_98 o0 (by rw [ko0]; decide) (by rw [ko0]; decide) (by rw [ko0]; decide) (by rw [ko0]; decide) (by rw [ko0]; decide) (by rw [ko0]; decide) (by rw [ko0]; decide) (by rw [ko0]; decide) (by rw [ko0]; decide) (by rw [ko0]; decide) (by rw [ko0]; decide) (by rw [ko0]; decide) (by rw [ko0]; decide) (by rw [ko0]; decide) (by rw [ko0]; decide) (by rw [ko0]; decide) (by rw [ko0]; decide)]; exact hfo_84
          have hfr0 : ∀ b, kd b ≠ 0 → kd b ≠ 1 → kd b ≠ 3 → kd b ≠ 10 → kd b ≠ 507 → kd b ≠ 516 → kd b ≠ 517 → kd b ≠ 518 → kd b ≠ 519 → kd b ≠ 520 → kd b ≠ 521 → kd b ≠ 522 → kd b ≠ 523 → kd b ≠ 524 → kd b ≠ 525 → kd b ≠ 526 → kd b ≠ 527 → kd b ≠ 534 → kd b ≠ 535 → kd b ≠ 536 → kd b ≠ 537 → kd b ≠ 538 → f_97 b = f b := fun b q0 q1 q3 q10 q507 q516 q517 q518 q519 q520 q521 q522 q523 q524 q525 q526 q527 q534 q535 q536 q537 q538 => (hkc_98 b q1 q3 q10 q507 q517 q518 q519 q520 q521 q522 q523 q524 q525 q526 q527 q535 q538).trans (hfr0 b q0 q1 q3 q10 q507 q516 q517 q518 q519 q520 q521 q522 q523 q524 q525 q526 q527 q534 q535 q536 q537 q538)
          have hrr1_0 : ∀ b, kd b = 1 → fldR (f_97 b) 0 = fldR (f b) 0 := fun b kb => (hrc_99 b kb).trans (hrr1_0 b kb)
          have hrr1_1 : ∀ b, kd b = 1 → fldR (f_97 b) 1 = fldR (f b) 1 := fun b kb => (hrc_100 b kb).trans (hrr1_1 b kb)
          have hrr3_0 : ∀ b, kd b = 3 → fldR (f_97 b) 0 = fldR (f b) 0 := fun b kb => (hrc_101 b kb).trans (hrr3_0 b kb)
          have hrr3_3 : ∀ b, kd b = 3 → fldR (f_97 b) 3 = fldR (f b) 3 := fun b kb => (hrc_102 b kb).trans (hrr3_3 b kb)
          have hT0 : trel kd 7 508 510 515 4 f_97 a_2 := hT0.keep (fun b q => hkc_98 b (by rw [q]; decide) (by rw [q]; decide) (by rw [q]; decide) (by rw [q]; decide) (by rw [q]; decide) (by rw [q]; decide) (by rw [q]; decide) (by rw [q]; decide) (by rw [q]; decide) (by rw [q]; decide) (by rw [q]; decide) (by rw [q]; decide) (by rw [q]; decide) (by rw [q]; decide) (by rw [q]; decide) (by rw [q]; decide) (by rw [q]; decide)) (fun b q => hkc_98 b (by rw [q]; decide) (by rw [q]; decide) (by rw [q]; decide) (by rw [q]; decide) (by rw [q]; decide) (by rw [q]; decide) (by rw [q]; decide) (by rw [q]; decide) (by rw [q]; decide) (by rw [q]; decide) (by rw [q]; decide) (by rw [q]; decide) (by rw [q]; decide) (by rw [q]; decide) (by rw [q]; decide) (by rw [q]; decide) (by rw [q]; decide)) (fun b q => hkc_98 b (by rw [q]; decide) (by rw [q]; decide) (by rw [q]; decide) (by rw [q]; decide) (by rw [q]; decide) (by rw [q]; decide) (by rw [q]; decide) (by rw [q]; decide) (by rw [q]; decide) (by rw [q]; decide) (by rw [q]; decide) (by rw [q]; decide) (by rw [q]; decide) (by rw [q]; decide) (by rw [q]; decide) (by rw [q]; decide) (by rw [q]; decide)) (fun b q => hkc_98 b (by rw [q]; decide) (by rw [q]; decide) (by rw [q]; decide) (by rw [q]; decide) (by rw [q]; decide) (by rw [q]; decide) (by rw [q]; decide) (by rw [q]; decide) (by rw [q]; decide) (by rw [q]; decide) (by rw [q]; decide) (by rw [q]; decide) (by rw [q]; decide) (by rw [q]; decide) (by rw [q]; decide) (by rw [q]; decide) (by rw [q]; decide)) (fun b q => congrArg (fun x => fldI x 1) (hkc_98 b (by rw [q]; decide) (by rw [q]; decide) (by rw [q]; decide) (by rw [q]; decide) (by rw [q]; decide) (by rw [q]; decide) (by rw [q]; decide) (by rw [q]; decide) (by rw [q]; decide) (by rw [q]; decide) (by rw [q]; decide) (by rw [q]; decide) (by rw [q]; decide) (by rw [q]; decide) (by rw [q]; decide) (by rw [q]; decide) (by rw [q]; decide)))
          obtain ⟨a_108, a_109, a_110, a_111, a_112, v_113, v_114, v_115, v_116, v_117, v_118, v_119, a_120, a_121, a_122, v_123, a_124, a_125, hfo_107, ⟨ma_108, ka_108⟩, ⟨ma_109, ka_109⟩, ⟨ma_110, ka_110⟩, ⟨ma_111, ka_111⟩, ⟨ma_112, ka_112⟩, bv_113, bv_114, bv_115, ⟨ma_120, ka_120⟩, ⟨ma_121, ka_121⟩, ⟨ma_122, ka_122⟩, bv_123, ⟨ma_124, ka_124⟩, ⟨ma_125, ka_125⟩⟩ := un_3 (hG _ mo2) ko2
          have bv_116 : ((-2147483648) ≤ v_116.toInt ∧ v_116.toInt ≤ 2147483647) := ⟨i32_lo _, i32_hi _⟩
          have bv_117 : ((-2147483648) ≤ v_117.toInt ∧ v_117.toInt ≤ 2147483647) := ⟨i32_lo _, i32_hi _⟩
          have bv_118 : ((-2147483648) ≤ v_118.toInt ∧ v_118.toInt ≤ 2147483647) := ⟨i32_lo _, i32_hi _⟩
          have bv_119 : ((-2147483648) ≤ v_119.toInt ∧ v_119.toInt ≤ 2147483647) := ⟨i32_lo _, i32_hi _⟩
          obtain rfl : a_2 = a_108 := by have hk9 := hrr3_0 o2 ko2; rw [hfo_107, hfo_1] at hk9; exact (Option.some.inj hk9).symm
          obtain rfl : a_5 = a_111 := by have hk9 := hrr3_3 o2 ko2; rw [hfo_107, hfo_1] at hk9; exact (Option.some.inj hk9).symm
          have hT_126 := hTc_103 a_5 (by rw [hfo_107]; rfl)
          refine lv_iconst (v := 0) hx hb dX0_refresh_114 (by decide) ?_
          refine lv_istore (lv' := [(5, .int 0), (0, .ref o0), (1, .int p1), (2, .ref o2), (3, .ref o3), (4, .int p4)]) hx hb dX0_refresh_115 hl (by decide) rfl (fun ls hl => ?_)
          have hloop_148 : ∀ (n : Nat), ∀ (y_149 : Int32), (0 ≤ y_149.toInt ∧ y_149.toInt ≤ 73) → ∀ (f_151 : Nat → va_E), GI (okc cI cL cZ cR cG cH L kd) kd L f_151 → ∀ (H : Heap) (locs : List Loc), va_P (dC, dI) vwCl (va_pl L f_151) H → va_S (fun q => q ∈ L) s.heap H locs → va_D (fun q => q ∈ L) (va_pl L f_151) → (∀ b, kd b ≠ 0 → kd b ≠ 1 → kd b ≠ 3 → kd b ≠ 10 → kd b ≠ 507 → kd b ≠ 516 → kd b ≠ 517 → kd b ≠ 518 → kd b ≠ 519 → kd b ≠ 520 → kd b ≠ 521 → kd b ≠ 522 → kd b ≠ 523 → kd b ≠ 524 → kd b ≠ 525 → kd b ≠ 526 → kd b ≠ 527 → kd b ≠ 534 → kd b ≠ 535 → kd b ≠ 536 → kd b ≠ 537 → kd b ≠ 538 → f_151 b = f b) → (∀ b, kd b = 1 → fldR (f_151 b) 0 = fldR (f b) 0) → (∀ b, kd b = 1 → fldR (f_151 b) 1 = fldR (f b) 1) → (∀ b, kd b = 3 → fldR (f_151 b) 0 = fldR (f b) 0) → (∀ b, kd b = 3 → fldR (f_151 b) 3 = fldR (f b) 3) → (f_151 a_2 = .inr (7, [.ref a_67, .int v_68, .ref a_69, .ref a_70, .ref a_71, .ref a_72, .int v_73, .ref a_74, .ref a_75, .ref a_76, .ref a_77, .ref a_78, .int v_79, .ref a_80, .ref a_81, .ref a_82])) → (f_151 o0 = .inr (0, [.ref a_85, .ref a_86, .ref a_87, .int v_88, .ref a_89, .ref a_90, .ref a_91, .int v_92, .ref a_93, .int v_94, .int v_95])) → (f_151 o2 = .inr (3, [.ref a_2, .ref a_109, .ref a_110, .ref a_5, .ref a_112, .int v_113, .int v_114, .int v_115, .int v_116, .int v_117, .int v_118, .int v_119, .ref a_120, .ref a_121, .ref a_122, .int v_123, .ref a_124, .ref a_125])) → trel kd 7 508 510 515 4 f_151 a_2 → drel kd 1 521 522 f_151 a_5 → 73 - y_149.toInt < (n : Int) → ∀ (ls : Array Slot), lv_has ls 6 [(5, .int y_149), (0, .ref o0), (1, .int p1), (2, .ref o2), (3, .ref o3), (4, .int p4)] → W p l e (headSpec (wU yX0_refresh cX0_refresh 6 none) { frames := 16, cells := 0, slots := 0, locals := 544 }).room s m [.ref o0, .int p1, .ref o2, .ref o3, .int p4].toArray below meth c H locs 0 0 (MQ below (va_Qv (fun (f9 : Nat → va_E) => GI (okc cI cL cZ cR cG cH L kd) kd L f9 ∧ (∀ b, kd b ≠ 0 → kd b ≠ 1 → kd b ≠ 3 → kd b ≠ 10 → kd b ≠ 507 → kd b ≠ 516 → kd b ≠ 517 → kd b ≠ 518 → kd b ≠ 519 → kd b ≠ 520 → kd b ≠ 521 → kd b ≠ 522 → kd b ≠ 523 → kd b ≠ 524 → kd b ≠ 525 → kd b ≠ 526 → kd b ≠ 527 → kd b ≠ 534 → kd b ≠ 535 → kd b ≠ 536 → kd b ≠ 537 → kd b ≠ 538 → f9 b = f b) ∧ (∀ b, kd b = 1 → fldR (f9 b) 0 = fldR (f b) 0) ∧ (∀ b, kd b = 1 → fldR (f9 b) 1 = fldR (f b) 1) ∧ (∀ b, kd b = 3 → fldR (f9 b) 0 = fldR (f b) 0) ∧ (∀ b, kd b = 3 → fldR (f9 b) 3 = fldR (f b) 3) ∧ (∀ d9, fldR (f9 o2) 0 = some d9 → trel kd 7 508 510 515 4 f9 d9) ∧ (∀ d9, fldR (f9 o2) 3 = some d9 → drel kd 1 521 522 f9 d9)) (qP (dC, dI) cI cL cZ cR cG cH L) (fun q => q ∈ L)) [.ref o0, .int p1, .ref o2, .ref o3, .int p4].toArray s 0 0 (fun q => q ∈ L)) (F0 m 117 ls []) := by
            intro n
            induction n with
            | zero => intro y_149 by_149 f_151 hG H locs hP hS hD hfr0 hrr1_0 hrr1_1 hrr3_0 hrr3_3 hfo_152 hfo_153 hfo_154 hT0 hT_126 hmuhloop_148 ls hl; exfalso; omega
            | succ n ih_hloop_148 =>
              intro y_149 by_149 f_151 hG H locs hP hS hD hfr0 hrr1_0 hrr1_1 hrr3_0 hrr3_3 hfo_152 hfo_153 hfo_154 hT0 hT_126 hmuhloop_148 ls hl
              refine lv_iload hx hb dX0_refresh_117 (lv_at hl 0 rfl) ?_
              refine lv_bipush (v := 73) hx hb dX0_refresh_119 (by decide) ?_
              refine lv_icmp_ge (tgt := 139) hx hb dX0_refresh_121 (by decide) (fun c_155 => ?_) (fun c_155 => ?_)
              · skip
                rw [Int32.le_iff_toInt_le, ti_73] at c_155
                refine lv_aload_n hx hb dX0_refresh_139 rfl (lv_at hl 1 rfl) ?_
                refine lv_iconst (v := (-1)) hx hb dX0_refresh_140 (by decide) ?_
                refine tk_putP (D := (dC, dI)) (ci := 0) (v := .int (-1)) (ty := .int) (C := RX0) (T := TX0) (N := 11) hx hb hU inlX0 tyX0 tyX0_ok nmX0 hown hK hP hD hS mo0 hfo_153 rfl 7 (by decide) (hU _ wd_1199) (fun _ h9 => h9) rfl (by decide +kernel) rfl rfl (Nat.le_of_ble_eq_true rfl) dX0_refresh_141 (fun H locs hP hD hS => ?_)
                obtain ⟨f_157, ef_157⟩ : ∃ y : Nat → va_E, y = va_up f_151 o0 (.inr (0, [.ref a_85, .ref a_86, .ref a_87, .int v_88, .ref a_89, .ref a_90, .ref a_91, .int (-1), .ref a_93, .int v_94, .int v_95])) := ⟨_, rfl⟩
                have hP : va_P (dC, dI) vwCl (va_pl L f_157) H := by rw [ef_157]; exact hP
                have hD : va_D (fun q => q ∈ L) (va_pl L f_157) := by rw [ef_157]; exact hD
                have hG : GI (okc cI cL cZ cR cG cH L kd) kd L f_157 := by rw [ef_157]; exact hG.set o0 (mk_0 ko0 ⟨a_85, a_86, a_87, v_88, a_89, a_90, a_91, (-1), a_93, v_94, v_95, rfl, ⟨ma_85, ka_85⟩, ⟨ma_86, ka_86⟩, ⟨ma_87, ka_87⟩, (by constructor <;> omega), ⟨ma_89, ka_89⟩, ⟨ma_90, ka_90⟩, ⟨ma_91, ka_91⟩, ⟨ma_93, ka_93⟩⟩)
                have hfo_158 : f_157 a_2 = .inr (7, [.ref a_67, .int v_68, .ref a_69, .ref a_70, .ref a_71, .ref a_72, .int v_73, .ref a_74, .ref a_75, .ref a_76, .ref a_77, .ref a_78, .int v_79, .ref a_80, .ref a_81, .ref a_82]) := by rw [ef_157, up_ne (kd_ne ko0 ka_2 (by decide))]; exact hfo_152
                have hfo_159 : f_157 o2 = .inr (3, [.ref a_2, .ref a_109, .ref a_110, .ref a_5, .ref a_112, .int v_113, .int v_114, .int v_115, .int v_116, .int v_117, .int v_118, .int v_119, .ref a_120, .ref a_121, .ref a_122, .int v_123, .ref a_124, .ref a_125]) := by rw [ef_157, up_ne (kd_ne ko0 ko2 (by decide))]; exact hfo_154
                have hfr0 : ∀ b, kd b ≠ 0 → kd b ≠ 1 → kd b ≠ 3 → kd b ≠ 10 → kd b ≠ 507 → kd b ≠ 516 → kd b ≠ 517 → kd b ≠ 518 → kd b ≠ 519 → kd b ≠ 520 → kd b ≠ 521 → kd b ≠ 522 → kd b ≠ 523 → kd b ≠ 524 → kd b ≠ 525 → kd b ≠ 526 → kd b ≠ 527 → kd b ≠ 534 → kd b ≠ 535 → kd b ≠ 536 → kd b ≠ 537 → kd b ≠ 538 → f_157 b = f b := fun b q0 q1 q3 q10 q507 q516 q517 q518 q519 q520 q521 q522 q523 q524 q525 q526 q527 q534 q535 q536 q537 q538 => (congrFun ef_157 b).trans ((up_ne (fun e9 => q0 (by rw [e9]; exact ko0))).trans (hfr0 b q0 q1 q3 q10 q507 q516 q517 q518 q519 q520 q521 q522 q523 q524 q525 q526 q527 q534 q535 q536 q537 q538))
                have hrr1_0 : ∀ b, kd b = 1 → fldR (f_157 b) 0 = fldR (f b) 0 := fun b kb => (congrArg (fun x => fldR x 0) ((congrFun ef_157 b).trans (up_ne (kd_ne ko0 kb (by decide))))).trans (hrr1_0 b kb)
                have hrr1_1 : ∀ b, kd b = 1 → fldR (f_157 b) 1 = fldR (f b) 1 := fun b kb => (congrArg (fun x => fldR x 1) ((congrFun ef_157 b).trans (up_ne (kd_ne ko0 kb (by decide))))).trans (hrr1_1 b kb)
                have hrr3_0 : ∀ b, kd b = 3 → fldR (f_157 b) 0 = fldR (f b) 0 := fun b kb => (congrArg (fun x => fldR x 0) ((congrFun ef_157 b).trans (up_ne (kd_ne ko0 kb (by decide))))).trans (hrr3_0 b kb)
                have hrr3_3 : ∀ b, kd b = 3 → fldR (f_157 b) 3 = fldR (f b) 3 := fun b kb => (congrArg (fun x => fldR x 3) ((congrFun ef_157 b).trans (up_ne (kd_ne ko0 kb (by decide))))).trans (hrr3_3 b kb)
                have hT0 : trel kd 7 508 510 515 4 f_157 a_2 := by rw [ef_157]; exact hT0.up ko0 (by decide) (by decide) (by decide) (by decide) (by decide)
                have hT_126 : drel kd 1 521 522 f_157 a_5 := by rw [ef_157]; exact hT_126.up ko0 (by decide) (by decide) (by decide)
                have hfo_160 : f_157 o0 = .inr (0, [.ref a_85, .ref a_86, .ref a_87, .int v_88, .ref a_89, .ref a_90, .ref a_91, .int (-1), .ref a_93, .int v_94, .int v_95]) := by rw [ef_157]; exact up_self
                refine lv_aload_n hx hb dX0_refresh_144 rfl (lv_at hl 1 rfl) ?_
                refine lv_iconst (v := 0) hx hb dX0_refresh_145 (by decide) ?_
                refine lv_iconst (v := 0) hx hb dX0_refresh_146 (by decide) ?_
                refine tk_VvP (As := [.int 0, .int 0]) (rest := []) (n := 2) hx hb hml hown hU hN hZ (s_X0_tryOrders_k0 l (dC, dI) cI cL cZ cR cG cH Z kd L 7 f_157 hG o0 mo0 ko0 0 (by decide) 0 (by (try rw [ti_0]) <;> omega)) wd_1224 wd_1225 wd_1226 wd_37 wd_1227 (by decide +kernel) ⟨Nat.le_of_ble_eq_true rfl, Nat.le_of_ble_eq_true rfl⟩ hK hP hD hS mo0 hfo_160 0 rfl rfl rfl hl.1 rfl (Nat.le_of_ble_eq_true rfl) dX0_refresh_147 ⟨Nat.le_of_ble_eq_true rfl, Nat.le_of_ble_eq_true rfl⟩ (fun f_162 H locs hw hP hD hS => ?_)
                obtain ⟨hG, hkc_163⟩ := hw
                have hfo_165 : f_162 a_2 = .inr (7, [.ref a_67, .int v_68, .ref a_69, .ref a_70, .ref a_71, .ref a_72, .int v_73, .ref a_74, .ref a_75, .ref a_76, .ref a_77, .ref a_78, .int v_79, .ref a_80, .ref a_81, .ref a_82]) := by rw [hkc_163 a_2 (by rw [ka_2]; decide) (by rw [ka_2]; decide) (by rw [ka_2]; decide)]; exact hfo_158
                have hfo_166 : f_162 o2 = .inr (3, [.ref a_2, .ref a_109, .ref a_110, .ref a_5, .ref a_112, .int v_113, .int v_114, .int v_115, .int v_116, .int v_117, .int v_118, .int v_119, .ref a_120, .ref a_121, .ref a_122, .int v_123, .ref a_124, .ref a_125]) := by rw [hkc_163 o2 (by rw [ko2]; decide) (by rw [ko2]; decide) (by rw [ko2]; decide)]; exact hfo_159
                have hfr0 : ∀ b, kd b ≠ 0 → kd b ≠ 1 → kd b ≠ 3 → kd b ≠ 10 → kd b ≠ 507 → kd b ≠ 516 → kd b ≠ 517 → kd b ≠ 518 → kd b ≠ 519 → kd b ≠ 520 → kd b ≠ 521 → kd b ≠ 522 → kd b ≠ 523 → kd b ≠ 524 → kd b ≠ 525 → kd b ≠ 526 → kd b ≠ 527 → kd b ≠ 534 → kd b ≠ 535 → kd b ≠ 536 → kd b ≠ 537 → kd b ≠ 538 → f_162 b = f b := fun b q0 q1 q3 q10 q507 q516 q517 q518 q519 q520 q521 q522 q523 q524 q525 q526 q527 q534 q535 q536 q537 q538 => (hkc_163 b q0 q536 q537).trans (hfr0 b q0 q1 q3 q10 q507 q516 q517 q518 q519 q520 q521 q522 q523 q524 q525 q526 q527 q534 q535 q536 q537 q538)
                have hrr1_0 : ∀ b, kd b = 1 → fldR (f_162 b) 0 = fldR (f b) 0 := fun b kb => (congrArg (fun x => fldR x 0) (hkc_163 b (by rw [kb]; decide) (by rw [kb]; decide) (by rw [kb]; decide))).trans (hrr1_0 b kb)
                have hrr1_1 : ∀ b, kd b = 1 → fldR (f_162 b) 1 = fldR (f b) 1 := fun b kb => (congrArg (fun x => fldR x 1) (hkc_163 b (by rw [kb]; decide) (by rw [kb]; decide) (by rw [kb]; decide))).trans (hrr1_1 b kb)
                have hrr3_0 : ∀ b, kd b = 3 → fldR (f_162 b) 0 = fldR (f b) 0 := fun b kb => (congrArg (fun x => fldR x 0) (hkc_163 b (by rw [kb]; decide) (by rw [kb]; decide) (by rw [kb]; decide))).trans (hrr3_0 b kb)
                have hrr3_3 : ∀ b, kd b = 3 → fldR (f_162 b) 3 = fldR (f b) 3 := fun b kb => (congrArg (fun x => fldR x 3) (hkc_163 b (by rw [kb]; decide) (by rw [kb]; decide) (by rw [kb]; decide))).trans (hrr3_3 b kb)
                have hT0 : trel kd 7 508 510 515 4 f_162 a_2 := hT0.keep (fun b q => hkc_163 b (by rw [q]; decide) (by rw [q]; decide) (by rw [q]; decide)) (fun b q => hkc_163 b (by rw [q]; decide) (by rw [q]; decide) (by rw [q]; decide)) (fun b q => hkc_163 b (by rw [q]; decide) (by rw [q]; decide) (by rw [q]; decide)) (fun b q => hkc_163 b (by rw [q]; decide) (by rw [q]; decide) (by rw [q]; decide)) (fun b q => congrArg (fun x => fldI x 1) (hkc_163 b (by rw [q]; decide) (by rw [q]; decide) (by rw [q]; decide)))
                have hT_126 : drel kd 1 521 522 f_162 a_5 := hT_126.keep (fun b q => congrArg (fun x => fldI x 5) (hkc_163 b (by rw [q]; decide) (by rw [q]; decide) (by rw [q]; decide))) (fun b q => congrArg (fun x => fldR x 0) (hkc_163 b (by rw [q]; decide) (by rw [q]; decide) (by rw [q]; decide))) (fun b q => congrArg (fun x => fldR x 1) (hkc_163 b (by rw [q]; decide) (by rw [q]; decide) (by rw [q]; decide))) (fun b q => hkc_163 b (by rw [q]; decide) (by rw [q]; decide) (by rw [q]; decide)) (fun b q => hkc_163 b (by rw [q]; decide) (by rw [q]; decide) (by rw [q]; decide))
                exact W.vret hx hb hr (fun t ht hW => ⟨⟨f_162, rfl, ⟨hG, hfr0, hrr1_0, hrr1_1, hrr3_0, hrr3_3, (fun d9 h9 => by rw [hfo_166] at h9; obtain rfl := Option.some.inj h9; exact hT0), (fun d9 h9 => by rw [hfo_166] at h9; obtain rfl := Option.some.inj h9; exact hT_126)⟩, by rw [ht]; exact hP, va_K.moved hW.alike hK, pl_in hD⟩, hS.F ht⟩) hS.2.2 dX0_refresh_150
              · skip
                rw [Int32.le_iff_toInt_le, ti_73] at c_155
                refine lv_aload_n hx hb dX0_refresh_124 rfl (lv_at hl 1 rfl) ?_
                refine tk_getP (D := (dC, dI)) (ci := 0) (v := .ref a_90) (C := RX0) (T := TX0) (N := 11) hx hb hU inlX0 hown hK hP mo0 hfo_153 rfl 5 (by decide) (hU _ wd_161) (fun _ h9 => h9) rfl dX0_refresh_125 ?_
                refine lv_iload hx hb dX0_refresh_128 (lv_at hl 0 rfl) ?_
                refine lv_iload hx hb dX0_refresh_130 (lv_at hl 0 rfl) ?_
                obtain ⟨g_168, hfo_167, hbg_168⟩ := un_537 (hG _ ma_90) ka_90
                refine tk_istP hx hb hK hP hD hS 0 ma_90 hfo_167 rfl (vp_in_iff.mpr (by constructor <;> omega)) dX0_refresh_132 (fun H locs hP hD hS => ?_)
                obtain ⟨f_170, ef_170⟩ : ∃ y : Nat → va_E, y = va_up f_151 a_90 (.inl (cI, 511, .inl (upd g_168 (Int32.toNatClampNeg y_149) y_149))) := ⟨_, rfl⟩
                have hP : va_P (dC, dI) vwCl (va_pl L f_170) H := by rw [ef_170]; exact hP
                have hD : va_D (fun q => q ∈ L) (va_pl L f_170) := by rw [ef_170]; exact hD
                have hG : GI (okc cI cL cZ cR cG cH L kd) kd L f_170 := by rw [ef_170]; exact hG.set a_90 (mk_537 ka_90 ⟨_, rfl, okI_up hbg_168 (by constructor <;> omega) _⟩)
                have hfo_171 : f_170 a_2 = .inr (7, [.ref a_67, .int v_68, .ref a_69, .ref a_70, .ref a_71, .ref a_72, .int v_73, .ref a_74, .ref a_75, .ref a_76, .ref a_77, .ref a_78, .int v_79, .ref a_80, .ref a_81, .ref a_82]) := by rw [ef_170, up_ne (kd_ne ka_90 ka_2 (by decide))]; exact hfo_152
                have hfo_172 : f_170 o0 = .inr (0, [.ref a_85, .ref a_86, .ref a_87, .int v_88, .ref a_89, .ref a_90, .ref a_91, .int v_92, .ref a_93, .int v_94, .int v_95]) := by rw [ef_170, up_ne (kd_ne ka_90 ko0 (by decide))]; exact hfo_153
                have hfo_173 : f_170 o2 = .inr (3, [.ref a_2, .ref a_109, .ref a_110, .ref a_5, .ref a_112, .int v_113, .int v_114, .int v_115, .int v_116, .int v_117, .int v_118, .int v_119, .ref a_120, .ref a_121, .ref a_122, .int v_123, .ref a_124, .ref a_125]) := by rw [ef_170, up_ne (kd_ne ka_90 ko2 (by decide))]; exact hfo_154
                have hfr0 : ∀ b, kd b ≠ 0 → kd b ≠ 1 → kd b ≠ 3 → kd b ≠ 10 → kd b ≠ 507 → kd b ≠ 516 → kd b ≠ 517 → kd b ≠ 518 → kd b ≠ 519 → kd b ≠ 520 → kd b ≠ 521 → kd b ≠ 522 → kd b ≠ 523 → kd b ≠ 524 → kd b ≠ 525 → kd b ≠ 526 → kd b ≠ 527 → kd b ≠ 534 → kd b ≠ 535 → kd b ≠ 536 → kd b ≠ 537 → kd b ≠ 538 → f_170 b = f b := fun b q0 q1 q3 q10 q507 q516 q517 q518 q519 q520 q521 q522 q523 q524 q525 q526 q527 q534 q535 q536 q537 q538 => (congrFun ef_170 b).trans ((up_ne (fun e9 => q537 (by rw [e9]; exact ka_90))).trans (hfr0 b q0 q1 q3 q10 q507 q516 q517 q518 q519 q520 q521 q522 q523 q524 q525 q526 q527 q534 q535 q536 q537 q538))
                have hrr1_0 : ∀ b, kd b = 1 → fldR (f_170 b) 0 = fldR (f b) 0 := fun b kb => (congrArg (fun x => fldR x 0) ((congrFun ef_170 b).trans (up_ne (kd_ne ka_90 kb (by decide))))).trans (hrr1_0 b kb)
                have hrr1_1 : ∀ b, kd b = 1 → fldR (f_170 b) 1 = fldR (f b) 1 := fun b kb => (congrArg (fun x => fldR x 1) ((congrFun ef_170 b).trans (up_ne (kd_ne ka_90 kb (by decide))))).trans (hrr1_1 b kb)
                have hrr3_0 : ∀ b, kd b = 3 → fldR (f_170 b) 0 = fldR (f b) 0 := fun b kb => (congrArg (fun x => fldR x 0) ((congrFun ef_170 b).trans (up_ne (kd_ne ka_90 kb (by decide))))).trans (hrr3_0 b kb)
                have hrr3_3 : ∀ b, kd b = 3 → fldR (f_170 b) 3 = fldR (f b) 3 := fun b kb => (congrArg (fun x => fldR x 3) ((congrFun ef_170 b).trans (up_ne (kd_ne ka_90 kb (by decide))))).trans (hrr3_3 b kb)
                have hT0 : trel kd 7 508 510 515 4 f_170 a_2 := by rw [ef_170]; exact hT0.up ka_90 (by decide) (by decide) (by decide) (by decide) (by decide)
                have hT_126 : drel kd 1 521 522 f_170 a_5 := by rw [ef_170]; exact hT_126.up ka_90 (by decide) (by decide) (by decide)
                have hfo_174 : f_170 a_90 = .inl (cI, 511, .inl (upd g_168 (Int32.toNatClampNeg y_149) y_149)) := by rw [ef_170]; exact up_self
                obtain ⟨x_175, ex_175⟩ : ∃ y : Int32, y_149 + 1 = y := ⟨_, rfl⟩
                have hx_175 : x_175.toInt = y_149.toInt + 1 := by rw [← ex_175, ad_I (by rw [ti_1]; omega) (by rw [ti_1]; omega), ti_1]
                have bx_175 : (1 ≤ x_175.toInt ∧ x_175.toInt ≤ 73) := by constructor <;> omega
                refine lv_iinc (v := x_175) (lv' := [(5, .int x_175), (0, .ref o0), (1, .int p1), (2, .ref o2), (3, .ref o3), (4, .int p4)]) hx hb dX0_refresh_133 hl (k := 0) rfl ex_175 (by decide) rfl (fun ls hl => ?_)
                refine lv_goto (tgt := 117) hx hb dX0_refresh_136 (by decide) ?_
                exact ih_hloop_148 x_175 (by constructor <;> omega) f_170 hG _ _ hP hS hD hfr0 hrr1_0 hrr1_1 hrr3_0 hrr3_3 hfo_171 hfo_172 hfo_173 hT0 hT_126 (by omega) ls (lv_sub hl [0, 1, 2, 3, 4, 5] rfl)
          exact hloop_148 74 0 (by decide) f_97 hG _ _ hP hS hD hfr0 hrr1_0 hrr1_1 hrr3_0 hrr3_3 hfo_105 hfo_106 hfo_107 hT0 hT_126 (by (try rw [ti_0]) <;> omega) ls hl
        · skip
          rw [Int32.le_iff_toInt_le] at c_83
          refine lv_aload_n hx hb dX0_refresh_49 rfl (lv_at hl 4 rfl) ?_
          obtain ⟨v_177, v_178, a_179, a_180, a_181, v_182, a_183, a_184, a_185, hfo_176, bv_178, ⟨ma_179, ka_179⟩, ⟨ma_180, ka_180⟩, ⟨ma_181, ka_181⟩, ⟨ma_183, ka_183⟩, ⟨ma_184, ka_184⟩, ⟨ma_185, ka_185⟩⟩ := un_6 (hG _ mo3) ko3
          have bv_177 : ((-2147483648) ≤ v_177.toInt ∧ v_177.toInt ≤ 2147483647) := ⟨i32_lo _, i32_hi _⟩
          have bv_182 : ((-2147483648) ≤ v_182.toInt ∧ v_182.toInt ≤ 2147483647) := ⟨i32_lo _, i32_hi _⟩
          refine tk_getP (D := (dC, dI)) (ci := 6) (v := .int v_177) (C := RX6) (T := TX6) (N := 9) hx hb hU inlX6 hown hK hP mo3 hfo_176 rfl 0 (by decide) (hU _ wd_1198) (fun _ h9 => h9) rfl dX0_refresh_50 ?_
          refine lv_iload hx hb dX0_refresh_53 (lv_at hl 0 rfl) ?_
          refine lv_ishr hx hb dX0_refresh_55 ?_
          refine lv_topi (fun x_186 ex_186 => ?_)
          have bx_186 : ((-2147483648) ≤ x_186.toInt ∧ x_186.toInt ≤ 2147483647) := ⟨i32_lo _, i32_hi _⟩
          refine lv_iconst (v := 1) hx hb dX0_refresh_56 (by decide) ?_
          refine lv_iand hx hb dX0_refresh_57 ?_
          refine lv_topi (fun x_187 ex_187 => ?_)
          have bx_187 : (0 ≤ x_187.toInt ∧ x_187.toInt ≤ 1) := by rw [ex_187]; have h8 := an_C x_186 (m := 1) (by decide); rw [ti_1] at h8; exact h8
          refine lv_iconst (v := 1) hx hb dX0_refresh_58 (by decide) ?_
          have hcut_193 : ∀ (f_189 : Nat → va_E), GI (okc cI cL cZ cR cG cH L kd) kd L f_189 → ∀ (H : Heap) (locs : List Loc), va_P (dC, dI) vwCl (va_pl L f_189) H → va_S (fun q => q ∈ L) s.heap H locs → va_D (fun q => q ∈ L) (va_pl L f_189) → (∀ b, kd b ≠ 0 → kd b ≠ 1 → kd b ≠ 3 → kd b ≠ 10 → kd b ≠ 507 → kd b ≠ 516 → kd b ≠ 517 → kd b ≠ 518 → kd b ≠ 519 → kd b ≠ 520 → kd b ≠ 521 → kd b ≠ 522 → kd b ≠ 523 → kd b ≠ 524 → kd b ≠ 525 → kd b ≠ 526 → kd b ≠ 527 → kd b ≠ 534 → kd b ≠ 535 → kd b ≠ 536 → kd b ≠ 537 → kd b ≠ 538 → f_189 b = f b) → (∀ b, kd b = 1 → fldR (f_189 b) 0 = fldR (f b) 0) → (∀ b, kd b = 1 → fldR (f_189 b) 1 = fldR (f b) 1) → (∀ b, kd b = 3 → fldR (f_189 b) 0 = fldR (f b) 0) → (∀ b, kd b = 3 → fldR (f_189 b) 3 = fldR (f b) 3) → (f_189 o2 = .inr (3, [.ref a_2, .ref a_3, .ref a_4, .ref a_5, .ref a_6, .int v_7, .int v_8, .int v_9, .int v_10, .int v_11, .int v_12, .int v_13, .ref a_14, .ref a_15, .ref a_16, .int v_17, .ref a_18, .ref a_19])) → (f_189 a_2 = .inr (7, [.ref a_67, .int v_68, .ref a_69, .ref a_70, .ref a_71, .ref a_72, .int v_73, .ref a_74, .ref a_75, .ref a_76, .ref a_77, .ref a_78, .int v_79, .ref a_80, .ref a_81, .ref a_82])) → (f_189 o3 = .inr (6, [.int v_177, .int v_178, .ref a_179, .ref a_180, .ref a_181, .int v_182, .ref a_183, .ref a_184, .ref a_185])) → trel kd 7 508 510 515 4 f_189 a_2 → drel kd 1 521 522 f_189 a_5 → ∀ (ls : Array Slot), lv_has ls 6 [(5, .int y_62), (0, .ref o0), (1, .int p1), (2, .ref o2), (3, .ref o3), (4, .int p4)] → W p l e (headSpec (wU yX0_refresh cX0_refresh 6 none) { frames := 16, cells := 0, slots := 0, locals := 544 }).room s m [.ref o0, .int p1, .ref o2, .ref o3, .int p4].toArray below meth c H locs 0 0 (MQ below (va_Qv (fun (f9 : Nat → va_E) => GI (okc cI cL cZ cR cG cH L kd) kd L f9 ∧ (∀ b, kd b ≠ 0 → kd b ≠ 1 → kd b ≠ 3 → kd b ≠ 10 → kd b ≠ 507 → kd b ≠ 516 → kd b ≠ 517 → kd b ≠ 518 → kd b ≠ 519 → kd b ≠ 520 → kd b ≠ 521 → kd b ≠ 522 → kd b ≠ 523 → kd b ≠ 524 → kd b ≠ 525 → kd b ≠ 526 → kd b ≠ 527 → kd b ≠ 534 → kd b ≠ 535 → kd b ≠ 536 → kd b ≠ 537 → kd b ≠ 538 → f9 b = f b) ∧ (∀ b, kd b = 1 → fldR (f9 b) 0 = fldR (f b) 0) ∧ (∀ b, kd b = 1 → fldR (f9 b) 1 = fldR (f b) 1) ∧ (∀ b, kd b = 3 → fldR (f9 b) 0 = fldR (f b) 0) ∧ (∀ b, kd b = 3 → fldR (f9 b) 3 = fldR (f b) 3) ∧ (∀ d9, fldR (f9 o2) 0 = some d9 → trel kd 7 508 510 515 4 f9 d9) ∧ (∀ d9, fldR (f9 o2) 3 = some d9 → drel kd 1 521 522 f9 d9)) (qP (dC, dI) cI cL cZ cR cG cH L) (fun q => q ∈ L)) [.ref o0, .int p1, .ref o2, .ref o3, .int p4].toArray s 0 0 (fun q => q ∈ L)) (F0 m 102 ls []) := by
            intro f_189 hG H locs hP hS hD hfr0 hrr1_0 hrr1_1 hrr3_0 hrr3_3 hfo_190 hfo_191 hfo_192 hT0 hT1 ls hl
            obtain ⟨x_194, ex_194⟩ : ∃ y : Int32, y_62 + 1 = y := ⟨_, rfl⟩
            have hx_194 : x_194.toInt = y_62.toInt + 1 := by rw [← ex_194, ad_I (by rw [ti_1]; omega) (by rw [ti_1]; omega), ti_1]
            have bx_194 : (1 ≤ x_194.toInt ∧ x_194.toInt ≤ 8) := by constructor <;> omega
            refine lv_iinc (v := x_194) (lv' := [(5, .int x_194), (0, .ref o0), (1, .int p1), (2, .ref o2), (3, .ref o3), (4, .int p4)]) hx hb dX0_refresh_102 hl (k := 0) rfl ex_194 (by decide) rfl (fun ls hl => ?_)
            refine lv_goto (tgt := 37) hx hb dX0_refresh_105 (by decide) ?_
            exact ih_hloop_61 x_194 (by constructor <;> omega) f_189 hG _ _ hP hS hD hfr0 hrr1_0 hrr1_1 hrr3_0 hrr3_3 hfo_190 hT0 hT1 (by omega) ls (lv_sub hl [0, 1, 2, 3, 4, 5] rfl)
          refine lv_icmp_ne (tgt := 102) hx hb dX0_refresh_59 (by decide) (fun c_195 => ?_) (fun c_195 => ?_)
          · skip
            rw [← Int32.toInt_inj, ti_1] at c_195
            exact hcut_193 f_64 hG _ _ hP hS hD hfr0 hrr1_0 hrr1_1 hrr3_0 hrr3_3 hfo_65 hfo_66 hfo_176 hT0 hT1 ls (lv_sub hl [0, 1, 2, 3, 4, 5] rfl)
          · skip
            rw [← Int32.toInt_inj, ti_1] at c_195
            refine lv_aload_n hx hb dX0_refresh_62 rfl (lv_at hl 1 rfl) ?_
            obtain ⟨a_197, a_198, a_199, v_200, a_201, a_202, a_203, v_204, a_205, v_206, v_207, hfo_196, ⟨ma_197, ka_197⟩, ⟨ma_198, ka_198⟩, ⟨ma_199, ka_199⟩, bv_200, ⟨ma_201, ka_201⟩, ⟨ma_202, ka_202⟩, ⟨ma_203, ka_203⟩, ⟨ma_205, ka_205⟩⟩ := un_0 (hG _ mo0) ko0
            have bv_204 : ((-2147483648) ≤ v_204.toInt ∧ v_204.toInt ≤ 2147483647) := ⟨i32_lo _, i32_hi _⟩
            have bv_206 : ((-2147483648) ≤ v_206.toInt ∧ v_206.toInt ≤ 2147483647) := ⟨i32_lo _, i32_hi _⟩
            have bv_207 : ((-2147483648) ≤ v_207.toInt ∧ v_207.toInt ≤ 2147483647) := ⟨i32_lo _, i32_hi _⟩
            refine tk_getP (D := (dC, dI)) (ci := 0) (v := .int v_200) (C := RX0) (T := TX0) (N := 11) hx hb hU inlX0 hown hK hP mo0 hfo_196 rfl 3 (by decide) (hU _ wd_1195) (fun _ h9 => h9) rfl dX0_refresh_63 ?_
            refine lv_bipush (v := 6) hx hb dX0_refresh_66 (by decide) ?_
            refine lv_icmp_ge (tgt := 102) hx hb dX0_refresh_68 (by decide) (fun c_208 => ?_) (fun c_208 => ?_)
            · skip
              rw [Int32.le_iff_toInt_le, ti_6] at c_208
              exact hcut_193 f_64 hG _ _ hP hS hD hfr0 hrr1_0 hrr1_1 hrr3_0 hrr3_3 hfo_65 hfo_66 hfo_176 hT0 hT1 ls (lv_sub hl [0, 1, 2, 3, 4, 5] rfl)
            · skip
              rw [Int32.le_iff_toInt_le, ti_6] at c_208
              refine lv_aload_n hx hb dX0_refresh_71 rfl (lv_at hl 1 rfl) ?_
              refine tk_getP (D := (dC, dI)) (ci := 0) (v := .ref a_199) (C := RX0) (T := TX0) (N := 11) hx hb hU inlX0 hown hK hP mo0 hfo_196 rfl 2 (by decide) (hU _ wd_159) (fun _ h9 => h9) rfl dX0_refresh_72 ?_
              refine lv_aload_n hx hb dX0_refresh_75 rfl (lv_at hl 1 rfl) ?_
              refine tk_getP (D := (dC, dI)) (ci := 0) (v := .int v_200) (C := RX0) (T := TX0) (N := 11) hx hb hU inlX0 hown hK hP mo0 hfo_196 rfl 3 (by decide) (hU _ wd_1195) (fun _ h9 => h9) rfl dX0_refresh_76 ?_
              refine lv_iload hx hb dX0_refresh_79 (lv_at hl 0 rfl) ?_
              obtain ⟨g_210, hfo_209, hbg_210⟩ := un_536 (hG _ ma_199) ka_199
              refine tk_istP hx hb hK hP hD hS 0 ma_199 hfo_209 rfl (vp_in_iff.mpr (by constructor <;> omega)) dX0_refresh_81 (fun H locs hP hD hS => ?_)
              obtain ⟨f_212, ef_212⟩ : ∃ y : Nat → va_E, y = va_up f_64 a_199 (.inl (cI, 6, .inl (upd g_210 (Int32.toNatClampNeg v_200) y_62))) := ⟨_, rfl⟩
              have hP : va_P (dC, dI) vwCl (va_pl L f_212) H := by rw [ef_212]; exact hP
              have hD : va_D (fun q => q ∈ L) (va_pl L f_212) := by rw [ef_212]; exact hD
              have hG : GI (okc cI cL cZ cR cG cH L kd) kd L f_212 := by rw [ef_212]; exact hG.set a_199 (mk_536 ka_199 ⟨_, rfl, okI_up hbg_210 (by constructor <;> omega) _⟩)
              have hfo_213 : f_212 o2 = .inr (3, [.ref a_2, .ref a_3, .ref a_4, .ref a_5, .ref a_6, .int v_7, .int v_8, .int v_9, .int v_10, .int v_11, .int v_12, .int v_13, .ref a_14, .ref a_15, .ref a_16, .int v_17, .ref a_18, .ref a_19]) := by rw [ef_212, up_ne (kd_ne ka_199 ko2 (by decide))]; exact hfo_65
              have hfo_214 : f_212 a_2 = .inr (7, [.ref a_67, .int v_68, .ref a_69, .ref a_70, .ref a_71, .ref a_72, .int v_73, .ref a_74, .ref a_75, .ref a_76, .ref a_77, .ref a_78, .int v_79, .ref a_80, .ref a_81, .ref a_82]) := by rw [ef_212, up_ne (kd_ne ka_199 ka_2 (by decide))]; exact hfo_66
              have hfo_215 : f_212 o3 = .inr (6, [.int v_177, .int v_178, .ref a_179, .ref a_180, .ref a_181, .int v_182, .ref a_183, .ref a_184, .ref a_185]) := by rw [ef_212, up_ne (kd_ne ka_199 ko3 (by decide))]; exact hfo_176
              have hfo_216 : f_212 o0 = .inr (0, [.ref a_197, .ref a_198, .ref a_199, .int v_200, .ref a_201, .ref a_202, .ref a_203, .int v_204, .ref a_205, .int v_206, .int v_207]) := by rw [ef_212, up_ne (kd_ne ka_199 ko0 (by decide))]; exact hfo_196
              have hfr0 : ∀ b, kd b ≠ 0 → kd b ≠ 1 → kd b ≠ 3 → kd b ≠ 10 → kd b ≠ 507 → kd b ≠ 516 → kd b ≠ 517 → kd b ≠ 518 → kd b ≠ 519 → kd b ≠ 520 → kd b ≠ 521 → kd b ≠ 522 → kd b ≠ 523 → kd b ≠ 524 → kd b ≠ 525 → kd b ≠ 526 → kd b ≠ 527 → kd b ≠ 534 → kd b ≠ 535 → kd b ≠ 536 → kd b ≠ 537 → kd b ≠ 538 → f_212 b = f b := fun b q0 q1 q3 q10 q507 q516 q517 q518 q519 q520 q521 q522 q523 q524 q525 q526 q527 q534 q535 q536 q537 q538 => (congrFun ef_212 b).trans ((up_ne (fun e9 => q536 (by rw [e9]; exact ka_199))).trans (hfr0 b q0 q1 q3 q10 q507 q516 q517 q518 q519 q520 q521 q522 q523 q524 q525 q526 q527 q534 q535 q536 q537 q538))
              have hrr1_0 : ∀ b, kd b = 1 → fldR (f_212 b) 0 = fldR (f b) 0 := fun b kb => (congrArg (fun x => fldR x 0) ((congrFun ef_212 b).trans (up_ne (kd_ne ka_199 kb (by decide))))).trans (hrr1_0 b kb)
              have hrr1_1 : ∀ b, kd b = 1 → fldR (f_212 b) 1 = fldR (f b) 1 := fun b kb => (congrArg (fun x => fldR x 1) ((congrFun ef_212 b).trans (up_ne (kd_ne ka_199 kb (by decide))))).trans (hrr1_1 b kb)
              have hrr3_0 : ∀ b, kd b = 3 → fldR (f_212 b) 0 = fldR (f b) 0 := fun b kb => (congrArg (fun x => fldR x 0) ((congrFun ef_212 b).trans (up_ne (kd_ne ka_199 kb (by decide))))).trans (hrr3_0 b kb)
              have hrr3_3 : ∀ b, kd b = 3 → fldR (f_212 b) 3 = fldR (f b) 3 := fun b kb => (congrArg (fun x => fldR x 3) ((congrFun ef_212 b).trans (up_ne (kd_ne ka_199 kb (by decide))))).trans (hrr3_3 b kb)
              have hT0 : trel kd 7 508 510 515 4 f_212 a_2 := by rw [ef_212]; exact hT0.up ka_199 (by decide) (by decide) (by decide) (by decide) (by decide)
              have hT1 : drel kd 1 521 522 f_212 a_5 := by rw [ef_212]; exact hT1.up ka_199 (by decide) (by decide) (by decide)
              have hfo_217 : f_212 a_199 = .inl (cI, 6, .inl (upd g_210 (Int32.toNatClampNeg v_200) y_62)) := by rw [ef_212]; exact up_self
              refine lv_aload_n hx hb dX0_refresh_82 rfl (lv_at hl 1 rfl) ?_
              refine lv_dup hx hb dX0_refresh_83 rfl ?_
              refine tk_getP (D := (dC, dI)) (ci := 0) (v := .int v_200) (C := RX0) (T := TX0) (N := 11) hx hb hU inlX0 hown hK hP mo0 hfo_216 rfl 3 (by decide) (hU _ wd_1195) (fun _ h9 => h9) rfl dX0_refresh_84 ?_
              refine lv_iconst (v := 1) hx hb dX0_refresh_87 (by decide) ?_
              refine lv_iadd hx hb dX0_refresh_88 ?_
              refine lv_topi (fun x_218 ex_218 => ?_)
              have hx_218 : x_218.toInt = v_200.toInt + 1 := by rw [ex_218, ad_I (by rw [ti_1]; omega) (by rw [ti_1]; omega), ti_1]
              have bx_218 : (1 ≤ x_218.toInt ∧ x_218.toInt ≤ 6) := by constructor <;> omega
              refine tk_putP (D := (dC, dI)) (ci := 0) (v := .int x_218) (ty := .int) (C := RX0) (T := TX0) (N := 11) hx hb hU inlX0 tyX0 tyX0_ok nmX0 hown hK hP hD hS mo0 hfo_216 rfl 3 (by decide) (hU _ wd_1195) (fun _ h9 => h9) rfl (by decide +kernel) rfl rfl (Nat.le_of_ble_eq_true rfl) dX0_refresh_89 (fun H locs hP hD hS => ?_)
              obtain ⟨f_220, ef_220⟩ : ∃ y : Nat → va_E, y = va_up f_212 o0 (.inr (0, [.ref a_197, .ref a_198, .ref a_199, .int x_218, .ref a_201, .ref a_202, .ref a_203, .int v_204, .ref a_205, .int v_206, .int v_207])) := ⟨_, rfl⟩
              have hP : va_P (dC, dI) vwCl (va_pl L f_220) H := by rw [ef_220]; exact hP
              have hD : va_D (fun q => q ∈ L) (va_pl L f_220) := by rw [ef_220]; exact hD
              have hG : GI (okc cI cL cZ cR cG cH L kd) kd L f_220 := by rw [ef_220]; exact hG.set o0 (mk_0 ko0 ⟨a_197, a_198, a_199, x_218, a_201, a_202, a_203, v_204, a_205, v_206, v_207, rfl, ⟨ma_197, ka_197⟩, ⟨ma_198, ka_198⟩, ⟨ma_199, ka_199⟩, (by constructor <;> omega), ⟨ma_201, ka_201⟩, ⟨ma_202, ka_202⟩, ⟨ma_203, ka_203⟩, ⟨ma_205, ka_205⟩⟩)
              have hfo_221 : f_220 o2 = .inr (3, [.ref a_2, .ref a_3, .ref a_4, .ref a_5, .ref a_6, .int v_7, .int v_8, .int v_9, .int v_10, .int v_11, .int v_12, .int v_13, .ref a_14, .ref a_15, .ref a_16, .int v_17, .ref a_18, .ref a_19]) := by rw [ef_220, up_ne (kd_ne ko0 ko2 (by decide))]; exact hfo_213
              have hfo_222 : f_220 a_2 = .inr (7, [.ref a_67, .int v_68, .ref a_69, .ref a_70, .ref a_71, .ref a_72, .int v_73, .ref a_74, .ref a_75, .ref a_76, .ref a_77, .ref a_78, .int v_79, .ref a_80, .ref a_81, .ref a_82]) := by rw [ef_220, up_ne (kd_ne ko0 ka_2 (by decide))]; exact hfo_214
              have hfo_223 : f_220 o3 = .inr (6, [.int v_177, .int v_178, .ref a_179, .ref a_180, .ref a_181, .int v_182, .ref a_183, .ref a_184, .ref a_185]) := by rw [ef_220, up_ne (kd_ne ko0 ko3 (by decide))]; exact hfo_215
              have hfr0 : ∀ b, kd b ≠ 0 → kd b ≠ 1 → kd b ≠ 3 → kd b ≠ 10 → kd b ≠ 507 → kd b ≠ 516 → kd b ≠ 517 → kd b ≠ 518 → kd b ≠ 519 → kd b ≠ 520 → kd b ≠ 521 → kd b ≠ 522 → kd b ≠ 523 → kd b ≠ 524 → kd b ≠ 525 → kd b ≠ 526 → kd b ≠ 527 → kd b ≠ 534 → kd b ≠ 535 → kd b ≠ 536 → kd b ≠ 537 → kd b ≠ 538 → f_220 b = f b := fun b q0 q1 q3 q10 q507 q516 q517 q518 q519 q520 q521 q522 q523 q524 q525 q526 q527 q534 q535 q536 q537 q538 => (congrFun ef_220 b).trans ((up_ne (fun e9 => q0 (by rw [e9]; exact ko0))).trans (hfr0 b q0 q1 q3 q10 q507 q516 q517 q518 q519 q520 q521 q522 q523 q524 q525 q526 q527 q534 q535 q536 q537 q538))
              have hrr1_0 : ∀ b, kd b = 1 → fldR (f_220 b) 0 = fldR (f b) 0 := fun b kb => (congrArg (fun x => fldR x 0) ((congrFun ef_220 b).trans (up_ne (kd_ne ko0 kb (by decide))))).trans (hrr1_0 b kb)
              have hrr1_1 : ∀ b, kd b = 1 → fldR (f_220 b) 1 = fldR (f b) 1 := fun b kb => (congrArg (fun x => fldR x 1) ((congrFun ef_220 b).trans (up_ne (kd_ne ko0 kb (by decide))))).trans (hrr1_1 b kb)
              have hrr3_0 : ∀ b, kd b = 3 → fldR (f_220 b) 0 = fldR (f b) 0 := fun b kb => (congrArg (fun x => fldR x 0) ((congrFun ef_220 b).trans (up_ne (kd_ne ko0 kb (by decide))))).trans (hrr3_0 b kb)
              have hrr3_3 : ∀ b, kd b = 3 → fldR (f_220 b) 3 = fldR (f b) 3 := fun b kb => (congrArg (fun x => fldR x 3) ((congrFun ef_220 b).trans (up_ne (kd_ne ko0 kb (by decide))))).trans (hrr3_3 b kb)
              have hT0 : trel kd 7 508 510 515 4 f_220 a_2 := by rw [ef_220]; exact hT0.up ko0 (by decide) (by decide) (by decide) (by decide) (by decide)
              have hT1 : drel kd 1 521 522 f_220 a_5 := by rw [ef_220]; exact hT1.up ko0 (by decide) (by decide) (by decide)
              have hfo_224 : f_220 o0 = .inr (0, [.ref a_197, .ref a_198, .ref a_199, .int x_218, .ref a_201, .ref a_202, .ref a_203, .int v_204, .ref a_205, .int v_206, .int v_207]) := by rw [ef_220]; exact up_self
              refine lv_aload_n hx hb dX0_refresh_92 rfl (lv_at hl 1 rfl) ?_
              refine lv_aload_n hx hb dX0_refresh_93 rfl (lv_at hl 3 rfl) ?_
              refine tk_getP (D := (dC, dI)) (ci := 3) (v := .ref a_2) (C := RX3) (T := TX3) (N := 18) hx hb hU inlX3 hown hK hP mo2 hfo_221 rfl 0 (by decide) (hU _ wd_1196) (fun _ h9 => h9) rfl dX0_refresh_94 ?_
              refine lv_iload hx hb dX0_refresh_97 (lv_at hl 0 rfl) ?_
              refine tk_VvP (As := [.ref a_2, .int y_62]) (rest := []) (n := 2) hx hb hml hown hU hN hZ (s_X0_fillAfter_k0_k7 l (dC, dI) cI cL cZ cR cG cH Z kd L f_220 hG o0 mo0 ko0 a_2 ma_2 ka_2 y_62 (by constructor <;> omega) hT0 (fun c9 h9 => by rw [hfo_222] at h9; obtain rfl := Option.some.inj h9; omega)) wd_1200 wd_1201 wd_1202 wd_37 wd_1203 (by decide +kernel) ⟨Nat.le_of_ble_eq_true rfl, Nat.le_of_ble_eq_true rfl⟩ hK hP hD hS mo0 hfo_224 0 rfl rfl rfl hl.1 rfl (Nat.le_of_ble_eq_true rfl) dX0_refresh_99 ⟨Nat.le_of_ble_eq_true rfl, Nat.le_of_ble_eq_true rfl⟩ (fun f_226 H locs hw hP hD hS => ?_)
              obtain ⟨hG, hkc_227, hTc_228⟩ := hw
              have hfo_230 : f_226 o2 = .inr (3, [.ref a_2, .ref a_3, .ref a_4, .ref a_5, .ref a_6, .int v_7, .int v_8, .int v_9, .int v_10, .int v_11, .int v_12, .int v_13, .ref a_14, .ref a_15, .ref a_16, .int v_17, .ref a_18, .ref a_19]) := by rw [hkc_227 o2 (by rw [ko2]; decide) (by rw [ko2]; decide) (by rw [ko2]; decide)]; exact hfo_221
              have hfo_231 : f_226 a_2 = .inr (7, [.ref a_67, .int v_68, .ref a_69, .ref a_70, .ref a_71, .ref a_72, .int v_73, .ref a_74, .ref a_75, .ref a_76, .ref a_77, .ref a_78, .int v_79, .ref a_80, .ref a_81, .ref a_82]) := by rw [hkc_227 a_2 (by rw [ka_2]; decide) (by rw [ka_2]; decide) (by rw [ka_2]; decide)]; exact hfo_222
              have hfo_232 : f_226 o3 = .inr (6, [.int v_177, .int v_178, .ref a_179, .ref a_180, .ref a_181, .int v_182, .ref a_183, .ref a_184, .ref a_185]) := by rw [hkc_227 o3 (by rw [ko3]; decide) (by rw [ko3]; decide) (by rw [ko3]; decide)]; exact hfo_223
              have hfo_233 : f_226 o0 = .inr (0, [.ref a_197, .ref a_198, .ref a_199, .int x_218, .ref a_201, .ref a_202, .ref a_203, .int v_204, .ref a_205, .int v_206, .int v_207]) := by rw [hkc_227 o0 (by rw [ko0]; decide) (by rw [ko0]; decide) (by rw [ko0]; decide)]; exact hfo_224
              have hfr0 : ∀ b, kd b ≠ 0 → kd b ≠ 1 → kd b ≠ 3 → kd b ≠ 10 → kd b ≠ 507 → kd b ≠ 516 → kd b ≠ 517 → kd b ≠ 518 → kd b ≠ 519 → kd b ≠ 520 → kd b ≠ 521 → kd b ≠ 522 → kd b ≠ 523 → kd b ≠ 524 → kd b ≠ 525 → kd b ≠ 526 → kd b ≠ 527 → kd b ≠ 534 → kd b ≠ 535 → kd b ≠ 536 → kd b ≠ 537 → kd b ≠ 538 → f_226 b = f b := fun b q0 q1 q3 q10 q507 q516 q517 q518 q519 q520 q521 q522 q523 q524 q525 q526 q527 q534 q535 q536 q537 q538 => (hkc_227 b q516 q534 q538).trans (hfr0 b q0 q1 q3 q10 q507 q516 q517 q518 q519 q520 q521 q522 q523 q524 q525 q526 q527 q534 q535 q536 q537 q538)
              have hrr1_0 : ∀ b, kd b = 1 → fldR (f_226 b) 0 = fldR (f b) 0 := fun b kb => (congrArg (fun x => fldR x 0) (hkc_227 b (by rw [kb]; decide) (by rw [kb]; decide) (by rw [kb]; decide))).trans (hrr1_0 b kb)
              have hrr1_1 : ∀ b, kd b = 1 → fldR (f_226 b) 1 = fldR (f b) 1 := fun b kb => (congrArg (fun x => fldR x 1) (hkc_227 b (by rw [kb]; decide) (by rw [kb]; decide) (by rw [kb]; decide))).trans (hrr1_1 b kb)
              have hrr3_0 : ∀ b, kd b = 3 → fldR (f_226 b) 0 = fldR (f b) 0 := fun b kb => (congrArg (fun x => fldR x 0) (hkc_227 b (by rw [kb]; decide) (by rw [kb]; decide) (by rw [kb]; decide))).trans (hrr3_0 b kb)
              have hrr3_3 : ∀ b, kd b = 3 → fldR (f_226 b) 3 = fldR (f b) 3 := fun b kb => (congrArg (fun x => fldR x 3) (hkc_227 b (by rw [kb]; decide) (by rw [kb]; decide) (by rw [kb]; decide))).trans (hrr3_3 b kb)
              have hT0 : trel kd 7 508 510 515 4 f_226 a_2 := hT0.keep (fun b q => hkc_227 b (by rw [q]; decide) (by rw [q]; decide) (by rw [q]; decide)) (fun b q => hkc_227 b (by rw [q]; decide) (by rw [q]; decide) (by rw [q]; decide)) (fun b q => hkc_227 b (by rw [q]; decide) (by rw [q]; decide) (by rw [q]; decide)) (fun b q => hkc_227 b (by rw [q]; decide) (by rw [q]; decide) (by rw [q]; decide)) (fun b q => congrArg (fun x => fldI x 1) (hkc_227 b (by rw [q]; decide) (by rw [q]; decide) (by rw [q]; decide)))
              have hT1 : drel kd 1 521 522 f_226 a_5 := hT1.keep (fun b q => congrArg (fun x => fldI x 5) (hkc_227 b (by rw [q]; decide) (by rw [q]; decide) (by rw [q]; decide))) (fun b q => congrArg (fun x => fldR x 0) (hkc_227 b (by rw [q]; decide) (by rw [q]; decide) (by rw [q]; decide))) (fun b q => congrArg (fun x => fldR x 1) (hkc_227 b (by rw [q]; decide) (by rw [q]; decide) (by rw [q]; decide))) (fun b q => hkc_227 b (by rw [q]; decide) (by rw [q]; decide) (by rw [q]; decide)) (fun b q => hkc_227 b (by rw [q]; decide) (by rw [q]; decide) (by rw [q]; decide))
              exact hcut_193 f_226 hG _ _ hP hS hD hfr0 hrr1_0 hrr1_1 hrr3_0 hrr3_3 hfo_230 hfo_231 hfo_232 hTc_228 hT1 ls (lv_sub hl [0, 1, 2, 3, 4, 5] rfl)
    exact hloop_61 9 0 (by decide) f_42 hG _ _ hP hS hD hfr0 hrr1_0 hrr1_1 hrr3_0 hrr3_3 hfo_43 hT0 hT1 (by (try rw [ti_0]) <;> omega) ls hl
  · skip
    rw [← Int32.toInt_inj] at c_32
    refine lv_aload_n hx hb dX0_refresh_9 rfl (lv_at hl 0 rfl) ?_
    refine tk_getP (D := (dC, dI)) (ci := 0) (v := .int v_30) (C := RX0) (T := TX0) (N := 11) hx hb hU inlX0 hown hK hP mo0 hfo_20 rfl 9 (by decide) (hU _ wd_1194) (fun _ h9 => h9) rfl dX0_refresh_10 ?_
    refine lv_iload_n hx hb dX0_refresh_13 rfl (lv_at hl 1 rfl) ?_
    refine lv_icmp_ne (tgt := 18) hx hb dX0_refresh_14 (by decide) (fun c_234 => ?_) (fun c_234 => ?_)
    · skip
      rw [← Int32.toInt_inj] at c_234
      refine lv_aload_n hx hb dX0_refresh_18 rfl (lv_at hl 0 rfl) ?_
      refine lv_iload hx hb dX0_refresh_19 (lv_at hl 4 rfl) ?_
      refine tk_putP (D := (dC, dI)) (ci := 0) (v := .int p4) (ty := .int) (C := RX0) (T := TX0) (N := 11) hx hb hU inlX0 tyX0 tyX0_ok nmX0 hown hK hP hD hS mo0 hfo_20 rfl 10 (by decide) (hU _ wd_164) (fun _ h9 => h9) rfl (by decide +kernel) rfl rfl (Nat.le_of_ble_eq_true rfl) dX0_refresh_21 (fun H locs hP hD hS => ?_)
      obtain ⟨f_236, ef_236⟩ : ∃ y : Nat → va_E, y = va_up f o0 (.inr (0, [.ref a_21, .ref a_22, .ref a_23, .int v_24, .ref a_25, .ref a_26, .ref a_27, .int v_28, .ref a_29, .int v_30, .int p4])) := ⟨_, rfl⟩
      have hP : va_P (dC, dI) vwCl (va_pl L f_236) H := by rw [ef_236]; exact hP
      have hD : va_D (fun q => q ∈ L) (va_pl L f_236) := by rw [ef_236]; exact hD
      have hG : GI (okc cI cL cZ cR cG cH L kd) kd L f_236 := by rw [ef_236]; exact hG.set o0 (mk_0 ko0 ⟨a_21, a_22, a_23, v_24, a_25, a_26, a_27, v_28, a_29, v_30, p4, rfl, ⟨ma_21, ka_21⟩, ⟨ma_22, ka_22⟩, ⟨ma_23, ka_23⟩, (by constructor <;> omega), ⟨ma_25, ka_25⟩, ⟨ma_26, ka_26⟩, ⟨ma_27, ka_27⟩, ⟨ma_29, ka_29⟩⟩)
      have hfo_237 : f_236 o2 = .inr (3, [.ref a_2, .ref a_3, .ref a_4, .ref a_5, .ref a_6, .int v_7, .int v_8, .int v_9, .int v_10, .int v_11, .int v_12, .int v_13, .ref a_14, .ref a_15, .ref a_16, .int v_17, .ref a_18, .ref a_19]) := by rw [ef_236, up_ne (kd_ne ko0 ko2 (by decide))]; exact hfo_1
      have hfr0 : ∀ b, kd b ≠ 0 → kd b ≠ 1 → kd b ≠ 3 → kd b ≠ 10 → kd b ≠ 507 → kd b ≠ 516 → kd b ≠ 517 → kd b ≠ 518 → kd b ≠ 519 → kd b ≠ 520 → kd b ≠ 521 → kd b ≠ 522 → kd b ≠ 523 → kd b ≠ 524 → kd b ≠ 525 → kd b ≠ 526 → kd b ≠ 527 → kd b ≠ 534 → kd b ≠ 535 → kd b ≠ 536 → kd b ≠ 537 → kd b ≠ 538 → f_236 b = f b := fun b q0 q1 q3 q10 q507 q516 q517 q518 q519 q520 q521 q522 q523 q524 q525 q526 q527 q534 q535 q536 q537 q538 => (congrFun ef_236 b).trans ((up_ne (fun e9 => q0 (by rw [e9]; exact ko0))).trans (hfr0 b q0 q1 q3 q10 q507 q516 q517 q518 q519 q520 q521 q522 q523 q524 q525 q526 q527 q534 q535 q536 q537 q538))
      have hrr1_0 : ∀ b, kd b = 1 → fldR (f_236 b) 0 = fldR (f b) 0 := fun b kb => (congrArg (fun x => fldR x 0) ((congrFun ef_236 b).trans (up_ne (kd_ne ko0 kb (by decide))))).trans (hrr1_0 b kb)
      have hrr1_1 : ∀ b, kd b = 1 → fldR (f_236 b) 1 = fldR (f b) 1 := fun b kb => (congrArg (fun x => fldR x 1) ((congrFun ef_236 b).trans (up_ne (kd_ne ko0 kb (by decide))))).trans (hrr1_1 b kb)
      have hrr3_0 : ∀ b, kd b = 3 → fldR (f_236 b) 0 = fldR (f b) 0 := fun b kb => (congrArg (fun x => fldR x 0) ((congrFun ef_236 b).trans (up_ne (kd_ne ko0 kb (by decide))))).trans (hrr3_0 b kb)
      have hrr3_3 : ∀ b, kd b = 3 → fldR (f_236 b) 3 = fldR (f b) 3 := fun b kb => (congrArg (fun x => fldR x 3) ((congrFun ef_236 b).trans (up_ne (kd_ne ko0 kb (by decide))))).trans (hrr3_3 b kb)
      have hT0 : trel kd 7 508 510 515 4 f_236 a_2 := by rw [ef_236]; exact hT0.up ko0 (by decide) (by decide) (by decide) (by decide) (by decide)
      have hT1 : drel kd 1 521 522 f_236 a_5 := by rw [ef_236]; exact hT1.up ko0 (by decide) (by decide) (by decide)
      have hfo_238 : f_236 o0 = .inr (0, [.ref a_21, .ref a_22, .ref a_23, .int v_24, .ref a_25, .ref a_26, .ref a_27, .int v_28, .ref a_29, .int v_30, .int p4]) := by rw [ef_236]; exact up_self
      refine lv_aload_n hx hb dX0_refresh_24 rfl (lv_at hl 0 rfl) ?_
      refine lv_iload_n hx hb dX0_refresh_25 rfl (lv_at hl 1 rfl) ?_
      refine tk_putP (D := (dC, dI)) (ci := 0) (v := .int p1) (ty := .int) (C := RX0) (T := TX0) (N := 11) hx hb hU inlX0 tyX0 tyX0_ok nmX0 hown hK hP hD hS mo0 hfo_238 rfl 9 (by decide) (hU _ wd_1194) (fun _ h9 => h9) rfl (by decide +kernel) rfl rfl (Nat.le_of_ble_eq_true rfl) dX0_refresh_26 (fun H locs hP hD hS => ?_)
      obtain ⟨f_240, ef_240⟩ : ∃ y : Nat → va_E, y = va_up f_236 o0 (.inr (0, [.ref a_21, .ref a_22, .ref a_23, .int v_24, .ref a_25, .ref a_26, .ref a_27, .int v_28, .ref a_29, .int p1, .int p4])) := ⟨_, rfl⟩
      have hP : va_P (dC, dI) vwCl (va_pl L f_240) H := by rw [ef_240]; exact hP
      have hD : va_D (fun q => q ∈ L) (va_pl L f_240) := by rw [ef_240]; exact hD
      have hG : GI (okc cI cL cZ cR cG cH L kd) kd L f_240 := by rw [ef_240]; exact hG.set o0 (mk_0 ko0 ⟨a_21, a_22, a_23, v_24, a_25, a_26, a_27, v_28, a_29, p1, p4, rfl, ⟨ma_21, ka_21⟩, ⟨ma_22, ka_22⟩, ⟨ma_23, ka_23⟩, (by constructor <;> omega), ⟨ma_25, ka_25⟩, ⟨ma_26, ka_26⟩, ⟨ma_27, ka_27⟩, ⟨ma_29, ka_29⟩⟩)
      have hfo_241 : f_240 o2 = .inr (3, [.ref a_2, .ref a_3, .ref a_4, .ref a_5, .ref a_6, .int v_7, .int v_8, .int v_9, .int v_10, .int v_11, .int v_12, .int v_13, .ref a_14, .ref a_15, .ref a_16, .int v_17, .ref a_18, .ref a_19]) := by rw [ef_240, up_ne (kd_ne ko0 ko2 (by decide))]; exact hfo_237
      have hfr0 : ∀ b, kd b ≠ 0 → kd b ≠ 1 → kd b ≠ 3 → kd b ≠ 10 → kd b ≠ 507 → kd b ≠ 516 → kd b ≠ 517 → kd b ≠ 518 → kd b ≠ 519 → kd b ≠ 520 → kd b ≠ 521 → kd b ≠ 522 → kd b ≠ 523 → kd b ≠ 524 → kd b ≠ 525 → kd b ≠ 526 → kd b ≠ 527 → kd b ≠ 534 → kd b ≠ 535 → kd b ≠ 536 → kd b ≠ 537 → kd b ≠ 538 → f_240 b = f b := fun b q0 q1 q3 q10 q507 q516 q517 q518 q519 q520 q521 q522 q523 q524 q525 q526 q527 q534 q535 q536 q537 q538 => (congrFun ef_240 b).trans ((up_ne (fun e9 => q0 (by rw [e9]; exact ko0))).trans (hfr0 b q0 q1 q3 q10 q507 q516 q517 q518 q519 q520 q521 q522 q523 q524 q525 q526 q527 q534 q535 q536 q537 q538))
      have hrr1_0 : ∀ b, kd b = 1 → fldR (f_240 b) 0 = fldR (f b) 0 := fun b kb => (congrArg (fun x => fldR x 0) ((congrFun ef_240 b).trans (up_ne (kd_ne ko0 kb (by decide))))).trans (hrr1_0 b kb)
      have hrr1_1 : ∀ b, kd b = 1 → fldR (f_240 b) 1 = fldR (f b) 1 := fun b kb => (congrArg (fun x => fldR x 1) ((congrFun ef_240 b).trans (up_ne (kd_ne ko0 kb (by decide))))).trans (hrr1_1 b kb)
      have hrr3_0 : ∀ b, kd b = 3 → fldR (f_240 b) 0 = fldR (f b) 0 := fun b kb => (congrArg (fun x => fldR x 0) ((congrFun ef_240 b).trans (up_ne (kd_ne ko0 kb (by decide))))).trans (hrr3_0 b kb)
      have hrr3_3 : ∀ b, kd b = 3 → fldR (f_240 b) 3 = fldR (f b) 3 := fun b kb => (congrArg (fun x => fldR x 3) ((congrFun ef_240 b).trans (up_ne (kd_ne ko0 kb (by decide))))).trans (hrr3_3 b kb)
      have hT0 : trel kd 7 508 510 515 4 f_240 a_2 := by rw [ef_240]; exact hT0.up ko0 (by decide) (by decide) (by decide) (by decide) (by decide)
      have hT1 : drel kd 1 521 522 f_240 a_5 := by rw [ef_240]; exact hT1.up ko0 (by decide) (by decide) (by decide)
      have hfo_242 : f_240 o0 = .inr (0, [.ref a_21, .ref a_22, .ref a_23, .int v_24, .ref a_25, .ref a_26, .ref a_27, .int v_28, .ref a_29, .int p1, .int p4]) := by rw [ef_240]; exact up_self
      refine lv_aload_n hx hb dX0_refresh_29 rfl (lv_at hl 0 rfl) ?_
      refine lv_iconst (v := 0) hx hb dX0_refresh_30 (by decide) ?_
      refine tk_putP (D := (dC, dI)) (ci := 0) (v := .int 0) (ty := .int) (C := RX0) (T := TX0) (N := 11) hx hb hU inlX0 tyX0 tyX0_ok nmX0 hown hK hP hD hS mo0 hfo_242 rfl 3 (by decide) (hU _ wd_1195) (fun _ h9 => h9) rfl (by decide +kernel) rfl rfl (Nat.le_of_ble_eq_true rfl) dX0_refresh_31 (fun H locs hP hD hS => ?_)
      obtain ⟨f_244, ef_244⟩ : ∃ y : Nat → va_E, y = va_up f_240 o0 (.inr (0, [.ref a_21, .ref a_22, .ref a_23, .int 0, .ref a_25, .ref a_26, .ref a_27, .int v_28, .ref a_29, .int p1, .int p4])) := ⟨_, rfl⟩
      have hP : va_P (dC, dI) vwCl (va_pl L f_244) H := by rw [ef_244]; exact hP
      have hD : va_D (fun q => q ∈ L) (va_pl L f_244) := by rw [ef_244]; exact hD
      have hG : GI (okc cI cL cZ cR cG cH L kd) kd L f_244 := by rw [ef_244]; exact hG.set o0 (mk_0 ko0 ⟨a_21, a_22, a_23, 0, a_25, a_26, a_27, v_28, a_29, p1, p4, rfl, ⟨ma_21, ka_21⟩, ⟨ma_22, ka_22⟩, ⟨ma_23, ka_23⟩, (by decide), ⟨ma_25, ka_25⟩, ⟨ma_26, ka_26⟩, ⟨ma_27, ka_27⟩, ⟨ma_29, ka_29⟩⟩)
      have hfo_245 : f_244 o2 = .inr (3, [.ref a_2, .ref a_3, .ref a_4, .ref a_5, .ref a_6, .int v_7, .int v_8, .int v_9, .int v_10, .int v_11, .int v_12, .int v_13, .ref a_14, .ref a_15, .ref a_16, .int v_17, .ref a_18, .ref a_19]) := by rw [ef_244, up_ne (kd_ne ko0 ko2 (by decide))]; exact hfo_241
      have hfr0 : ∀ b, kd b ≠ 0 → kd b ≠ 1 → kd b ≠ 3 → kd b ≠ 10 → kd b ≠ 507 → kd b ≠ 516 → kd b ≠ 517 → kd b ≠ 518 → kd b ≠ 519 → kd b ≠ 520 → kd b ≠ 521 → kd b ≠ 522 → kd b ≠ 523 → kd b ≠ 524 → kd b ≠ 525 → kd b ≠ 526 → kd b ≠ 527 → kd b ≠ 534 → kd b ≠ 535 → kd b ≠ 536 → kd b ≠ 537 → kd b ≠ 538 → f_244 b = f b := fun b q0 q1 q3 q10 q507 q516 q517 q518 q519 q520 q521 q522 q523 q524 q525 q526 q527 q534 q535 q536 q537 q538 => (congrFun ef_244 b).trans ((up_ne (fun e9 => q0 (by rw [e9]; exact ko0))).trans (hfr0 b q0 q1 q3 q10 q507 q516 q517 q518 q519 q520 q521 q522 q523 q524 q525 q526 q527 q534 q535 q536 q537 q538))
      have hrr1_0 : ∀ b, kd b = 1 → fldR (f_244 b) 0 = fldR (f b) 0 := fun b kb => (congrArg (fun x => fldR x 0) ((congrFun ef_244 b).trans (up_ne (kd_ne ko0 kb (by decide))))).trans (hrr1_0 b kb)
      have hrr1_1 : ∀ b, kd b = 1 → fldR (f_244 b) 1 = fldR (f b) 1 := fun b kb => (congrArg (fun x => fldR x 1) ((congrFun ef_244 b).trans (up_ne (kd_ne ko0 kb (by decide))))).trans (hrr1_1 b kb)
      have hrr3_0 : ∀ b, kd b = 3 → fldR (f_244 b) 0 = fldR (f b) 0 := fun b kb => (congrArg (fun x => fldR x 0) ((congrFun ef_244 b).trans (up_ne (kd_ne ko0 kb (by decide))))).trans (hrr3_0 b kb)
      have hrr3_3 : ∀ b, kd b = 3 → fldR (f_244 b) 3 = fldR (f b) 3 := fun b kb => (congrArg (fun x => fldR x 3) ((congrFun ef_244 b).trans (up_ne (kd_ne ko0 kb (by decide))))).trans (hrr3_3 b kb)
      have hT0 : trel kd 7 508 510 515 4 f_244 a_2 := by rw [ef_244]; exact hT0.up ko0 (by decide) (by decide) (by decide) (by decide) (by decide)
      have hT1 : drel kd 1 521 522 f_244 a_5 := by rw [ef_244]; exact hT1.up ko0 (by decide) (by decide) (by decide)
      have hfo_246 : f_244 o0 = .inr (0, [.ref a_21, .ref a_22, .ref a_23, .int 0, .ref a_25, .ref a_26, .ref a_27, .int v_28, .ref a_29, .int p1, .int p4]) := by rw [ef_244]; exact up_self
      refine lv_iconst (v := 0) hx hb dX0_refresh_34 (by decide) ?_
      refine lv_istore (lv' := [(5, .int 0), (0, .ref o0), (1, .int p1), (2, .ref o2), (3, .ref o3), (4, .int p4)]) hx hb dX0_refresh_35 hl (by decide) rfl (fun ls hl => ?_)
      have hloop_262 : ∀ (n : Nat), ∀ (y_263 : Int32), (0 ≤ y_263.toInt ∧ y_263.toInt ≤ 8) → ∀ (f_265 : Nat → va_E), GI (okc cI cL cZ cR cG cH L kd) kd L f_265 → ∀ (H : Heap) (locs : List Loc), va_P (dC, dI) vwCl (va_pl L f_265) H → va_S (fun q => q ∈ L) s.heap H locs → va_D (fun q => q ∈ L) (va_pl L f_265) → (∀ b, kd b ≠ 0 → kd b ≠ 1 → kd b ≠ 3 → kd b ≠ 10 → kd b ≠ 507 → kd b ≠ 516 → kd b ≠ 517 → kd b ≠ 518 → kd b ≠ 519 → kd b ≠ 520 → kd b ≠ 521 → kd b ≠ 522 → kd b ≠ 523 → kd b ≠ 524 → kd b ≠ 525 → kd b ≠ 526 → kd b ≠ 527 → kd b ≠ 534 → kd b ≠ 535 → kd b ≠ 536 → kd b ≠ 537 → kd b ≠ 538 → f_265 b = f b) → (∀ b, kd b = 1 → fldR (f_265 b) 0 = fldR (f b) 0) → (∀ b, kd b = 1 → fldR (f_265 b) 1 = fldR (f b) 1) → (∀ b, kd b = 3 → fldR (f_265 b) 0 = fldR (f b) 0) → (∀ b, kd b = 3 → fldR (f_265 b) 3 = fldR (f b) 3) → (f_265 o2 = .inr (3, [.ref a_2, .ref a_3, .ref a_4, .ref a_5, .ref a_6, .int v_7, .int v_8, .int v_9, .int v_10, .int v_11, .int v_12, .int v_13, .ref a_14, .ref a_15, .ref a_16, .int v_17, .ref a_18, .ref a_19])) → trel kd 7 508 510 515 4 f_265 a_2 → drel kd 1 521 522 f_265 a_5 → 8 - y_263.toInt < (n : Int) → ∀ (ls : Array Slot), lv_has ls 6 [(5, .int y_263), (0, .ref o0), (1, .int p1), (2, .ref o2), (3, .ref o3), (4, .int p4)] → W p l e (headSpec (wU yX0_refresh cX0_refresh 6 none) { frames := 16, cells := 0, slots := 0, locals := 544 }).room s m [.ref o0, .int p1, .ref o2, .ref o3, .int p4].toArray below meth c H locs 0 0 (MQ below (va_Qv (fun (f9 : Nat → va_E) => GI (okc cI cL cZ cR cG cH L kd) kd L f9 ∧ (∀ b, kd b ≠ 0 → kd b ≠ 1 → kd b ≠ 3 → kd b ≠ 10 → kd b ≠ 507 → kd b ≠ 516 → kd b ≠ 517 → kd b ≠ 518 → kd b ≠ 519 → kd b ≠ 520 → kd b ≠ 521 → kd b ≠ 522 → kd b ≠ 523 → kd b ≠ 524 → kd b ≠ 525 → kd b ≠ 526 → kd b ≠ 527 → kd b ≠ 534 → kd b ≠ 535 → kd b ≠ 536 → kd b ≠ 537 → kd b ≠ 538 → f9 b = f b) ∧ (∀ b, kd b = 1 → fldR (f9 b) 0 = fldR (f b) 0) ∧ (∀ b, kd b = 1 → fldR (f9 b) 1 = fldR (f b) 1) ∧ (∀ b, kd b = 3 → fldR (f9 b) 0 = fldR (f b) 0) ∧ (∀ b, kd b = 3 → fldR (f9 b) 3 = fldR (f b) 3) ∧ (∀ d9, fldR (f9 o2) 0 = some d9 → trel kd 7 508 510 515 4 f9 d9) ∧ (∀ d9, fldR (f9 o2) 3 = some d9 → drel kd 1 521 522 f9 d9)) (qP (dC, dI) cI cL cZ cR cG cH L) (fun q => q ∈ L)) [.ref o0, .int p1, .ref o2, .ref o3, .int p4].toArray s 0 0 (fun q => q ∈ L)) (F0 m 37 ls []) := by
        intro n
        induction n with
        | zero => intro y_263 by_263 f_265 hG H locs hP hS hD hfr0 hrr1_0 hrr1_1 hrr3_0 hrr3_3 hfo_266 hT0 hT1 hmuhloop_262 ls hl; exfalso; omega
        | succ n ih_hloop_262 =>
          intro y_263 by_263 f_265 hG H locs hP hS hD hfr0 hrr1_0 hrr1_1 hrr3_0 hrr3_3 hfo_266 hT0 hT1 hmuhloop_262 ls hl
          refine lv_iload hx hb dX0_refresh_37 (lv_at hl 0 rfl) ?_
          refine lv_aload_n hx hb dX0_refresh_39 rfl (lv_at hl 3 rfl) ?_
          refine tk_getP (D := (dC, dI)) (ci := 3) (v := .ref a_2) (C := RX3) (T := TX3) (N := 18) hx hb hU inlX3 hown hK hP mo2 hfo_266 rfl 0 (by decide) (hU _ wd_1196) (fun _ h9 => h9) rfl dX0_refresh_40 ?_
          obtain ⟨a_268, v_269, a_270, a_271, a_272, a_273, v_274, a_275, a_276, a_277, a_278, a_279, v_280, a_281, a_282, a_283, hfo_267, ⟨ma_268, ka_268⟩, bv_269, ⟨ma_270, ka_270⟩, ⟨ma_271, ka_271⟩, ⟨ma_272, ka_272⟩, ⟨ma_273, ka_273⟩, bv_274, ⟨ma_275, ka_275⟩, ⟨ma_276, ka_276⟩, ⟨ma_277, ka_277⟩, ⟨ma_278, ka_278⟩, ⟨ma_279, ka_279⟩, bv_280, ⟨ma_281, ka_281⟩, ⟨ma_282, ka_282⟩, ⟨ma_283, ka_283⟩⟩ := un_7 (hG _ ma_2) ka_2
          refine tk_getP (D := (dC, dI)) (ci := 7) (v := .int v_280) (C := RX7) (T := TX7) (N := 16) hx hb hU inlX7 hown hK hP ma_2 hfo_267 rfl 12 (by decide) (hU _ wd_1197) (fun _ h9 => h9) rfl dX0_refresh_43 ?_
          refine lv_icmp_ge (tgt := 108) hx hb dX0_refresh_46 (by decide) (fun c_284 => ?_) (fun c_284 => ?_)
          · skip
            rw [Int32.le_iff_toInt_le] at c_284
            refine lv_aload_n hx hb dX0_refresh_108 rfl (lv_at hl 1 rfl) ?_
            refine lv_aload_n hx hb dX0_refresh_109 rfl (lv_at hl 3 rfl) ?_
            refine lv_aload_n hx hb dX0_refresh_110 rfl (lv_at hl 4 rfl) ?_
            obtain ⟨a_286, a_287, a_288, v_289, a_290, a_291, a_292, v_293, a_294, v_295, v_296, hfo_285, ⟨ma_286, ka_286⟩, ⟨ma_287, ka_287⟩, ⟨ma_288, ka_288⟩, bv_289, ⟨ma_290, ka_290⟩, ⟨ma_291, ka_291⟩, ⟨ma_292, ka_292⟩, ⟨ma_294, ka_294⟩⟩ := un_0 (hG _ mo0) ko0
            have bv_293 : ((-2147483648) ≤ v_293.toInt ∧ v_293.toInt ≤ 2147483647) := ⟨i32_lo _, i32_hi _⟩
            have bv_295 : ((-2147483648) ≤ v_295.toInt ∧ v_295.toInt ≤ 2147483647) := ⟨i32_lo _, i32_hi _⟩
            have bv_296 : ((-2147483648) ≤ v_296.toInt ∧ v_296.toInt ≤ 2147483647) := ⟨i32_lo _, i32_hi _⟩
            refine tk_VvP (As := [.ref o2, .ref o3]) (rest := []) (n := 2) hx hb hml hown hU hN hZ (s_X0_fillAgrees_k0_k3_k6 l (dC, dI) cI cL cZ cR cG cH Z kd L f_265 hG o0 mo0 ko0 o2 mo2 ko2 o3 mo3 ko3 (fun d9 h9 => by rw [hfo_266] at h9; obtain rfl := Option.some.inj h9; exact hT1)) wd_1209 wd_1210 wd_1211 wd_37 wd_1212 (by decide +kernel) ⟨Nat.le_of_ble_eq_true rfl, Nat.le_of_ble_eq_true rfl⟩ hK hP hD hS mo0 hfo_285 0 rfl rfl rfl hl.1 rfl (Nat.le_of_ble_eq_true rfl) dX0_refresh_111 ⟨Nat.le_of_ble_eq_true rfl, Nat.le_of_ble_eq_true rfl⟩ (fun f_298 H locs hw hP hD hS => ?_)
            obtain ⟨hG, hkc_299, hrc_300, hrc_301, hrc_302, hrc_303, hTc_304⟩ := hw
            have hfo_306 : f_298 a_2 = .inr (7, [.ref a_268, .int v_269, .ref a_270, .ref a_271, .ref a_272, .ref a_273, .int v_274, .ref a_275, .ref a_276, .ref a_277, .ref a_278, .ref a_279, .int v_280, .ref a_281, .ref a_282, .ref a_283]) := by rw [hkc_299 a_2 (by rw [ka_2]; decide) (by rw [ka_2]; decide) (by rw [ka_2]; decide) (by rw [ka_2]; decide) (by rw [ka_2]; decide) (by rw [ka_2]; decide) (by rw [ka_2]; decide) (by rw [ka_2]; decide) (by rw [ka_2]; decide) (by rw [ka_2]; decide) (by rw [ka_2]; decide) (by rw [ka_2]; decide) (by rw [ka_2]; decide) (by rw [ka_2]; decide) (by rw [ka_2]; decide) (by rw [ka_2]; decide) (by rw [ka_2]; decide)]; exact hfo_267
            have hfo_307 : f_298 o0 = .inr (0, [.ref a_286, .ref a_287, .ref a_288, .int v_289, .ref a_290, .ref a_291, .ref a_292, .int v_293, .ref a_294, .int v_295, .int v_296]) := by rw [hkc_299 o0 (by rw [ko0]; decide) (by rw [ko0]; decide) (by rw [ko0]; decide) (by rw [ko0]; decide) (by rw [ko0]; decide) (by rw [ko0]; decide) (by rw [ko0]; decide) (by rw [ko0]; decide) (by rw [ko0]; decide) (by rw [ko0]; decide) (by rw [ko0]; decide) (by rw [ko0]; decide) (by rw [ko0]; decide) (by rw [ko0]; decide) (by rw [ko0]; decide) (by rw [ko0]; decide) (by rw [ko0]; decide)]; exact hfo_285
            have hfr0 : ∀ b, kd b ≠ 0 → kd b ≠ 1 → kd b ≠ 3 → kd b ≠ 10 → kd b ≠ 507 → kd b ≠ 516 → kd b ≠ 517 → kd b ≠ 518 → kd b ≠ 519 → kd b ≠ 520 → kd b ≠ 521 → kd b ≠ 522 → kd b ≠ 523 → kd b ≠ 524 → kd b ≠ 525 → kd b ≠ 526 → kd b ≠ 527 → kd b ≠ 534 → kd b ≠ 535 → kd b ≠ 536 → kd b ≠ 537 → kd b ≠ 538 → f_298 b = f b := fun b q0 q1 q3 q10 q507 q516 q517 q518 q519 q520 q521 q522 q523 q524 q525 q526 q527 q534 q535 q536 q537 q538 => (hkc_299 b q1 q3 q10 q507 q517 q518 q519 q520 q521 q522 q523 q524 q525 q526 q527 q535 q538).trans (hfr0 b q0 q1 q3 q10 q507 q516 q517 q518 q519 q520 q521 q522 q523 q524 q525 q526 q527 q534 q535 q536 q537 q538)
            have hrr1_0 : ∀ b, kd b = 1 → fldR (f_298 b) 0 = fldR (f b) 0 := fun b kb => (hrc_300 b kb).trans (hrr1_0 b kb)
            have hrr1_1 : ∀ b, kd b = 1 → fldR (f_298 b) 1 = fldR (f b) 1 := fun b kb => (hrc_301 b kb).trans (hrr1_1 b kb)
            have hrr3_0 : ∀ b, kd b = 3 → fldR (f_298 b) 0 = fldR (f b) 0 := fun b kb => (hrc_302 b kb).trans (hrr3_0 b kb)
            have hrr3_3 : ∀ b, kd b = 3 → fldR (f_298 b) 3 = fldR (f b) 3 := fun b kb => (hrc_303 b kb).trans (hrr3_3 b kb)
            have hT0 : trel kd 7 508 510 515 4 f_298 a_2 := hT0.keep (fun b q => hkc_299 b (by rw [q]; decide) (by rw [q]; decide) (by rw [q]; decide) (by rw [q]; decide) (by rw [q]; decide) (by rw [q]; decide) (by rw [q]; decide) (by rw [q]; decide) (by rw [q]; decide) (by rw [q]; decide) (by rw [q]; decide) (by rw [q]; decide) (by rw [q]; decide) (by rw [q]; decide) (by rw [q]; decide) (by rw [q]; decide) (by rw [q]; decide)) (fun b q => hkc_299 b (by rw [q]; decide) (by rw [q]; decide) (by rw [q]; decide) (by rw [q]; decide) (by rw [q]; decide) (by rw [q]; decide) (by rw [q]; decide) (by rw [q]; decide) (by rw [q]; decide) (by rw [q]; decide) (by rw [q]; decide) (by rw [q]; decide) (by rw [q]; decide) (by rw [q]; decide) (by rw [q]; decide) (by rw [q]; decide) (by rw [q]; decide)) (fun b q => hkc_299 b (by rw [q]; decide) (by rw [q]; decide) (by rw [q]; decide) (by rw [q]; decide) (by rw [q]; decide) (by rw [q]; decide) (by rw [q]; decide) (by rw [q]; decide) (by rw [q]; decide) (by rw [q]; decide) (by rw [q]; decide) (by rw [q]; decide) (by rw [q]; decide) (by rw [q]; decide) (by rw [q]; decide) (by rw [q]; decide) (by rw [q]; decide)) (fun b q => hkc_299 b (by rw [q]; decide) (by rw [q]; decide) (by rw [q]; decide) (by rw [q]; decide) (by rw [q]; decide) (by rw [q]; decide) (by rw [q]; decide) (by rw [q]; decide) (by rw [q]; decide) (by rw [q]; decide) (by rw [q]; decide) (by rw [q]; decide) (by rw [q]; decide) (by rw [q]; decide) (by rw [q]; decide) (by rw [q]; decide) (by rw [q]; decide)) (fun b q => congrArg (fun x => fldI x 1) (hkc_299 b (by rw [q]; decide) (by rw [q]; decide) (by rw [q]; decide) (by rw [q]; decide) (by rw [q]; decide) (by rw [q]; decide) (by rw [q]; decide) (by rw [q]; decide) (by rw [q]; decide) (by rw [q]; decide) (by rw [q]; decide) (by rw [q]; decide) (by rw [q]; decide) (by rw [q]; decide) (by rw [q]; decide) (by rw [q]; decide) (by rw [q]; decide)))
            obtain ⟨a_309, a_310, a_311, a_312, a_313, v_314, v_315, v_316, v_317, v_318, v_319, v_320, a_321, a_322, a_323, v_324, a_325, a_326, hfo_308, ⟨ma_309, ka_309⟩, ⟨ma_310, ka_310⟩, ⟨ma_311, ka_311⟩, ⟨ma_312, ka_312⟩, ⟨ma_313, ka_313⟩, bv_314, bv_315, bv_316, ⟨ma_321, ka_321⟩, ⟨ma_322, ka_322⟩, ⟨ma_323, ka_323⟩, bv_324, ⟨ma_325, ka_325⟩, ⟨ma_326, ka_326⟩⟩ := un_3 (hG _ mo2) ko2
            have bv_317 : ((-2147483648) ≤ v_317.toInt ∧ v_317.toInt ≤ 2147483647) := ⟨i32_lo _, i32_hi _⟩
            have bv_318 : ((-2147483648) ≤ v_318.toInt ∧ v_318.toInt ≤ 2147483647) := ⟨i32_lo _, i32_hi _⟩
            have bv_319 : ((-2147483648) ≤ v_319.toInt ∧ v_319.toInt ≤ 2147483647) := ⟨i32_lo _, i32_hi _⟩
            have bv_320 : ((-2147483648) ≤ v_320.toInt ∧ v_320.toInt ≤ 2147483647) := ⟨i32_lo _, i32_hi _⟩
            obtain rfl : a_2 = a_309 := by have hk9 := hrr3_0 o2 ko2; rw [hfo_308, hfo_1] at hk9; exact (Option.some.inj hk9).symm
            obtain rfl : a_5 = a_312 := by have hk9 := hrr3_3 o2 ko2; rw [hfo_308, hfo_1] at hk9; exact (Option.some.inj hk9).symm
            have hT_327 := hTc_304 a_5 (by rw [hfo_308]; rfl)
            refine lv_iconst (v := 0) hx hb dX0_refresh_114 (by decide) ?_
            refine lv_istore (lv' := [(5, .int 0), (0, .ref o0), (1, .int p1), (2, .ref o2), (3, .ref o3), (4, .int p4)]) hx hb dX0_refresh_115 hl (by decide) rfl (fun ls hl => ?_)
            have hloop_349 : ∀ (n : Nat), ∀ (y_350 : Int32), (0 ≤ y_350.toInt ∧ y_350.toInt ≤ 73) → ∀ (f_352 : Nat → va_E), GI (okc cI cL cZ cR cG cH L kd) kd L f_352 → ∀ (H : Heap) (locs : List Loc), va_P (dC, dI) vwCl (va_pl L f_352) H → va_S (fun q => q ∈ L) s.heap H locs → va_D (fun q => q ∈ L) (va_pl L f_352) → (∀ b, kd b ≠ 0 → kd b ≠ 1 → kd b ≠ 3 → kd b ≠ 10 → kd b ≠ 507 → kd b ≠ 516 → kd b ≠ 517 → kd b ≠ 518 → kd b ≠ 519 → kd b ≠ 520 → kd b ≠ 521 → kd b ≠ 522 → kd b ≠ 523 → kd b ≠ 524 → kd b ≠ 525 → kd b ≠ 526 → kd b ≠ 527 → kd b ≠ 534 → kd b ≠ 535 → kd b ≠ 536 → kd b ≠ 537 → kd b ≠ 538 → f_352 b = f b) → (∀ b, kd b = 1 → fldR (f_352 b) 0 = fldR (f b) 0) → (∀ b, kd b = 1 → fldR (f_352 b) 1 = fldR (f b) 1) → (∀ b, kd b = 3 → fldR (f_352 b) 0 = fldR (f b) 0) → (∀ b, kd b = 3 → fldR (f_352 b) 3 = fldR (f b) 3) → (f_352 a_2 = .inr (7, [.ref a_268, .int v_269, .ref a_270, .ref a_271, .ref a_272, .ref a_273, .int v_274, .ref a_275, .ref a_276, .ref a_277, .ref a_278, .ref a_279, .int v_280, .ref a_281, .ref a_282, .ref a_283])) → (f_352 o0 = .inr (0, [.ref a_286, .ref a_287, .ref a_288, .int v_289, .ref a_290, .ref a_291, .ref a_292, .int v_293, .ref a_294, .int v_295, .int v_296])) → (f_352 o2 = .inr (3, [.ref a_2, .ref a_310, .ref a_311, .ref a_5, .ref a_313, .int v_314, .int v_315, .int v_316, .int v_317, .int v_318, .int v_319, .int v_320, .ref a_321, .ref a_322, .ref a_323, .int v_324, .ref a_325, .ref a_326])) → trel kd 7 508 510 515 4 f_352 a_2 → drel kd 1 521 522 f_352 a_5 → 73 - y_350.toInt < (n : Int) → ∀ (ls : Array Slot), lv_has ls 6 [(5, .int y_350), (0, .ref o0), (1, .int p1), (2, .ref o2), (3, .ref o3), (4, .int p4)] → W p l e (headSpec (wU yX0_refresh cX0_refresh 6 none) { frames := 16, cells := 0, slots := 0, locals := 544 }).room s m [.ref o0, .int p1, .ref o2, .ref o3, .int p4].toArray below meth c H locs 0 0 (MQ below (va_Qv (fun (f9 : Nat → va_E) => GI (okc cI cL cZ cR cG cH L kd) kd L f9 ∧ (∀ b, kd b ≠ 0 → kd b ≠ 1 → kd b ≠ 3 → kd b ≠ 10 → kd b ≠ 507 → kd b ≠ 516 → kd b ≠ 517 → kd b ≠ 518 → kd b ≠ 519 → kd b ≠ 520 → kd b ≠ 521 → kd b ≠ 522 → kd b ≠ 523 → kd b ≠ 524 → kd b ≠ 525 → kd b ≠ 526 → kd b ≠ 527 → kd b ≠ 534 → kd b ≠ 535 → kd b ≠ 536 → kd b ≠ 537 → kd b ≠ 538 → f9 b = f b) ∧ (∀ b, kd b = 1 → fldR (f9 b) 0 = fldR (f b) 0) ∧ (∀ b, kd b = 1 → fldR (f9 b) 1 = fldR (f b) 1) ∧ (∀ b, kd b = 3 → fldR (f9 b) 0 = fldR (f b) 0) ∧ (∀ b, kd b = 3 → fldR (f9 b) 3 = fldR (f b) 3) ∧ (∀ d9, fldR (f9 o2) 0 = some d9 → trel kd 7 508 510 515 4 f9 d9) ∧ (∀ d9, fldR (f9 o2) 3 = some d9 → drel kd 1 521 522 f9 d9)) (qP (dC, dI) cI cL cZ cR cG cH L) (fun q => q ∈ L)) [.ref o0, .int p1, .ref o2, .ref o3, .int p4].toArray s 0 0 (fun q => q ∈ L)) (F0 m 117 ls []) := by
              intro n
              induction n with
              | zero => intro y_350 by_350 f_352 hG H locs hP hS hD hfr0 hrr1_0 hrr1_1 hrr3_0 hrr3_3 hfo_353 hfo_354 hfo_355 hT0 hT_327 hmuhloop_349 ls hl; exfalso; omega
              | succ n ih_hloop_349 =>
                intro y_350 by_350 f_352 hG H locs hP hS hD hfr0 hrr1_0 hrr1_1 hrr3_0 hrr3_3 hfo_353 hfo_354 hfo_355 hT0 hT_327 hmuhloop_349 ls hl
                refine lv_iload hx hb dX0_refresh_117 (lv_at hl 0 rfl) ?_
                refine lv_bipush (v := 73) hx hb dX0_refresh_119 (by decide) ?_
                refine lv_icmp_ge (tgt := 139) hx hb dX0_refresh_121 (by decide) (fun c_356 => ?_) (fun c_356 => ?_)
                · skip
                  rw [Int32.le_iff_toInt_le, ti_73] at c_356
                  refine lv_aload_n hx hb dX0_refresh_139 rfl (lv_at hl 1 rfl) ?_
                  refine lv_iconst (v := (-1)) hx hb dX0_refresh_140 (by decide) ?_
                  refine tk_putP (D := (dC, dI)) (ci := 0) (v := .int (-1)) (ty := .int) (C := RX0) (T := TX0) (N := 11) hx hb hU inlX0 tyX0 tyX0_ok nmX0 hown hK hP hD hS mo0 hfo_354 rfl 7 (by decide) (hU _ wd_1199) (fun _ h9 => h9) rfl (by decide +kernel) rfl rfl (Nat.le_of_ble_eq_true rfl) dX0_refresh_141 (fun H locs hP hD hS => ?_)
                  obtain ⟨f_358, ef_358⟩ : ∃ y : Nat → va_E, y = va_up f_352 o0 (.inr (0, [.ref a_286, .ref a_287, .ref a_288, .int v_289, .ref a_290, .ref a_291, .ref a_292, .int (-1), .ref a_294, .int v_295, .int v_296])) := ⟨_, rfl⟩
                  have hP : va_P (dC, dI) vwCl (va_pl L f_358) H := by rw [ef_358]; exact hP
                  have hD : va_D (fun q => q ∈ L) (va_pl L f_358) := by rw [ef_358]; exact hD
                  have hG : GI (okc cI cL cZ cR cG cH L kd) kd L f_358 := by rw [ef_358]; exact hG.set o0 (mk_0 ko0 ⟨a_286, a_287, a_288, v_289, a_290, a_291, a_292, (-1), a_294, v_295, v_296, rfl, ⟨ma_286, ka_286⟩, ⟨ma_287, ka_287⟩, ⟨ma_288, ka_288⟩, (by constructor <;> omega), ⟨ma_290, ka_290⟩, ⟨ma_291, ka_291⟩, ⟨ma_292, ka_292⟩, ⟨ma_294, ka_294⟩⟩)
                  have hfo_359 : f_358 a_2 = .inr (7, [.ref a_268, .int v_269, .ref a_270, .ref a_271, .ref a_272, .ref a_273, .int v_274, .ref a_275, .ref a_276, .ref a_277, .ref a_278, .ref a_279, .int v_280, .ref a_281, .ref a_282, .ref a_283]) := by rw [ef_358, up_ne (kd_ne ko0 ka_2 (by decide))]; exact hfo_353
                  have hfo_360 : f_358 o2 = .inr (3, [.ref a_2, .ref a_310, .ref a_311, .ref a_5, .ref a_313, .int v_314, .int v_315, .int v_316, .int v_317, .int v_318, .int v_319, .int v_320, .ref a_321, .ref a_322, .ref a_323, .int v_324, .ref a_325, .ref a_326]) := by rw [ef_358, up_ne (kd_ne ko0 ko2 (by decide))]; exact hfo_355
                  have hfr0 : ∀ b, kd b ≠ 0 → kd b ≠ 1 → kd b ≠ 3 → kd b ≠ 10 → kd b ≠ 507 → kd b ≠ 516 → kd b ≠ 517 → kd b ≠ 518 → kd b ≠ 519 → kd b ≠ 520 → kd b ≠ 521 → kd b ≠ 522 → kd b ≠ 523 → kd b ≠ 524 → kd b ≠ 525 → kd b ≠ 526 → kd b ≠ 527 → kd b ≠ 534 → kd b ≠ 535 → kd b ≠ 536 → kd b ≠ 537 → kd b ≠ 538 → f_358 b = f b := fun b q0 q1 q3 q10 q507 q516 q517 q518 q519 q520 q521 q522 q523 q524 q525 q526 q527 q534 q535 q536 q537 q538 => (congrFun ef_358 b).trans ((up_ne (fun e9 => q0 (by rw [e9]; exact ko0))).trans (hfr0 b q0 q1 q3 q10 q507 q516 q517 q518 q519 q520 q521 q522 q523 q524 q525 q526 q527 q534 q535 q536 q537 q538))
                  have hrr1_0 : ∀ b, kd b = 1 → fldR (f_358 b) 0 = fldR (f b) 0 := fun b kb => (congrArg (fun x => fldR x 0) ((congrFun ef_358 b).trans (up_ne (kd_ne ko0 kb (by decide))))).trans (hrr1_0 b kb)
                  have hrr1_1 : ∀ b, kd b = 1 → fldR (f_358 b) 1 = fldR (f b) 1 := fun b kb => (congrArg (fun x => fldR x 1) ((congrFun ef_358 b).trans (up_ne (kd_ne ko0 kb (by decide))))).trans (hrr1_1 b kb)
                  have hrr3_0 : ∀ b, kd b = 3 → fldR (f_358 b) 0 = fldR (f b) 0 := fun b kb => (congrArg (fun x => fldR x 0) ((congrFun ef_358 b).trans (up_ne (kd_ne ko0 kb (by decide))))).trans (hrr3_0 b kb)
                  have hrr3_3 : ∀ b, kd b = 3 → fldR (f_358 b) 3 = fldR (f b) 3 := fun b kb => (congrArg (fun x => fldR x 3) ((congrFun ef_358 b).trans (up_ne (kd_ne ko0 kb (by decide))))).trans (hrr3_3 b kb)
                  have hT0 : trel kd 7 508 510 515 4 f_358 a_2 := by rw [ef_358]; exact hT0.up ko0 (by decide) (by decide) (by decide) (by decide) (by decide)
                  have hT_327 : drel kd 1 521 522 f_358 a_5 := by rw [ef_358]; exact hT_327.up ko0 (by decide) (by decide) (by decide)
                  have hfo_361 : f_358 o0 = .inr (0, [.ref a_286, .ref a_287, .ref a_288, .int v_289, .ref a_290, .ref a_291, .ref a_292, .int (-1), .ref a_294, .int v_295, .int v_296]) := by rw [ef_358]; exact up_self
                  refine lv_aload_n hx hb dX0_refresh_144 rfl (lv_at hl 1 rfl) ?_
                  refine lv_iconst (v := 0) hx hb dX0_refresh_145 (by decide) ?_
                  refine lv_iconst (v := 0) hx hb dX0_refresh_146 (by decide) ?_
                  refine tk_VvP (As := [.int 0, .int 0]) (rest := []) (n := 2) hx hb hml hown hU hN hZ (s_X0_tryOrders_k0 l (dC, dI) cI cL cZ cR cG cH Z kd L 7 f_358 hG o0 mo0 ko0 0 (by decide) 0 (by (try rw [ti_0]) <;> omega)) wd_1224 wd_1225 wd_1226 wd_37 wd_1227 (by decide +kernel) ⟨Nat.le_of_ble_eq_true rfl, Nat.le_of_ble_eq_true rfl⟩ hK hP hD hS mo0 hfo_361 0 rfl rfl rfl hl.1 rfl (Nat.le_of_ble_eq_true rfl) dX0_refresh_147 ⟨Nat.le_of_ble_eq_true rfl, Nat.le_of_ble_eq_true rfl⟩ (fun f_363 H locs hw hP hD hS => ?_)
                  obtain ⟨hG, hkc_364⟩ := hw
                  have hfo_366 : f_363 a_2 = .inr (7, [.ref a_268, .int v_269, .ref a_270, .ref a_271, .ref a_272, .ref a_273, .int v_274, .ref a_275, .ref a_276, .ref a_277, .ref a_278, .ref a_279, .int v_280, .ref a_281, .ref a_282, .ref a_283]) := by rw [hkc_364 a_2 (by rw [ka_2]; decide) (by rw [ka_2]; decide) (by rw [ka_2]; decide)]; exact hfo_359
                  have hfo_367 : f_363 o2 = .inr (3, [.ref a_2, .ref a_310, .ref a_311, .ref a_5, .ref a_313, .int v_314, .int v_315, .int v_316, .int v_317, .int v_318, .int v_319, .int v_320, .ref a_321, .ref a_322, .ref a_323, .int v_324, .ref a_325, .ref a_326]) := by rw [hkc_364 o2 (by rw [ko2]; decide) (by rw [ko2]; decide) (by rw [ko2]; decide)]; exact hfo_360
                  have hfr0 : ∀ b, kd b ≠ 0 → kd b ≠ 1 → kd b ≠ 3 → kd b ≠ 10 → kd b ≠ 507 → kd b ≠ 516 → kd b ≠ 517 → kd b ≠ 518 → kd b ≠ 519 → kd b ≠ 520 → kd b ≠ 521 → kd b ≠ 522 → kd b ≠ 523 → kd b ≠ 524 → kd b ≠ 525 → kd b ≠ 526 → kd b ≠ 527 → kd b ≠ 534 → kd b ≠ 535 → kd b ≠ 536 → kd b ≠ 537 → kd b ≠ 538 → f_363 b = f b := fun b q0 q1 q3 q10 q507 q516 q517 q518 q519 q520 q521 q522 q523 q524 q525 q526 q527 q534 q535 q536 q537 q538 => (hkc_364 b q0 q536 q537).trans (hfr0 b q0 q1 q3 q10 q507 q516 q517 q518 q519 q520 q521 q522 q523 q524 q525 q526 q527 q534 q535 q536 q537 q538)
                  have hrr1_0 : ∀ b, kd b = 1 → fldR (f_363 b) 0 = fldR (f b) 0 := fun b kb => (congrArg (fun x => fldR x 0) (hkc_364 b (by rw [kb]; decide) (by rw [kb]; decide) (by rw [kb]; decide))).trans (hrr1_0 b kb)
                  have hrr1_1 : ∀ b, kd b = 1 → fldR (f_363 b) 1 = fldR (f b) 1 := fun b kb => (congrArg (fun x => fldR x 1) (hkc_364 b (by rw [kb]; decide) (by rw [kb]; decide) (by rw [kb]; decide))).trans (hrr1_1 b kb)
                  have hrr3_0 : ∀ b, kd b = 3 → fldR (f_363 b) 0 = fldR (f b) 0 := fun b kb => (congrArg (fun x => fldR x 0) (hkc_364 b (by rw [kb]; decide) (by rw [kb]; decide) (by rw [kb]; decide))).trans (hrr3_0 b kb)
                  have hrr3_3 : ∀ b, kd b = 3 → fldR (f_363 b) 3 = fldR (f b) 3 := fun b kb => (congrArg (fun x => fldR x 3) (hkc_364 b (by rw [kb]; decide) (by rw [kb]; decide) (by rw [kb]; decide))).trans (hrr3_3 b kb)
                  have hT0 : trel kd 7 508 510 515 4 f_363 a_2 := hT0.keep (fun b q => hkc_364 b (by rw [q]; decide) (by rw [q]; decide) (by rw [q]; decide)) (fun b q => hkc_364 b (by rw [q]; decide) (by rw [q]; decide) (by rw [q]; decide)) (fun b q => hkc_364 b (by rw [q]; decide) (by rw [q]; decide) (by rw [q]; decide)) (fun b q => hkc_364 b (by rw [q]; decide) (by rw [q]; decide) (by rw [q]; decide)) (fun b q => congrArg (fun x => fldI x 1) (hkc_364 b (by rw [q]; decide) (by rw [q]; decide) (by rw [q]; decide)))
                  have hT_327 : drel kd 1 521 522 f_363 a_5 := hT_327.keep (fun b q => congrArg (fun x => fldI x 5) (hkc_364 b (by rw [q]; decide) (by rw [q]; decide) (by rw [q]; decide))) (fun b q => congrArg (fun x => fldR x 0) (hkc_364 b (by rw [q]; decide) (by rw [q]; decide) (by rw [q]; decide))) (fun b q => congrArg (fun x => fldR x 1) (hkc_364 b (by rw [q]; decide) (by rw [q]; decide) (by rw [q]; decide))) (fun b q => hkc_364 b (by rw [q]; decide) (by rw [q]; decide) (by rw [q]; decide)) (fun b q => hkc_364 b (by rw [q]; decide) (by rw [q]; decide) (by rw [q]; decide))
                  exact W.vret hx hb hr (fun t ht hW => ⟨⟨f_363, rfl, ⟨hG, hfr0, hrr1_0, hrr1_1, hrr3_0, hrr3_3, (fun d9 h9 => by rw [hfo_367] at h9; obtain rfl := Option.some.inj h9; exact hT0), (fun d9 h9 => by rw [hfo_367] at h9; obtain rfl := Option.some.inj h9; exact hT_327)⟩, by rw [ht]; exact hP, va_K.moved hW.alike hK, pl_in hD⟩, hS.F ht⟩) hS.2.2 dX0_refresh_150
                · skip
                  rw [Int32.le_iff_toInt_le, ti_73] at c_356
                  refine lv_aload_n hx hb dX0_refresh_124 rfl (lv_at hl 1 rfl) ?_
                  refine tk_getP (D := (dC, dI)) (ci := 0) (v := .ref a_291) (C := RX0) (T := TX0) (N := 11) hx hb hU inlX0 hown hK hP mo0 hfo_354 rfl 5 (by decide) (hU _ wd_161) (fun _ h9 => h9) rfl dX0_refresh_125 ?_
                  refine lv_iload hx hb dX0_refresh_128 (lv_at hl 0 rfl) ?_
                  refine lv_iload hx hb dX0_refresh_130 (lv_at hl 0 rfl) ?_
                  obtain ⟨g_369, hfo_368, hbg_369⟩ := un_537 (hG _ ma_291) ka_291
                  refine tk_istP hx hb hK hP hD hS 0 ma_291 hfo_368 rfl (vp_in_iff.mpr (by constructor <;> omega)) dX0_refresh_132 (fun H locs hP hD hS => ?_)
                  obtain ⟨f_371, ef_371⟩ : ∃ y : Nat → va_E, y = va_up f_352 a_291 (.inl (cI, 511, .inl (upd g_369 (Int32.toNatClampNeg y_350) y_350))) := ⟨_, rfl⟩
                  have hP : va_P (dC, dI) vwCl (va_pl L f_371) H := by rw [ef_371]; exact hP
                  have hD : va_D (fun q => q ∈ L) (va_pl L f_371) := by rw [ef_371]; exact hD
                  have hG : GI (okc cI cL cZ cR cG cH L kd) kd L f_371 := by rw [ef_371]; exact hG.set a_291 (mk_537 ka_291 ⟨_, rfl, okI_up hbg_369 (by constructor <;> omega) _⟩)
                  have hfo_372 : f_371 a_2 = .inr (7, [.ref a_268, .int v_269, .ref a_270, .ref a_271, .ref a_272, .ref a_273, .int v_274, .ref a_275, .ref a_276, .ref a_277, .ref a_278, .ref a_279, .int v_280, .ref a_281, .ref a_282, .ref a_283]) := by rw [ef_371, up_ne (kd_ne ka_291 ka_2 (by decide))]; exact hfo_353
                  have hfo_373 : f_371 o0 = .inr (0, [.ref a_286, .ref a_287, .ref a_288, .int v_289, .ref a_290, .ref a_291, .ref a_292, .int v_293, .ref a_294, .int v_295, .int v_296]) := by rw [ef_371, up_ne (kd_ne ka_291 ko0 (by decide))]; exact hfo_354
                  have hfo_374 : f_371 o2 = .inr (3, [.ref a_2, .ref a_310, .ref a_311, .ref a_5, .ref a_313, .int v_314, .int v_315, .int v_316, .int v_317, .int v_318, .int v_319, .int v_320, .ref a_321, .ref a_322, .ref a_323, .int v_324, .ref a_325, .ref a_326]) := by rw [ef_371, up_ne (kd_ne ka_291 ko2 (by decide))]; exact hfo_355
                  have hfr0 : ∀ b, kd b ≠ 0 → kd b ≠ 1 → kd b ≠ 3 → kd b ≠ 10 → kd b ≠ 507 → kd b ≠ 516 → kd b ≠ 517 → kd b ≠ 518 → kd b ≠ 519 → kd b ≠ 520 → kd b ≠ 521 → kd b ≠ 522 → kd b ≠ 523 → kd b ≠ 524 → kd b ≠ 525 → kd b ≠ 526 → kd b ≠ 527 → kd b ≠ 534 → kd b ≠ 535 → kd b ≠ 536 → kd b ≠ 537 → kd b ≠ 538 → f_371 b = f b := fun b q0 q1 q3 q10 q507 q516 q517 q518 q519 q520 q521 q522 q523 q524 q525 q526 q527 q534 q535 q536 q537 q538 => (congrFun ef_371 b).trans ((up_ne (fun e9 => q537 (by rw [e9]; exact ka_291))).trans (hfr0 b q0 q1 q3 q10 q507 q516 q517 q518 q519 q520 q521 q522 q523 q524 q525 q526 q527 q534 q535 q536 q537 q538))
                  have hrr1_0 : ∀ b, kd b = 1 → fldR (f_371 b) 0 = fldR (f b) 0 := fun b kb => (congrArg (fun x => fldR x 0) ((congrFun ef_371 b).trans (up_ne (kd_ne ka_291 kb (by decide))))).trans (hrr1_0 b kb)
                  have hrr1_1 : ∀ b, kd b = 1 → fldR (f_371 b) 1 = fldR (f b) 1 := fun b kb => (congrArg (fun x => fldR x 1) ((congrFun ef_371 b).trans (up_ne (kd_ne ka_291 kb (by decide))))).trans (hrr1_1 b kb)
                  have hrr3_0 : ∀ b, kd b = 3 → fldR (f_371 b) 0 = fldR (f b) 0 := fun b kb => (congrArg (fun x => fldR x 0) ((congrFun ef_371 b).trans (up_ne (kd_ne ka_291 kb (by decide))))).trans (hrr3_0 b kb)
                  have hrr3_3 : ∀ b, kd b = 3 → fldR (f_371 b) 3 = fldR (f b) 3 := fun b kb => (congrArg (fun x => fldR x 3) ((congrFun ef_371 b).trans (up_ne (kd_ne ka_291 kb (by decide))))).trans (hrr3_3 b kb)
                  have hT0 : trel kd 7 508 510 515 4 f_371 a_2 := by rw [ef_371]; exact hT0.up ka_291 (by decide) (by decide) (by decide) (by decide) (by decide)
                  have hT_327 : drel kd 1 521 522 f_371 a_5 := by rw [ef_371]; exact hT_327.up ka_291 (by decide) (by decide) (by decide)
                  have hfo_375 : f_371 a_291 = .inl (cI, 511, .inl (upd g_369 (Int32.toNatClampNeg y_350) y_350)) := by rw [ef_371]; exact up_self
                  obtain ⟨x_376, ex_376⟩ : ∃ y : Int32, y_350 + 1 = y := ⟨_, rfl⟩
                  have hx_376 : x_376.toInt = y_350.toInt + 1 := by rw [← ex_376, ad_I (by rw [ti_1]; omega) (by rw [ti_1]; omega), ti_1]
                  have bx_376 : (1 ≤ x_376.toInt ∧ x_376.toInt ≤ 73) := by constructor <;> omega
                  refine lv_iinc (v := x_376) (lv' := [(5, .int x_376), (0, .ref o0), (1, .int p1), (2, .ref o2), (3, .ref o3), (4, .int p4)]) hx hb dX0_refresh_133 hl (k := 0) rfl ex_376 (by decide) rfl (fun ls hl => ?_)
                  refine lv_goto (tgt := 117) hx hb dX0_refresh_136 (by decide) ?_
                  exact ih_hloop_349 x_376 (by constructor <;> omega) f_371 hG _ _ hP hS hD hfr0 hrr1_0 hrr1_1 hrr3_0 hrr3_3 hfo_372 hfo_373 hfo_374 hT0 hT_327 (by omega) ls (lv_sub hl [0, 1, 2, 3, 4, 5] rfl)
            exact hloop_349 74 0 (by decide) f_298 hG _ _ hP hS hD hfr0 hrr1_0 hrr1_1 hrr3_0 hrr3_3 hfo_306 hfo_307 hfo_308 hT0 hT_327 (by (try rw [ti_0]) <;> omega) ls hl
          · skip
            rw [Int32.le_iff_toInt_le] at c_284
            refine lv_aload_n hx hb dX0_refresh_49 rfl (lv_at hl 4 rfl) ?_
            obtain ⟨v_378, v_379, a_380, a_381, a_382, v_383, a_384, a_385, a_386, hfo_377, bv_379, ⟨ma_380, ka_380⟩, ⟨ma_381, ka_381⟩, ⟨ma_382, ka_382⟩, ⟨ma_384, ka_384⟩, ⟨ma_385, ka_385⟩, ⟨ma_386, ka_386⟩⟩ := un_6 (hG _ mo3) ko3
            have bv_378 : ((-2147483648) ≤ v_378.toInt ∧ v_378.toInt ≤ 2147483647) := ⟨i32_lo _, i32_hi _⟩
            have bv_383 : ((-2147483648) ≤ v_383.toInt ∧ v_383.toInt ≤ 2147483647) := ⟨i32_lo _, i32_hi _⟩
            refine tk_getP (D := (dC, dI)) (ci := 6) (v := .int v_378) (C := RX6) (T := TX6) (N := 9) hx hb hU inlX6 hown hK hP mo3 hfo_377 rfl 0 (by decide) (hU _ wd_1198) (fun _ h9 => h9) rfl dX0_refresh_50 ?_
            refine lv_iload hx hb dX0_refresh_53 (lv_at hl 0 rfl) ?_
            refine lv_ishr hx hb dX0_refresh_55 ?_
            refine lv_topi (fun x_387 ex_387 => ?_)
            have bx_387 : ((-2147483648) ≤ x_387.toInt ∧ x_387.toInt ≤ 2147483647) := ⟨i32_lo _, i32_hi _⟩
            refine lv_iconst (v := 1) hx hb dX0_refresh_56 (by decide) ?_
            refine lv_iand hx hb dX0_refresh_57 ?_
            refine lv_topi (fun x_388 ex_388 => ?_)
            have bx_388 : (0 ≤ x_388.toInt ∧ x_388.toInt ≤ 1) := by rw [ex_388]; have h8 := an_C x_387 (m := 1) (by decide); rw [ti_1] at h8; exact h8
            refine lv_iconst (v := 1) hx hb dX0_refresh_58 (by decide) ?_
            have hcut_394 : ∀ (f_390 : Nat → va_E), GI (okc cI cL cZ cR cG cH L kd) kd L f_390 → ∀ (H : Heap) (locs : List Loc), va_P (dC, dI) vwCl (va_pl L f_390) H → va_S (fun q => q ∈ L) s.heap H locs → va_D (fun q => q ∈ L) (va_pl L f_390) → (∀ b, kd b ≠ 0 → kd b ≠ 1 → kd b ≠ 3 → kd b ≠ 10 → kd b ≠ 507 → kd b ≠ 516 → kd b ≠ 517 → kd b ≠ 518 → kd b ≠ 519 → kd b ≠ 520 → kd b ≠ 521 → kd b ≠ 522 → kd b ≠ 523 → kd b ≠ 524 → kd b ≠ 525 → kd b ≠ 526 → kd b ≠ 527 → kd b ≠ 534 → kd b ≠ 535 → kd b ≠ 536 → kd b ≠ 537 → kd b ≠ 538 → f_390 b = f b) → (∀ b, kd b = 1 → fldR (f_390 b) 0 = fldR (f b) 0) → (∀ b, kd b = 1 → fldR (f_390 b) 1 = fldR (f b) 1) → (∀ b, kd b = 3 → fldR (f_390 b) 0 = fldR (f b) 0) → (∀ b, kd b = 3 → fldR (f_390 b) 3 = fldR (f b) 3) → (f_390 o2 = .inr (3, [.ref a_2, .ref a_3, .ref a_4, .ref a_5, .ref a_6, .int v_7, .int v_8, .int v_9, .int v_10, .int v_11, .int v_12, .int v_13, .ref a_14, .ref a_15, .ref a_16, .int v_17, .ref a_18, .ref a_19])) → (f_390 a_2 = .inr (7, [.ref a_268, .int v_269, .ref a_270, .ref a_271, .ref a_272, .ref a_273, .int v_274, .ref a_275, .ref a_276, .ref a_277, .ref a_278, .ref a_279, .int v_280, .ref a_281, .ref a_282, .ref a_283])) → (f_390 o3 = .inr (6, [.int v_378, .int v_379, .ref a_380, .ref a_381, .ref a_382, .int v_383, .ref a_384, .ref a_385, .ref a_386])) → trel kd 7 508 510 515 4 f_390 a_2 → drel kd 1 521 522 f_390 a_5 → ∀ (ls : Array Slot), lv_has ls 6 [(5, .int y_263), (0, .ref o0), (1, .int p1), (2, .ref o2), (3, .ref o3), (4, .int p4)] → W p l e (headSpec (wU yX0_refresh cX0_refresh 6 none) { frames := 16, cells := 0, slots := 0, locals := 544 }).room s m [.ref o0, .int p1, .ref o2, .ref o3, .int p4].toArray below meth c H locs 0 0 (MQ below (va_Qv (fun (f9 : Nat → va_E) => GI (okc cI cL cZ cR cG cH L kd) kd L f9 ∧ (∀ b, kd b ≠ 0 → kd b ≠ 1 → kd b ≠ 3 → kd b ≠ 10 → kd b ≠ 507 → kd b ≠ 516 → kd b ≠ 517 → kd b ≠ 518 → kd b ≠ 519 → kd b ≠ 520 → kd b ≠ 521 → kd b ≠ 522 → kd b ≠ 523 → kd b ≠ 524 → kd b ≠ 525 → kd b ≠ 526 → kd b ≠ 527 → kd b ≠ 534 → kd b ≠ 535 → kd b ≠ 536 → kd b ≠ 537 → kd b ≠ 538 → f9 b = f b) ∧ (∀ b, kd b = 1 → fldR (f9 b) 0 = fldR (f b) 0) ∧ (∀ b, kd b = 1 → fldR (f9 b) 1 = fldR (f b) 1) ∧ (∀ b, kd b = 3 → fldR (f9 b) 0 = fldR (f b) 0) ∧ (∀ b, kd b = 3 → fldR (f9 b) 3 = fldR (f b) 3) ∧ (∀ d9, fldR (f9 o2) 0 = some d9 → trel kd 7 508 510 515 4 f9 d9) ∧ (∀ d9, fldR (f9 o2) 3 = some d9 → drel kd 1 521 522 f9 d9)) (qP (dC, dI) cI cL cZ cR cG cH L) (fun q => q ∈ L)) [.ref o0, .int p1, .ref o2, .ref o3, .int p4].toArray s 0 0 (fun q => q ∈ L)) (F0 m 102 ls []) := by
              intro f_390 hG H locs hP hS hD hfr0 hrr1_0 hrr1_1 hrr3_0 hrr3_3 hfo_391 hfo_392 hfo_393 hT0 hT1 ls hl
              obtain ⟨x_395, ex_395⟩ : ∃ y : Int32, y_263 + 1 = y := ⟨_, rfl⟩
              have hx_395 : x_395.toInt = y_263.toInt + 1 := by rw [← ex_395, ad_I (by rw [ti_1]; omega) (by rw [ti_1]; omega), ti_1]
              have bx_395 : (1 ≤ x_395.toInt ∧ x_395.toInt ≤ 8) := by constructor <;> omega
              refine lv_iinc (v := x_395) (lv' := [(5, .int x_395), (0, .ref o0), (1, .int p1), (2, .ref o2), (3, .ref o3), (4, .int p4)]) hx hb dX0_refresh_102 hl (k := 0) rfl ex_395 (by decide) rfl (fun ls hl => ?_)
              refine lv_goto (tgt := 37) hx hb dX0_refresh_105 (by decide) ?_
              exact ih_hloop_262 x_395 (by constructor <;> omega) f_390 hG _ _ hP hS hD hfr0 hrr1_0 hrr1_1 hrr3_0 hrr3_3 hfo_391 hT0 hT1 (by omega) ls (lv_sub hl [0, 1, 2, 3, 4, 5] rfl)
            refine lv_icmp_ne (tgt := 102) hx hb dX0_refresh_59 (by decide) (fun c_396 => ?_) (fun c_396 => ?_)
            · skip
              rw [← Int32.toInt_inj, ti_1] at c_396
              exact hcut_394 f_265 hG _ _ hP hS hD hfr0 hrr1_0 hrr1_1 hrr3_0 hrr3_3 hfo_266 hfo_267 hfo_377 hT0 hT1 ls (lv_sub hl [0, 1, 2, 3, 4, 5] rfl)
            · skip
              rw [← Int32.toInt_inj, ti_1] at c_396
              refine lv_aload_n hx hb dX0_refresh_62 rfl (lv_at hl 1 rfl) ?_
              obtain ⟨a_398, a_399, a_400, v_401, a_402, a_403, a_404, v_405, a_406, v_407, v_408, hfo_397, ⟨ma_398, ka_398⟩, ⟨ma_399, ka_399⟩, ⟨ma_400, ka_400⟩, bv_401, ⟨ma_402, ka_402⟩, ⟨ma_403, ka_403⟩, ⟨ma_404, ka_404⟩, ⟨ma_406, ka_406⟩⟩ := un_0 (hG _ mo0) ko0
              have bv_405 : ((-2147483648) ≤ v_405.toInt ∧ v_405.toInt ≤ 2147483647) := ⟨i32_lo _, i32_hi _⟩
              have bv_407 : ((-2147483648) ≤ v_407.toInt ∧ v_407.toInt ≤ 2147483647) := ⟨i32_lo _, i32_hi _⟩
              have bv_408 : ((-2147483648) ≤ v_408.toInt ∧ v_408.toInt ≤ 2147483647) := ⟨i32_lo _, i32_hi _⟩
              refine tk_getP (D := (dC, dI)) (ci := 0) (v := .int v_401) (C := RX0) (T := TX0) (N := 11) hx hb hU inlX0 hown hK hP mo0 hfo_397 rfl 3 (by decide) (hU _ wd_1195) (fun _ h9 => h9) rfl dX0_refresh_63 ?_
              refine lv_bipush (v := 6) hx hb dX0_refresh_66 (by decide) ?_
              refine lv_icmp_ge (tgt := 102) hx hb dX0_refresh_68 (by decide) (fun c_409 => ?_) (fun c_409 => ?_)
              · skip
                rw [Int32.le_iff_toInt_le, ti_6] at c_409
                exact hcut_394 f_265 hG _ _ hP hS hD hfr0 hrr1_0 hrr1_1 hrr3_0 hrr3_3 hfo_266 hfo_267 hfo_377 hT0 hT1 ls (lv_sub hl [0, 1, 2, 3, 4, 5] rfl)
              · skip
                rw [Int32.le_iff_toInt_le, ti_6] at c_409
                refine lv_aload_n hx hb dX0_refresh_71 rfl (lv_at hl 1 rfl) ?_
                refine tk_getP (D := (dC, dI)) (ci := 0) (v := .ref a_400) (C := RX0) (T := TX0) (N := 11) hx hb hU inlX0 hown hK hP mo0 hfo_397 rfl 2 (by decide) (hU _ wd_159) (fun _ h9 => h9) rfl dX0_refresh_72 ?_
                refine lv_aload_n hx hb dX0_refresh_75 rfl (lv_at hl 1 rfl) ?_
                refine tk_getP (D := (dC, dI)) (ci := 0) (v := .int v_401) (C := RX0) (T := TX0) (N := 11) hx hb hU inlX0 hown hK hP mo0 hfo_397 rfl 3 (by decide) (hU _ wd_1195) (fun _ h9 => h9) rfl dX0_refresh_76 ?_
                refine lv_iload hx hb dX0_refresh_79 (lv_at hl 0 rfl) ?_
                obtain ⟨g_411, hfo_410, hbg_411⟩ := un_536 (hG _ ma_400) ka_400
                refine tk_istP hx hb hK hP hD hS 0 ma_400 hfo_410 rfl (vp_in_iff.mpr (by constructor <;> omega)) dX0_refresh_81 (fun H locs hP hD hS => ?_)
                obtain ⟨f_413, ef_413⟩ : ∃ y : Nat → va_E, y = va_up f_265 a_400 (.inl (cI, 6, .inl (upd g_411 (Int32.toNatClampNeg v_401) y_263))) := ⟨_, rfl⟩
                have hP : va_P (dC, dI) vwCl (va_pl L f_413) H := by rw [ef_413]; exact hP
                have hD : va_D (fun q => q ∈ L) (va_pl L f_413) := by rw [ef_413]; exact hD
                have hG : GI (okc cI cL cZ cR cG cH L kd) kd L f_413 := by rw [ef_413]; exact hG.set a_400 (mk_536 ka_400 ⟨_, rfl, okI_up hbg_411 (by constructor <;> omega) _⟩)
                have hfo_414 : f_413 o2 = .inr (3, [.ref a_2, .ref a_3, .ref a_4, .ref a_5, .ref a_6, .int v_7, .int v_8, .int v_9, .int v_10, .int v_11, .int v_12, .int v_13, .ref a_14, .ref a_15, .ref a_16, .int v_17, .ref a_18, .ref a_19]) := by rw [ef_413, up_ne (kd_ne ka_400 ko2 (by decide))]; exact hfo_266
                have hfo_415 : f_413 a_2 = .inr (7, [.ref a_268, .int v_269, .ref a_270, .ref a_271, .ref a_272, .ref a_273, .int v_274, .ref a_275, .ref a_276, .ref a_277, .ref a_278, .ref a_279, .int v_280, .ref a_281, .ref a_282, .ref a_283]) := by rw [ef_413, up_ne (kd_ne ka_400 ka_2 (by decide))]; exact hfo_267
                have hfo_416 : f_413 o3 = .inr (6, [.int v_378, .int v_379, .ref a_380, .ref a_381, .ref a_382, .int v_383, .ref a_384, .ref a_385, .ref a_386]) := by rw [ef_413, up_ne (kd_ne ka_400 ko3 (by decide))]; exact hfo_377
                have hfo_417 : f_413 o0 = .inr (0, [.ref a_398, .ref a_399, .ref a_400, .int v_401, .ref a_402, .ref a_403, .ref a_404, .int v_405, .ref a_406, .int v_407, .int v_408]) := by rw [ef_413, up_ne (kd_ne ka_400 ko0 (by decide))]; exact hfo_397
                have hfr0 : ∀ b, kd b ≠ 0 → kd b ≠ 1 → kd b ≠ 3 → kd b ≠ 10 → kd b ≠ 507 → kd b ≠ 516 → kd b ≠ 517 → kd b ≠ 518 → kd b ≠ 519 → kd b ≠ 520 → kd b ≠ 521 → kd b ≠ 522 → kd b ≠ 523 → kd b ≠ 524 → kd b ≠ 525 → kd b ≠ 526 → kd b ≠ 527 → kd b ≠ 534 → kd b ≠ 535 → kd b ≠ 536 → kd b ≠ 537 → kd b ≠ 538 → f_413 b = f b := fun b q0 q1 q3 q10 q507 q516 q517 q518 q519 q520 q521 q522 q523 q524 q525 q526 q527 q534 q535 q536 q537 q538 => (congrFun ef_413 b).trans ((up_ne (fun e9 => q536 (by rw [e9]; exact ka_400))).trans (hfr0 b q0 q1 q3 q10 q507 q516 q517 q518 q519 q520 q521 q522 q523 q524 q525 q526 q527 q534 q535 q536 q537 q538))
                have hrr1_0 : ∀ b, kd b = 1 → fldR (f_413 b) 0 = fldR (f b) 0 := fun b kb => (congrArg (fun x => fldR x 0) ((congrFun ef_413 b).trans (up_ne (kd_ne ka_400 kb (by decide))))).trans (hrr1_0 b kb)
                have hrr1_1 : ∀ b, kd b = 1 → fldR (f_413 b) 1 = fldR (f b) 1 := fun b kb => (congrArg (fun x => fldR x 1) ((congrFun ef_413 b).trans (up_ne (kd_ne ka_400 kb (by decide))))).trans (hrr1_1 b kb)
                have hrr3_0 : ∀ b, kd b = 3 → fldR (f_413 b) 0 = fldR (f b) 0 := fun b kb => (congrArg (fun x => fldR x 0) ((congrFun ef_413 b).trans (up_ne (kd_ne ka_400 kb (by decide))))).trans (hrr3_0 b kb)
                have hrr3_3 : ∀ b, kd b = 3 → fldR (f_413 b) 3 = fldR (f b) 3 := fun b kb => (congrArg (fun x => fldR x 3) ((congrFun ef_413 b).trans (up_ne (kd_ne ka_400 kb (by decide))))).trans (hrr3_3 b kb)
                have hT0 : trel kd 7 508 510 515 4 f_413 a_2 := by rw [ef_413]; exact hT0.up ka_400 (by decide) (by decide) (by decide) (by decide) (by decide)
                have hT1 : drel kd 1 521 522 f_413 a_5 := by rw [ef_413]; exact hT1.up ka_400 (by decide) (by decide) (by decide)
                have hfo_418 : f_413 a_400 = .inl (cI, 6, .inl (upd g_411 (Int32.toNatClampNeg v_401) y_263)) := by rw [ef_413]; exact up_self
                refine lv_aload_n hx hb dX0_refresh_82 rfl (lv_at hl 1 rfl) ?_
                refine lv_dup hx hb dX0_refresh_83 rfl ?_
                refine tk_getP (D := (dC, dI)) (ci := 0) (v := .int v_401) (C := RX0) (T := TX0) (N := 11) hx hb hU inlX0 hown hK hP mo0 hfo_417 rfl 3 (by decide) (hU _ wd_1195) (fun _ h9 => h9) rfl dX0_refresh_84 ?_
                refine lv_iconst (v := 1) hx hb dX0_refresh_87 (by decide) ?_
                refine lv_iadd hx hb dX0_refresh_88 ?_
                refine lv_topi (fun x_419 ex_419 => ?_)
                have hx_419 : x_419.toInt = v_401.toInt + 1 := by rw [ex_419, ad_I (by rw [ti_1]; omega) (by rw [ti_1]; omega), ti_1]
                have bx_419 : (1 ≤ x_419.toInt ∧ x_419.toInt ≤ 6) := by constructor <;> omega
                refine tk_putP (D := (dC, dI)) (ci := 0) (v := .int x_419) (ty := .int) (C := RX0) (T := TX0) (N := 11) hx hb hU inlX0 tyX0 tyX0_ok nmX0 hown hK hP hD hS mo0 hfo_417 rfl 3 (by decide) (hU _ wd_1195) (fun _ h9 => h9) rfl (by decide +kernel) rfl rfl (Nat.le_of_ble_eq_true rfl) dX0_refresh_89 (fun H locs hP hD hS => ?_)
                obtain ⟨f_421, ef_421⟩ : ∃ y : Nat → va_E, y = va_up f_413 o0 (.inr (0, [.ref a_398, .ref a_399, .ref a_400, .int x_419, .ref a_402, .ref a_403, .ref a_404, .int v_405, .ref a_406, .int v_407, .int v_408])) := ⟨_, rfl⟩
                have hP : va_P (dC, dI) vwCl (va_pl L f_421) H := by rw [ef_421]; exact hP
                have hD : va_D (fun q => q ∈ L) (va_pl L f_421) := by rw [ef_421]; exact hD
                have hG : GI (okc cI cL cZ cR cG cH L kd) kd L f_421 := by rw [ef_421]; exact hG.set o0 (mk_0 ko0 ⟨a_398, a_399, a_400, x_419, a_402, a_403, a_404, v_405, a_406, v_407, v_408, rfl, ⟨ma_398, ka_398⟩, ⟨ma_399, ka_399⟩, ⟨ma_400, ka_400⟩, (by constructor <;> omega), ⟨ma_402, ka_402⟩, ⟨ma_403, ka_403⟩, ⟨ma_404, ka_404⟩, ⟨ma_406, ka_406⟩⟩)
                have hfo_422 : f_421 o2 = .inr (3, [.ref a_2, .ref a_3, .ref a_4, .ref a_5, .ref a_6, .int v_7, .int v_8, .int v_9, .int v_10, .int v_11, .int v_12, .int v_13, .ref a_14, .ref a_15, .ref a_16, .int v_17, .ref a_18, .ref a_19]) := by rw [ef_421, up_ne (kd_ne ko0 ko2 (by decide))]; exact hfo_414
                have hfo_423 : f_421 a_2 = .inr (7, [.ref a_268, .int v_269, .ref a_270, .ref a_271, .ref a_272, .ref a_273, .int v_274, .ref a_275, .ref a_276, .ref a_277, .ref a_278, .ref a_279, .int v_280, .ref a_281, .ref a_282, .ref a_283]) := by rw [ef_421, up_ne (kd_ne ko0 ka_2 (by decide))]; exact hfo_415
                have hfo_424 : f_421 o3 = .inr (6, [.int v_378, .int v_379, .ref a_380, .ref a_381, .ref a_382, .int v_383, .ref a_384, .ref a_385, .ref a_386]) := by rw [ef_421, up_ne (kd_ne ko0 ko3 (by decide))]; exact hfo_416
                have hfr0 : ∀ b, kd b ≠ 0 → kd b ≠ 1 → kd b ≠ 3 → kd b ≠ 10 → kd b ≠ 507 → kd b ≠ 516 → kd b ≠ 517 → kd b ≠ 518 → kd b ≠ 519 → kd b ≠ 520 → kd b ≠ 521 → kd b ≠ 522 → kd b ≠ 523 → kd b ≠ 524 → kd b ≠ 525 → kd b ≠ 526 → kd b ≠ 527 → kd b ≠ 534 → kd b ≠ 535 → kd b ≠ 536 → kd b ≠ 537 → kd b ≠ 538 → f_421 b = f b := fun b q0 q1 q3 q10 q507 q516 q517 q518 q519 q520 q521 q522 q523 q524 q525 q526 q527 q534 q535 q536 q537 q538 => (congrFun ef_421 b).trans ((up_ne (fun e9 => q0 (by rw [e9]; exact ko0))).trans (hfr0 b q0 q1 q3 q10 q507 q516 q517 q518 q519 q520 q521 q522 q523 q524 q525 q526 q527 q534 q535 q536 q537 q538))
                have hrr1_0 : ∀ b, kd b = 1 → fldR (f_421 b) 0 = fldR (f b) 0 := fun b kb => (congrArg (fun x => fldR x 0) ((congrFun ef_421 b).trans (up_ne (kd_ne ko0 kb (by decide))))).trans (hrr1_0 b kb)
                have hrr1_1 : ∀ b, kd b = 1 → fldR (f_421 b) 1 = fldR (f b) 1 := fun b kb => (congrArg (fun x => fldR x 1) ((congrFun ef_421 b).trans (up_ne (kd_ne ko0 kb (by decide))))).trans (hrr1_1 b kb)
                have hrr3_0 : ∀ b, kd b = 3 → fldR (f_421 b) 0 = fldR (f b) 0 := fun b kb => (congrArg (fun x => fldR x 0) ((congrFun ef_421 b).trans (up_ne (kd_ne ko0 kb (by decide))))).trans (hrr3_0 b kb)
                have hrr3_3 : ∀ b, kd b = 3 → fldR (f_421 b) 3 = fldR (f b) 3 := fun b kb => (congrArg (fun x => fldR x 3) ((congrFun ef_421 b).trans (up_ne (kd_ne ko0 kb (by decide))))).trans (hrr3_3 b kb)
                have hT0 : trel kd 7 508 510 515 4 f_421 a_2 := by rw [ef_421]; exact hT0.up ko0 (by decide) (by decide) (by decide) (by decide) (by decide)
                have hT1 : drel kd 1 521 522 f_421 a_5 := by rw [ef_421]; exact hT1.up ko0 (by decide) (by decide) (by decide)
                have hfo_425 : f_421 o0 = .inr (0, [.ref a_398, .ref a_399, .ref a_400, .int x_419, .ref a_402, .ref a_403, .ref a_404, .int v_405, .ref a_406, .int v_407, .int v_408]) := by rw [ef_421]; exact up_self
                refine lv_aload_n hx hb dX0_refresh_92 rfl (lv_at hl 1 rfl) ?_
                refine lv_aload_n hx hb dX0_refresh_93 rfl (lv_at hl 3 rfl) ?_
                refine tk_getP (D := (dC, dI)) (ci := 3) (v := .ref a_2) (C := RX3) (T := TX3) (N := 18) hx hb hU inlX3 hown hK hP mo2 hfo_422 rfl 0 (by decide) (hU _ wd_1196) (fun _ h9 => h9) rfl dX0_refresh_94 ?_
                refine lv_iload hx hb dX0_refresh_97 (lv_at hl 0 rfl) ?_
                refine tk_VvP (As := [.ref a_2, .int y_263]) (rest := []) (n := 2) hx hb hml hown hU hN hZ (s_X0_fillAfter_k0_k7 l (dC, dI) cI cL cZ cR cG cH Z kd L f_421 hG o0 mo0 ko0 a_2 ma_2 ka_2 y_263 (by constructor <;> omega) hT0 (fun c9 h9 => by rw [hfo_423] at h9; obtain rfl := Option.some.inj h9; omega)) wd_1200 wd_1201 wd_1202 wd_37 wd_1203 (by decide +kernel) ⟨Nat.le_of_ble_eq_true rfl, Nat.le_of_ble_eq_true rfl⟩ hK hP hD hS mo0 hfo_425 0 rfl rfl rfl hl.1 rfl (Nat.le_of_ble_eq_true rfl) dX0_refresh_99 ⟨Nat.le_of_ble_eq_true rfl, Nat.le_of_ble_eq_true rfl⟩ (fun f_427 H locs hw hP hD hS => ?_)
                obtain ⟨hG, hkc_428, hTc_429⟩ := hw
                have hfo_431 : f_427 o2 = .inr (3, [.ref a_2, .ref a_3, .ref a_4, .ref a_5, .ref a_6, .int v_7, .int v_8, .int v_9, .int v_10, .int v_11, .int v_12, .int v_13, .ref a_14, .ref a_15, .ref a_16, .int v_17, .ref a_18, .ref a_19]) := by rw [hkc_428 o2 (by rw [ko2]; decide) (by rw [ko2]; decide) (by rw [ko2]; decide)]; exact hfo_422
                have hfo_432 : f_427 a_2 = .inr (7, [.ref a_268, .int v_269, .ref a_270, .ref a_271, .ref a_272, .ref a_273, .int v_274, .ref a_275, .ref a_276, .ref a_277, .ref a_278, .ref a_279, .int v_280, .ref a_281, .ref a_282, .ref a_283]) := by rw [hkc_428 a_2 (by rw [ka_2]; decide) (by rw [ka_2]; decide) (by rw [ka_2]; decide)]; exact hfo_423
                have hfo_433 : f_427 o3 = .inr (6, [.int v_378, .int v_379, .ref a_380, .ref a_381, .ref a_382, .int v_383, .ref a_384, .ref a_385, .ref a_386]) := by rw [hkc_428 o3 (by rw [ko3]; decide) (by rw [ko3]; decide) (by rw [ko3]; decide)]; exact hfo_424
                have hfo_434 : f_427 o0 = .inr (0, [.ref a_398, .ref a_399, .ref a_400, .int x_419, .ref a_402, .ref a_403, .ref a_404, .int v_405, .ref a_406, .int v_407, .int v_408]) := by rw [hkc_428 o0 (by rw [ko0]; decide) (by rw [ko0]; decide) (by rw [ko0]; decide)]; exact hfo_425
                have hfr0 : ∀ b, kd b ≠ 0 → kd b ≠ 1 → kd b ≠ 3 → kd b ≠ 10 → kd b ≠ 507 → kd b ≠ 516 → kd b ≠ 517 → kd b ≠ 518 → kd b ≠ 519 → kd b ≠ 520 → kd b ≠ 521 → kd b ≠ 522 → kd b ≠ 523 → kd b ≠ 524 → kd b ≠ 525 → kd b ≠ 526 → kd b ≠ 527 → kd b ≠ 534 → kd b ≠ 535 → kd b ≠ 536 → kd b ≠ 537 → kd b ≠ 538 → f_427 b = f b := fun b q0 q1 q3 q10 q507 q516 q517 q518 q519 q520 q521 q522 q523 q524 q525 q526 q527 q534 q535 q536 q537 q538 => (hkc_428 b q516 q534 q538).trans (hfr0 b q0 q1 q3 q10 q507 q516 q517 q518 q519 q520 q521 q522 q523 q524 q525 q526 q527 q534 q535 q536 q537 q538)
                have hrr1_0 : ∀ b, kd b = 1 → fldR (f_427 b) 0 = fldR (f b) 0 := fun b kb => (congrArg (fun x => fldR x 0) (hkc_428 b (by rw [kb]; decide) (by rw [kb]; decide) (by rw [kb]; decide))).trans (hrr1_0 b kb)
                have hrr1_1 : ∀ b, kd b = 1 → fldR (f_427 b) 1 = fldR (f b) 1 := fun b kb => (congrArg (fun x => fldR x 1) (hkc_428 b (by rw [kb]; decide) (by rw [kb]; decide) (by rw [kb]; decide))).trans (hrr1_1 b kb)
                have hrr3_0 : ∀ b, kd b = 3 → fldR (f_427 b) 0 = fldR (f b) 0 := fun b kb => (congrArg (fun x => fldR x 0) (hkc_428 b (by rw [kb]; decide) (by rw [kb]; decide) (by rw [kb]; decide))).trans (hrr3_0 b kb)
                have hrr3_3 : ∀ b, kd b = 3 → fldR (f_427 b) 3 = fldR (f b) 3 := fun b kb => (congrArg (fun x => fldR x 3) (hkc_428 b (by rw [kb]; decide) (by rw [kb]; decide) (by rw [kb]; decide))).trans (hrr3_3 b kb)
                have hT0 : trel kd 7 508 510 515 4 f_427 a_2 := hT0.keep (fun b q => hkc_428 b (by rw [q]; decide) (by rw [q]; decide) (by rw [q]; decide)) (fun b q => hkc_428 b (by rw [q]; decide) (by rw [q]; decide) (by rw [q]; decide)) (fun b q => hkc_428 b (by rw [q]; decide) (by rw [q]; decide) (by rw [q]; decide)) (fun b q => hkc_428 b (by rw [q]; decide) (by rw [q]; decide) (by rw [q]; decide)) (fun b q => congrArg (fun x => fldI x 1) (hkc_428 b (by rw [q]; decide) (by rw [q]; decide) (by rw [q]; decide)))
                have hT1 : drel kd 1 521 522 f_427 a_5 := hT1.keep (fun b q => congrArg (fun x => fldI x 5) (hkc_428 b (by rw [q]; decide) (by rw [q]; decide) (by rw [q]; decide))) (fun b q => congrArg (fun x => fldR x 0) (hkc_428 b (by rw [q]; decide) (by rw [q]; decide) (by rw [q]; decide))) (fun b q => congrArg (fun x => fldR x 1) (hkc_428 b (by rw [q]; decide) (by rw [q]; decide) (by rw [q]; decide))) (fun b q => hkc_428 b (by rw [q]; decide) (by rw [q]; decide) (by rw [q]; decide)) (fun b q => hkc_428 b (by rw [q]; decide) (by rw [q]; decide) (by rw [q]; decide))
                exact hcut_394 f_427 hG _ _ hP hS hD hfr0 hrr1_0 hrr1_1 hrr3_0 hrr3_3 hfo_431 hfo_432 hfo_433 hTc_429 hT1 ls (lv_sub hl [0, 1, 2, 3, 4, 5] rfl)
      exact hloop_262 9 0 (by decide) f_244 hG _ _ hP hS hD hfr0 hrr1_0 hrr1_1 hrr3_0 hrr3_3 hfo_245 hT0 hT1 (by (try rw [ti_0]) <;> omega) ls hl
    · skip
      rw [← Int32.toInt_inj] at c_234
      exact W.vret hx hb hr (fun t ht hW => ⟨⟨f, rfl, ⟨hG, hfr0, hrr1_0, hrr1_1, hrr3_0, hrr3_3, (fun d9 h9 => by rw [hfo_1] at h9; obtain rfl := Option.some.inj h9; exact hT0), (fun d9 h9 => by rw [hfo_1] at h9; obtain rfl := Option.some.inj h9; exact hT1)⟩, by rw [ht]; exact hP, va_K.moved hW.alike hK, pl_in hD⟩, hS.F ht⟩) hS.2.2 dX0_refresh_17
