set_option maxHeartbeats 8000000 in
set_option maxRecDepth 100000 in
theorem s_X11_findWords_k11 (l : Launch) (D : va_G) (cI cL cZ cR cG cH : ClassId) (Z : zT) (kd : Nat → Nat) (L : List Nat) (f : Nat → va_E) (hG : GI (okc cI cL cZ cR cG cH L kd) kd L f) (o0 : Nat) (mo0 : o0 ∈ L) (ko0 : kd o0 = 11) (p1 : Int32) (bp1 : (0 ≤ p1.toInt ∧ p1.toInt ≤ 1)) (hxtr0 : ∀ d9, fldR (f o0) 3 = some d9 → trel kd 7 508 510 515 4 f d9) (hxtr1 : ∀ r9 d9, fldR (f o0) 2 = some r9 → fldR (f r9) 3 = some d9 → drel kd 1 521 522 f d9) : mPI l D cI cL cZ cR cG cH Z yX11_findWords cX11_findWords 3 (some .int) 15 517 [.ref o0, .int p1] L f (fun (r : Int32) (f9 : Nat → va_E) => GI (okc cI cL cZ cR cG cH L kd) kd L f9 ∧ ((-2147483648) ≤ r.toInt ∧ r.toInt ≤ 2147483647) ∧ (∀ b, kd b ≠ 1 → kd b ≠ 3 → kd b ≠ 10 → kd b ≠ 11 → kd b ≠ 507 → kd b ≠ 517 → kd b ≠ 518 → kd b ≠ 519 → kd b ≠ 520 → kd b ≠ 521 → kd b ≠ 522 → kd b ≠ 523 → kd b ≠ 524 → kd b ≠ 525 → kd b ≠ 526 → kd b ≠ 527 → kd b ≠ 540 → f9 b = f b) ∧ (∀ b, kd b = 11 → fldI (f9 b) 8 = fldI (f b) 8) ∧ (∀ b, kd b = 1 → fldR (f9 b) 0 = fldR (f b) 0) ∧ (∀ b, kd b = 1 → fldR (f9 b) 1 = fldR (f b) 1) ∧ (∀ b, kd b = 3 → fldR (f9 b) 0 = fldR (f b) 0) ∧ (∀ b, kd b = 3 → fldR (f9 b) 3 = fldR (f b) 3) ∧ (∀ b, kd b = 11 → fldR (f9 b) 2 = fldR (f b) 2) ∧ (∀ b, kd b = 11 → fldR (f9 b) 3 = fldR (f b) 3) ∧ (∀ b, kd b = 11 → fldR (f9 b) 5 = fldR (f b) 5) ∧ (∀ b, kd b = 11 → fldR (f9 b) 6 = fldR (f b) 6) ∧ (∀ b, kd b = 11 → fldR (f9 b) 7 = fldR (f b) 7) ∧ (∀ b, kd b = 11 → fldR (f9 b) 9 = fldR (f b) 9) ∧ (∀ b, kd b = 11 → fldR (f9 b) 10 = fldR (f b) 10) ∧ (∀ b, kd b = 11 → fldR (f9 b) 16 = fldR (f b) 16) ∧ (∀ (w1 z1 : Int32), fldI (f o0) 1 = some w1 → fldI (f9 o0) 1 = some z1 → z1.toInt = 0) ∧ (∀ d9, fldR (f9 o0) 3 = some d9 → trel kd 7 508 510 515 4 f9 d9) ∧ (∀ r9 d9, fldR (f9 o0) 2 = some r9 → fldR (f9 r9) 3 = some d9 → drel kd 1 521 522 f9 d9)) := by
  obtain ⟨dC, dI⟩ := D
  refine Met.ofW (cc := cX11_findWords) (maxL := 3) (ret := (some .int)) (by decide) rfl ?_
  intro p e s m args below meth c s₁ B hml hv
  obtain ⟨rfl, hP, hK, hD0, hN, hZ⟩ := hv
  have hx := B.exec
  have hb := B.bytes
  have hr := B.returns
  have hU : ∀ w ∈ wsU, w.before _ s = true := fun w h => atoms_spec (ws := wU yX11_findWords cX11_findWords 3 (some .int)) B.pre w (List.mem_cons_of_mem _ h)
  have hown : s.vm.findClass RX11 = some m.cls := findClass_of_methodNamed B.named
  have hlocks := B.notSynchronized
  have hD := pl_in hD0
  have hS : va_S (fun q => q ∈ L) s.heap s.heap [] := va_S.rf
  have hl := lv_entry ([.ref o0, .int p1]) (n := 3) (Nat.le_of_ble_eq_true rfl)
  rw [lg_entry_eq]
  generalize (lg_sl ([.ref o0, .int p1]) ++ List.replicate (3 - (lg_sl ([.ref o0, .int p1])).length) Slot.unset).toArray = ls at hl ⊢
  have hl : lv_has ls 3 [(0, .ref o0), (1, .int p1)] := hl
  have hfr0 : ∀ b, kd b ≠ 1 → kd b ≠ 3 → kd b ≠ 10 → kd b ≠ 11 → kd b ≠ 507 → kd b ≠ 517 → kd b ≠ 518 → kd b ≠ 519 → kd b ≠ 520 → kd b ≠ 521 → kd b ≠ 522 → kd b ≠ 523 → kd b ≠ 524 → kd b ≠ 525 → kd b ≠ 526 → kd b ≠ 527 → kd b ≠ 540 → f b = f b := fun _ _ _ _ _ _ _ _ _ _ _ _ _ _ _ _ _ _ => rfl
  have hfr11_8 : ∀ b, kd b = 11 → fldI (f b) 8 = fldI (f b) 8 := fun _ _ => rfl
  have hrr1_0 : ∀ b, kd b = 1 → fldR (f b) 0 = fldR (f b) 0 := fun _ _ => rfl
  have hrr1_1 : ∀ b, kd b = 1 → fldR (f b) 1 = fldR (f b) 1 := fun _ _ => rfl
  have hrr3_0 : ∀ b, kd b = 3 → fldR (f b) 0 = fldR (f b) 0 := fun _ _ => rfl
  have hrr3_3 : ∀ b, kd b = 3 → fldR (f b) 3 = fldR (f b) 3 := fun _ _ => rfl
  have hrr11_2 : ∀ b, kd b = 11 → fldR (f b) 2 = fldR (f b) 2 := fun _ _ => rfl
  have hrr11_3 : ∀ b, kd b = 11 → fldR (f b) 3 = fldR (f b) 3 := fun _ _ => rfl
  have hrr11_5 : ∀ b, kd b = 11 → fldR (f b) 5 = fldR (f b) 5 := fun _ _ => rfl
  have hrr11_6 : ∀ b, kd b = 11 → fldR (f b) 6 = fldR (f b) 6 := fun _ _ => rfl
  have hrr11_7 : ∀ b, kd b = 11 → fldR (f b) 7 = fldR (f b) 7 := fun _ _ => rfl
  have hrr11_9 : ∀ b, kd b = 11 → fldR (f b) 9 = fldR (f b) 9 := fun _ _ => rfl
  have hrr11_10 : ∀ b, kd b = 11 → fldR (f b) 10 = fldR (f b) 10 := fun _ _ => rfl
  have hrr11_16 : ∀ b, kd b = 11 → fldR (f b) 16 = fldR (f b) 16 := fun _ _ => rfl
  obtain ⟨a_2, v_3, a_4, a_5, a_6, a_7, a_8, a_9, v_10, a_11, a_12, a_13, v_14, v_15, a_16, v_17, a_18, a_19, v_20, hfo_1, ⟨ma_2, ka_2⟩, bv_3, ⟨ma_4, ka_4⟩, ⟨ma_5, ka_5⟩, ⟨ma_6, ka_6⟩, ⟨ma_7, ka_7⟩, ⟨ma_8, ka_8⟩, ⟨ma_9, ka_9⟩, bv_10, ⟨ma_11, ka_11⟩, ⟨ma_12, ka_12⟩, ⟨ma_13, ka_13⟩, bv_14, ⟨ma_16, ka_16⟩, bv_17, ⟨ma_18, ka_18⟩, ⟨ma_19, ka_19⟩⟩ := un_11 (hG _ mo0) ko0
  have bv_15 : ((-2147483648) ≤ v_15.toInt ∧ v_15.toInt ≤ 2147483647) := ⟨i32_lo _, i32_hi _⟩
  have bv_20 : ((-2147483648) ≤ v_20.toInt ∧ v_20.toInt ≤ 2147483647) := ⟨i32_lo _, i32_hi _⟩
  have hT0 := hxtr0 a_5 (by rw [hfo_1]; rfl)
  obtain ⟨a_22, a_23, a_24, a_25, a_26, v_27, v_28, v_29, v_30, v_31, v_32, v_33, a_34, a_35, a_36, v_37, a_38, a_39, hfo_21, ⟨ma_22, ka_22⟩, ⟨ma_23, ka_23⟩, ⟨ma_24, ka_24⟩, ⟨ma_25, ka_25⟩, ⟨ma_26, ka_26⟩, bv_27, bv_28, bv_29, ⟨ma_34, ka_34⟩, ⟨ma_35, ka_35⟩, ⟨ma_36, ka_36⟩, bv_37, ⟨ma_38, ka_38⟩, ⟨ma_39, ka_39⟩⟩ := un_3 (hG _ ma_4) ka_4
  have bv_30 : ((-2147483648) ≤ v_30.toInt ∧ v_30.toInt ≤ 2147483647) := ⟨i32_lo _, i32_hi _⟩
  have bv_31 : ((-2147483648) ≤ v_31.toInt ∧ v_31.toInt ≤ 2147483647) := ⟨i32_lo _, i32_hi _⟩
  have bv_32 : ((-2147483648) ≤ v_32.toInt ∧ v_32.toInt ≤ 2147483647) := ⟨i32_lo _, i32_hi _⟩
  have bv_33 : ((-2147483648) ≤ v_33.toInt ∧ v_33.toInt ≤ 2147483647) := ⟨i32_lo _, i32_hi _⟩
  have hT1 := hxtr1 a_4 a_25 (by rw [hfo_1]; rfl) (by rw [hfo_21]; rfl)
  refine lv_aload_n hx hb dX11_findWords_0 rfl (lv_at hl 0 rfl) ?_
  refine tk_getP (D := (dC, dI)) (ci := 11) (v := .ref a_6) (C := RX11) (T := TX11) (N := 19) hx hb hU inlX11 hown hK hP mo0 hfo_1 rfl 4 (by decide) (hU _ wd_21) (fun _ h9 => h9) rfl dX11_findWords_1 ?_
  obtain ⟨a_41, v_42, v_43, hfo_40, ⟨ma_41, ka_41⟩, bv_42, bv_43⟩ := un_10 (hG _ ma_6) ka_6
  refine tk_VvP (As := []) (rest := []) (n := 0) hx hb hml hown hU hN hZ (s_X10_clear_k10 l (dC, dI) cI cL cZ cR cG cH Z kd L f hG a_6 ma_6 ka_6) wd_556 wd_557 wd_558 wd_51 wd_559 (by decide +kernel) ⟨Nat.le_of_ble_eq_true rfl, Nat.le_of_ble_eq_true rfl⟩ hK hP hD hS ma_6 hfo_40 10 rfl rfl rfl hl.1 rfl (Nat.le_of_ble_eq_true rfl) dX11_findWords_4 ⟨Nat.le_of_ble_eq_true rfl, Nat.le_of_ble_eq_true rfl⟩ (fun f_45 H locs hw hP hD hS => ?_)
  obtain ⟨hG, hkc_46⟩ := hw
  have hfo_48 : f_45 o0 = .inr (11, [.ref a_2, .int v_3, .ref a_4, .ref a_5, .ref a_6, .ref a_7, .ref a_8, .ref a_9, .int v_10, .ref a_11, .ref a_12, .ref a_13, .int v_14, .int v_15, .ref a_16, .int v_17, .ref a_18, .ref a_19, .int v_20]) := by rw [hkc_46 o0 (by rw [ko0]; decide)]; exact hfo_1
  have hfo_49 : f_45 a_4 = .inr (3, [.ref a_22, .ref a_23, .ref a_24, .ref a_25, .ref a_26, .int v_27, .int v_28, .int v_29, .int v_30, .int v_31, .int v_32, .int v_33, .ref a_34, .ref a_35, .ref a_36, .int v_37, .ref a_38, .ref a_39]) := by rw [hkc_46 a_4 (by rw [ka_4]; decide)]; exact hfo_21
  have hfr0 : ∀ b, kd b ≠ 1 → kd b ≠ 3 → kd b ≠ 10 → kd b ≠ 11 → kd b ≠ 507 → kd b ≠ 517 → kd b ≠ 518 → kd b ≠ 519 → kd b ≠ 520 → kd b ≠ 521 → kd b ≠ 522 → kd b ≠ 523 → kd b ≠ 524 → kd b ≠ 525 → kd b ≠ 526 → kd b ≠ 527 → kd b ≠ 540 → f_45 b = f b := fun b q1 q3 q10 q11 q507 q517 q518 q519 q520 q521 q522 q523 q524 q525 q526 q527 q540 => (hkc_46 b q10).trans (hfr0 b q1 q3 q10 q11 q507 q517 q518 q519 q520 q521 q522 q523 q524 q525 q526 q527 q540)
  have hfr11_8 : ∀ b, kd b = 11 → fldI (f_45 b) 8 = fldI (f b) 8 := fun b kb => (congrArg (fun x => fldI x 8) (hkc_46 b (by rw [kb]; decide))).trans (hfr11_8 b kb)
  have hrr1_0 : ∀ b, kd b = 1 → fldR (f_45 b) 0 = fldR (f b) 0 := fun b kb => (congrArg (fun x => fldR x 0) (hkc_46 b (by rw [kb]; decide))).trans (hrr1_0 b kb)
  have hrr1_1 : ∀ b, kd b = 1 → fldR (f_45 b) 1 = fldR (f b) 1 := fun b kb => (congrArg (fun x => fldR x 1) (hkc_46 b (by rw [kb]; decide))).trans (hrr1_1 b kb)
  have hrr3_0 : ∀ b, kd b = 3 → fldR (f_45 b) 0 = fldR (f b) 0 := fun b kb => (congrArg (fun x => fldR x 0) (hkc_46 b (by rw [kb]; decide))).trans (hrr3_0 b kb)
  have hrr3_3 : ∀ b, kd b = 3 → fldR (f_45 b) 3 = fldR (f b) 3 := fun b kb => (congrArg (fun x => fldR x 3) (hkc_46 b (by rw [kb]; decide))).trans (hrr3_3 b kb)
  have hrr11_2 : ∀ b, kd b = 11 → fldR (f_45 b) 2 = fldR (f b) 2 := fun b kb => (congrArg (fun x => fldR x 2) (hkc_46 b (by rw [kb]; decide))).trans (hrr11_2 b kb)
  have hrr11_3 : ∀ b, kd b = 11 → fldR (f_45 b) 3 = fldR (f b) 3 := fun b kb => (congrArg (fun x => fldR x 3) (hkc_46 b (by rw [kb]; decide))).trans (hrr11_3 b kb)
  have hrr11_5 : ∀ b, kd b = 11 → fldR (f_45 b) 5 = fldR (f b) 5 := fun b kb => (congrArg (fun x => fldR x 5) (hkc_46 b (by rw [kb]; decide))).trans (hrr11_5 b kb)
  have hrr11_6 : ∀ b, kd b = 11 → fldR (f_45 b) 6 = fldR (f b) 6 := fun b kb => (congrArg (fun x => fldR x 6) (hkc_46 b (by rw [kb]; decide))).trans (hrr11_6 b kb)
  have hrr11_7 : ∀ b, kd b = 11 → fldR (f_45 b) 7 = fldR (f b) 7 := fun b kb => (congrArg (fun x => fldR x 7) (hkc_46 b (by rw [kb]; decide))).trans (hrr11_7 b kb)
  have hrr11_9 : ∀ b, kd b = 11 → fldR (f_45 b) 9 = fldR (f b) 9 := fun b kb => (congrArg (fun x => fldR x 9) (hkc_46 b (by rw [kb]; decide))).trans (hrr11_9 b kb)
  have hrr11_10 : ∀ b, kd b = 11 → fldR (f_45 b) 10 = fldR (f b) 10 := fun b kb => (congrArg (fun x => fldR x 10) (hkc_46 b (by rw [kb]; decide))).trans (hrr11_10 b kb)
  have hrr11_16 : ∀ b, kd b = 11 → fldR (f_45 b) 16 = fldR (f b) 16 := fun b kb => (congrArg (fun x => fldR x 16) (hkc_46 b (by rw [kb]; decide))).trans (hrr11_16 b kb)
  have hT0 : trel kd 7 508 510 515 4 f_45 a_5 := hT0.keep (fun b q => hkc_46 b (by rw [q]; decide)) (fun b q => hkc_46 b (by rw [q]; decide)) (fun b q => hkc_46 b (by rw [q]; decide)) (fun b q => hkc_46 b (by rw [q]; decide)) (fun b q => congrArg (fun x => fldI x 1) (hkc_46 b (by rw [q]; decide)))
  have hT1 : drel kd 1 521 522 f_45 a_25 := hT1.keep (fun b q => congrArg (fun x => fldI x 5) (hkc_46 b (by rw [q]; decide))) (fun b q => congrArg (fun x => fldR x 0) (hkc_46 b (by rw [q]; decide))) (fun b q => congrArg (fun x => fldR x 1) (hkc_46 b (by rw [q]; decide))) (fun b q => hkc_46 b (by rw [q]; decide)) (fun b q => hkc_46 b (by rw [q]; decide))
  refine lv_aload_n hx hb dX11_findWords_7 rfl (lv_at hl 0 rfl) ?_
  refine tk_ViP (As := []) (rest := []) (n := 0) hx hb hml hown hU hN hZ (s_X11_takeWord_k11 l (dC, dI) cI cL cZ cR cG cH Z kd L f_45 hG o0 mo0 ko0 (fun d9 h9 => by rw [hfo_48] at h9; obtain rfl := Option.some.inj h9; exact hT0)) wd_709 wd_710 wd_711 wd_2 wd_712 (by decide +kernel) ⟨Nat.le_of_ble_eq_true rfl, Nat.le_of_ble_eq_true rfl⟩ hK hP hD hS mo0 hfo_48 11 rfl rfl rfl hl.1 rfl (Nat.le_of_ble_eq_true rfl) dX11_findWords_8 ⟨Nat.le_of_ble_eq_true rfl, Nat.le_of_ble_eq_true rfl⟩ (fun x_50 f_51 H locs hw hP hD hS => ?_)
  obtain ⟨hG, bx_50, hkc_52, hfc_53, hrc_54, hrc_55, hrc_56, hrc_57, hrc_58, hrc_59, hrc_60, hrc_61, hpost_62, hxp_63, hTc_64⟩ := hw
  have hfo_66 : f_51 a_4 = .inr (3, [.ref a_22, .ref a_23, .ref a_24, .ref a_25, .ref a_26, .int v_27, .int v_28, .int v_29, .int v_30, .int v_31, .int v_32, .int v_33, .ref a_34, .ref a_35, .ref a_36, .int v_37, .ref a_38, .ref a_39]) := by rw [hkc_52 a_4 (by rw [ka_4]; decide) (by rw [ka_4]; decide)]; exact hfo_49
  have hfr0 : ∀ b, kd b ≠ 1 → kd b ≠ 3 → kd b ≠ 10 → kd b ≠ 11 → kd b ≠ 507 → kd b ≠ 517 → kd b ≠ 518 → kd b ≠ 519 → kd b ≠ 520 → kd b ≠ 521 → kd b ≠ 522 → kd b ≠ 523 → kd b ≠ 524 → kd b ≠ 525 → kd b ≠ 526 → kd b ≠ 527 → kd b ≠ 540 → f_51 b = f b := fun b q1 q3 q10 q11 q507 q517 q518 q519 q520 q521 q522 q523 q524 q525 q526 q527 q540 => (hkc_52 b q11 q540).trans (hfr0 b q1 q3 q10 q11 q507 q517 q518 q519 q520 q521 q522 q523 q524 q525 q526 q527 q540)
  have hfr11_8 : ∀ b, kd b = 11 → fldI (f_51 b) 8 = fldI (f b) 8 := fun b kb => (hfc_53 b kb).trans (hfr11_8 b kb)
  have hrr1_0 : ∀ b, kd b = 1 → fldR (f_51 b) 0 = fldR (f b) 0 := fun b kb => (congrArg (fun x => fldR x 0) (hkc_52 b (by rw [kb]; decide) (by rw [kb]; decide))).trans (hrr1_0 b kb)
  have hrr1_1 : ∀ b, kd b = 1 → fldR (f_51 b) 1 = fldR (f b) 1 := fun b kb => (congrArg (fun x => fldR x 1) (hkc_52 b (by rw [kb]; decide) (by rw [kb]; decide))).trans (hrr1_1 b kb)
  have hrr3_0 : ∀ b, kd b = 3 → fldR (f_51 b) 0 = fldR (f b) 0 := fun b kb => (congrArg (fun x => fldR x 0) (hkc_52 b (by rw [kb]; decide) (by rw [kb]; decide))).trans (hrr3_0 b kb)
  have hrr3_3 : ∀ b, kd b = 3 → fldR (f_51 b) 3 = fldR (f b) 3 := fun b kb => (congrArg (fun x => fldR x 3) (hkc_52 b (by rw [kb]; decide) (by rw [kb]; decide))).trans (hrr3_3 b kb)
  have hrr11_2 : ∀ b, kd b = 11 → fldR (f_51 b) 2 = fldR (f b) 2 := fun b kb => (hrc_54 b kb).trans (hrr11_2 b kb)
  have hrr11_3 : ∀ b, kd b = 11 → fldR (f_51 b) 3 = fldR (f b) 3 := fun b kb => (hrc_55 b kb).trans (hrr11_3 b kb)
  have hrr11_5 : ∀ b, kd b = 11 → fldR (f_51 b) 5 = fldR (f b) 5 := fun b kb => (hrc_56 b kb).trans (hrr11_5 b kb)
  have hrr11_6 : ∀ b, kd b = 11 → fldR (f_51 b) 6 = fldR (f b) 6 := fun b kb => (hrc_57 b kb).trans (hrr11_6 b kb)
  have hrr11_7 : ∀ b, kd b = 11 → fldR (f_51 b) 7 = fldR (f b) 7 := fun b kb => (hrc_58 b kb).trans (hrr11_7 b kb)
  have hrr11_9 : ∀ b, kd b = 11 → fldR (f_51 b) 9 = fldR (f b) 9 := fun b kb => (hrc_59 b kb).trans (hrr11_9 b kb)
  have hrr11_10 : ∀ b, kd b = 11 → fldR (f_51 b) 10 = fldR (f b) 10 := fun b kb => (hrc_60 b kb).trans (hrr11_10 b kb)
  have hrr11_16 : ∀ b, kd b = 11 → fldR (f_51 b) 16 = fldR (f b) 16 := fun b kb => (hrc_61 b kb).trans (hrr11_16 b kb)
  have hT0 : trel kd 7 508 510 515 4 f_51 a_5 := hT0.keep (fun b q => hkc_52 b (by rw [q]; decide) (by rw [q]; decide)) (fun b q => hkc_52 b (by rw [q]; decide) (by rw [q]; decide)) (fun b q => hkc_52 b (by rw [q]; decide) (by rw [q]; decide)) (fun b q => hkc_52 b (by rw [q]; decide) (by rw [q]; decide)) (fun b q => congrArg (fun x => fldI x 1) (hkc_52 b (by rw [q]; decide) (by rw [q]; decide)))
  have hT1 : drel kd 1 521 522 f_51 a_25 := hT1.keep (fun b q => congrArg (fun x => fldI x 5) (hkc_52 b (by rw [q]; decide) (by rw [q]; decide))) (fun b q => congrArg (fun x => fldR x 0) (hkc_52 b (by rw [q]; decide) (by rw [q]; decide))) (fun b q => congrArg (fun x => fldR x 1) (hkc_52 b (by rw [q]; decide) (by rw [q]; decide))) (fun b q => hkc_52 b (by rw [q]; decide) (by rw [q]; decide)) (fun b q => hkc_52 b (by rw [q]; decide) (by rw [q]; decide))
  obtain ⟨a_68, v_69, a_70, a_71, a_72, a_73, a_74, a_75, v_76, a_77, a_78, a_79, v_80, v_81, a_82, v_83, a_84, a_85, v_86, hfo_67, ⟨ma_68, ka_68⟩, bv_69, ⟨ma_70, ka_70⟩, ⟨ma_71, ka_71⟩, ⟨ma_72, ka_72⟩, ⟨ma_73, ka_73⟩, ⟨ma_74, ka_74⟩, ⟨ma_75, ka_75⟩, bv_76, ⟨ma_77, ka_77⟩, ⟨ma_78, ka_78⟩, ⟨ma_79, ka_79⟩, bv_80, ⟨ma_82, ka_82⟩, bv_83, ⟨ma_84, ka_84⟩, ⟨ma_85, ka_85⟩⟩ := un_11 (hG _ mo0) ko0
  have bv_81 : ((-2147483648) ≤ v_81.toInt ∧ v_81.toInt ≤ 2147483647) := ⟨i32_lo _, i32_hi _⟩
  have bv_86 : ((-2147483648) ≤ v_86.toInt ∧ v_86.toInt ≤ 2147483647) := ⟨i32_lo _, i32_hi _⟩
  obtain rfl : a_4 = a_70 := by have hk9 := hrr11_2 o0 ko0; rw [hfo_67, hfo_1] at hk9; exact (Option.some.inj hk9).symm
  obtain rfl : a_5 = a_71 := by have hk9 := hrr11_3 o0 ko0; rw [hfo_67, hfo_1] at hk9; exact (Option.some.inj hk9).symm
  obtain rfl : a_7 = a_73 := by have hk9 := hrr11_5 o0 ko0; rw [hfo_67, hfo_1] at hk9; exact (Option.some.inj hk9).symm
  obtain rfl : a_8 = a_74 := by have hk9 := hrr11_6 o0 ko0; rw [hfo_67, hfo_1] at hk9; exact (Option.some.inj hk9).symm
  obtain rfl : a_9 = a_75 := by have hk9 := hrr11_7 o0 ko0; rw [hfo_67, hfo_1] at hk9; exact (Option.some.inj hk9).symm
  obtain rfl : a_11 = a_77 := by have hk9 := hrr11_9 o0 ko0; rw [hfo_67, hfo_1] at hk9; exact (Option.some.inj hk9).symm
  obtain rfl : a_12 = a_78 := by have hk9 := hrr11_10 o0 ko0; rw [hfo_67, hfo_1] at hk9; exact (Option.some.inj hk9).symm
  obtain rfl : a_18 = a_84 := by have hk9 := hrr11_16 o0 ko0; rw [hfo_67, hfo_1] at hk9; exact (Option.some.inj hk9).symm
  obtain rfl : v_10 = v_76 := by have hk9 := hfc_53 o0 ko0; rw [hfo_67, hfo_48] at hk9; exact (Option.some.inj hk9).symm
  have hqhpost_62 := hpost_62 v_3 v_69 v_14 v_80 (by rw [hfo_48]; rfl) (by rw [hfo_48]; rfl) (by rw [hfo_67]; rfl) (by rw [hfo_67]; rfl)
  have hT_87 := hTc_64 a_5 (by rw [hfo_67]; rfl)
  obtain ⟨g_89, hfo_88, hbg_89⟩ := un_540 (hG _ ma_18) ka_18
  obtain ⟨a_91, v_92, a_93, a_94, a_95, a_96, v_97, a_98, a_99, a_100, a_101, a_102, v_103, a_104, a_105, a_106, hfo_90, ⟨ma_91, ka_91⟩, bv_92, ⟨ma_93, ka_93⟩, ⟨ma_94, ka_94⟩, ⟨ma_95, ka_95⟩, ⟨ma_96, ka_96⟩, bv_97, ⟨ma_98, ka_98⟩, ⟨ma_99, ka_99⟩, ⟨ma_100, ka_100⟩, ⟨ma_101, ka_101⟩, ⟨ma_102, ka_102⟩, bv_103, ⟨ma_104, ka_104⟩, ⟨ma_105, ka_105⟩, ⟨ma_106, ka_106⟩⟩ := un_7 (hG _ ma_5) ka_5
  have htwx_50 := hxp_63 a_18 g_89 a_5 v_92 (by rw [hfo_67]; rfl) hfo_88 (by rw [hfo_67]; rfl) (by rw [hfo_90]; rfl)
  refine lv_istore_n (lv' := [(2, .int x_50), (0, .ref o0), (1, .int p1)]) hx hb dX11_findWords_11 rfl hl (by decide) rfl (fun ls hl => ?_)
  refine lv_iload_n hx hb dX11_findWords_12 rfl (lv_at hl 0 rfl) ?_
  refine lv_iconst (v := (-1)) hx hb dX11_findWords_13 (by decide) ?_
  refine lv_icmp_ne (tgt := 19) hx hb dX11_findWords_14 (by decide) (fun c_107 => ?_) (fun c_107 => ?_)
  · skip
    rw [← Int32.toInt_inj, ti_m1] at c_107
    refine lv_aload_n hx hb dX11_findWords_19 rfl (lv_at hl 1 rfl) ?_
    refine tk_getP (D := (dC, dI)) (ci := 11) (v := .ref a_4) (C := RX11) (T := TX11) (N := 19) hx hb hU inlX11 hown hK hP mo0 hfo_67 rfl 2 (by decide) (hU _ wd_17) (fun _ h9 => h9) rfl dX11_findWords_20 ?_
    refine lv_aload_n hx hb dX11_findWords_23 rfl (lv_at hl 1 rfl) ?_
    refine tk_getP (D := (dC, dI)) (ci := 11) (v := .ref a_18) (C := RX11) (T := TX11) (N := 19) hx hb hU inlX11 hown hK hP mo0 hfo_67 rfl 16 (by decide) (hU _ wd_42) (fun _ h9 => h9) rfl dX11_findWords_24 ?_
    refine lv_iload_n hx hb dX11_findWords_27 rfl (lv_at hl 0 rfl) ?_
    refine tk_VvP (As := [.ref a_18, .int x_50]) (rest := []) (n := 2) hx hb hml hown hU hN hZ (s_X3_takeSigns_k3_a540_w l (dC, dI) cI cL cZ cR cG cH Z kd L f_51 hG a_4 ma_4 ka_4 a_18 ma_18 ka_18 x_50 (fun g9 h9 j hj => by rw [hfo_88] at h9; cases h9; have h8 := htwx_50 j (by omega); omega)) wd_718 wd_719 wd_720 wd_16 wd_721 (by decide +kernel) ⟨Nat.le_of_ble_eq_true rfl, Nat.le_of_ble_eq_true rfl⟩ hK hP hD hS ma_4 hfo_66 3 rfl rfl rfl hl.1 rfl (Nat.le_of_ble_eq_true rfl) dX11_findWords_28 ⟨Nat.le_of_ble_eq_true rfl, Nat.le_of_ble_eq_true rfl⟩ (fun f_109 H locs hw hP hD hS => ?_)
    obtain ⟨hG, hkc_110, hrc_111, hrc_112⟩ := hw
    have hfo_114 : f_109 o0 = .inr (11, [.ref a_68, .int v_69, .ref a_4, .ref a_5, .ref a_72, .ref a_7, .ref a_8, .ref a_9, .int v_10, .ref a_11, .ref a_12, .ref a_79, .int v_80, .int v_81, .ref a_82, .int v_83, .ref a_18, .ref a_85, .int v_86]) := by rw [hkc_110 o0 (by rw [ko0]; decide) (by rw [ko0]; decide)]; exact hfo_67
    have hfo_115 : f_109 a_18 = .inl (cI, 16, .inl g_89) := by rw [hkc_110 a_18 (by rw [ka_18]; decide) (by rw [ka_18]; decide)]; exact hfo_88
    have hfo_116 : f_109 a_5 = .inr (7, [.ref a_91, .int v_92, .ref a_93, .ref a_94, .ref a_95, .ref a_96, .int v_97, .ref a_98, .ref a_99, .ref a_100, .ref a_101, .ref a_102, .int v_103, .ref a_104, .ref a_105, .ref a_106]) := by rw [hkc_110 a_5 (by rw [ka_5]; decide) (by rw [ka_5]; decide)]; exact hfo_90
    have hfr0 : ∀ b, kd b ≠ 1 → kd b ≠ 3 → kd b ≠ 10 → kd b ≠ 11 → kd b ≠ 507 → kd b ≠ 517 → kd b ≠ 518 → kd b ≠ 519 → kd b ≠ 520 → kd b ≠ 521 → kd b ≠ 522 → kd b ≠ 523 → kd b ≠ 524 → kd b ≠ 525 → kd b ≠ 526 → kd b ≠ 527 → kd b ≠ 540 → f_109 b = f b := fun b q1 q3 q10 q11 q507 q517 q518 q519 q520 q521 q522 q523 q524 q525 q526 q527 q540 => (hkc_110 b q3 q507).trans (hfr0 b q1 q3 q10 q11 q507 q517 q518 q519 q520 q521 q522 q523 q524 q525 q526 q527 q540)
    have hfr11_8 : ∀ b, kd b = 11 → fldI (f_109 b) 8 = fldI (f b) 8 := fun b kb => (congrArg (fun x => fldI x 8) (hkc_110 b (by rw [kb]; decide) (by rw [kb]; decide))).trans (hfr11_8 b kb)
    have hrr1_0 : ∀ b, kd b = 1 → fldR (f_109 b) 0 = fldR (f b) 0 := fun b kb => (congrArg (fun x => fldR x 0) (hkc_110 b (by rw [kb]; decide) (by rw [kb]; decide))).trans (hrr1_0 b kb)
    have hrr1_1 : ∀ b, kd b = 1 → fldR (f_109 b) 1 = fldR (f b) 1 := fun b kb => (congrArg (fun x => fldR x 1) (hkc_110 b (by rw [kb]; decide) (by rw [kb]; decide))).trans (hrr1_1 b kb)
    have hrr3_0 : ∀ b, kd b = 3 → fldR (f_109 b) 0 = fldR (f b) 0 := fun b kb => (hrc_111 b kb).trans (hrr3_0 b kb)
    have hrr3_3 : ∀ b, kd b = 3 → fldR (f_109 b) 3 = fldR (f b) 3 := fun b kb => (hrc_112 b kb).trans (hrr3_3 b kb)
    have hrr11_2 : ∀ b, kd b = 11 → fldR (f_109 b) 2 = fldR (f b) 2 := fun b kb => (congrArg (fun x => fldR x 2) (hkc_110 b (by rw [kb]; decide) (by rw [kb]; decide))).trans (hrr11_2 b kb)
    have hrr11_3 : ∀ b, kd b = 11 → fldR (f_109 b) 3 = fldR (f b) 3 := fun b kb => (congrArg (fun x => fldR x 3) (hkc_110 b (by rw [kb]; decide) (by rw [kb]; decide))).trans (hrr11_3 b kb)
    have hrr11_5 : ∀ b, kd b = 11 → fldR (f_109 b) 5 = fldR (f b) 5 := fun b kb => (congrArg (fun x => fldR x 5) (hkc_110 b (by rw [kb]; decide) (by rw [kb]; decide))).trans (hrr11_5 b kb)
    have hrr11_6 : ∀ b, kd b = 11 → fldR (f_109 b) 6 = fldR (f b) 6 := fun b kb => (congrArg (fun x => fldR x 6) (hkc_110 b (by rw [kb]; decide) (by rw [kb]; decide))).trans (hrr11_6 b kb)
    have hrr11_7 : ∀ b, kd b = 11 → fldR (f_109 b) 7 = fldR (f b) 7 := fun b kb => (congrArg (fun x => fldR x 7) (hkc_110 b (by rw [kb]; decide) (by rw [kb]; decide))).trans (hrr11_7 b kb)
    have hrr11_9 : ∀ b, kd b = 11 → fldR (f_109 b) 9 = fldR (f b) 9 := fun b kb => (congrArg (fun x => fldR x 9) (hkc_110 b (by rw [kb]; decide) (by rw [kb]; decide))).trans (hrr11_9 b kb)
    have hrr11_10 : ∀ b, kd b = 11 → fldR (f_109 b) 10 = fldR (f b) 10 := fun b kb => (congrArg (fun x => fldR x 10) (hkc_110 b (by rw [kb]; decide) (by rw [kb]; decide))).trans (hrr11_10 b kb)
    have hrr11_16 : ∀ b, kd b = 11 → fldR (f_109 b) 16 = fldR (f b) 16 := fun b kb => (congrArg (fun x => fldR x 16) (hkc_110 b (by rw [kb]; decide) (by rw [kb]; decide))).trans (hrr11_16 b kb)
    have hT_87 : trel kd 7 508 510 515 4 f_109 a_5 := hT_87.keep (fun b q => hkc_110 b (by rw [q]; decide) (by rw [q]; decide)) (fun b q => hkc_110 b (by rw [q]; decide) (by rw [q]; decide)) (fun b q => hkc_110 b (by rw [q]; decide) (by rw [q]; decide)) (fun b q => hkc_110 b (by rw [q]; decide) (by rw [q]; decide)) (fun b q => congrArg (fun x => fldI x 1) (hkc_110 b (by rw [q]; decide) (by rw [q]; decide)))
    have hT1 : drel kd 1 521 522 f_109 a_25 := hT1.keep (fun b q => congrArg (fun x => fldI x 5) (hkc_110 b (by rw [q]; decide) (by rw [q]; decide))) (fun b q => congrArg (fun x => fldR x 0) (hkc_110 b (by rw [q]; decide) (by rw [q]; decide))) (fun b q => congrArg (fun x => fldR x 1) (hkc_110 b (by rw [q]; decide) (by rw [q]; decide))) (fun b q => hkc_110 b (by rw [q]; decide) (by rw [q]; decide)) (fun b q => hkc_110 b (by rw [q]; decide) (by rw [q]; decide))
    obtain ⟨a_118, a_119, a_120, a_121, a_122, v_123, v_124, v_125, v_126, v_127, v_128, v_129, a_130, a_131, a_132, v_133, a_134, a_135, hfo_117, ⟨ma_118, ka_118⟩, ⟨ma_119, ka_119⟩, ⟨ma_120, ka_120⟩, ⟨ma_121, ka_121⟩, ⟨ma_122, ka_122⟩, bv_123, bv_124, bv_125, ⟨ma_130, ka_130⟩, ⟨ma_131, ka_131⟩, ⟨ma_132, ka_132⟩, bv_133, ⟨ma_134, ka_134⟩, ⟨ma_135, ka_135⟩⟩ := un_3 (hG _ ma_4) ka_4
    have bv_126 : ((-2147483648) ≤ v_126.toInt ∧ v_126.toInt ≤ 2147483647) := ⟨i32_lo _, i32_hi _⟩
    have bv_127 : ((-2147483648) ≤ v_127.toInt ∧ v_127.toInt ≤ 2147483647) := ⟨i32_lo _, i32_hi _⟩
    have bv_128 : ((-2147483648) ≤ v_128.toInt ∧ v_128.toInt ≤ 2147483647) := ⟨i32_lo _, i32_hi _⟩
    have bv_129 : ((-2147483648) ≤ v_129.toInt ∧ v_129.toInt ≤ 2147483647) := ⟨i32_lo _, i32_hi _⟩
    obtain rfl : a_22 = a_118 := by have hk9 := hrr3_0 a_4 ka_4; rw [hfo_117, hfo_21] at hk9; exact (Option.some.inj hk9).symm
    obtain rfl : a_25 = a_121 := by have hk9 := hrr3_3 a_4 ka_4; rw [hfo_117, hfo_21] at hk9; exact (Option.some.inj hk9).symm
    refine lv_aload_n hx hb dX11_findWords_31 rfl (lv_at hl 1 rfl) ?_
    refine tk_getP (D := (dC, dI)) (ci := 11) (v := .ref a_4) (C := RX11) (T := TX11) (N := 19) hx hb hU inlX11 hown hK hP mo0 hfo_114 rfl 2 (by decide) (hU _ wd_17) (fun _ h9 => h9) rfl dX11_findWords_32 ?_
    refine lv_iload_n hx hb dX11_findWords_35 rfl (lv_at hl 2 rfl) ?_
    refine lv_aload_n hx hb dX11_findWords_36 rfl (lv_at hl 1 rfl) ?_
    refine tk_getP (D := (dC, dI)) (ci := 11) (v := .ref a_7) (C := RX11) (T := TX11) (N := 19) hx hb hU inlX11 hown hK hP mo0 hfo_114 rfl 5 (by decide) (hU _ wd_25) (fun _ h9 => h9) rfl dX11_findWords_37 ?_
    obtain ⟨v_137, v_138, a_139, a_140, a_141, v_142, a_143, a_144, a_145, hfo_136, bv_138, ⟨ma_139, ka_139⟩, ⟨ma_140, ka_140⟩, ⟨ma_141, ka_141⟩, ⟨ma_143, ka_143⟩, ⟨ma_144, ka_144⟩, ⟨ma_145, ka_145⟩⟩ := un_6 (hG _ ma_7) ka_7
    have bv_137 : ((-2147483648) ≤ v_137.toInt ∧ v_137.toInt ≤ 2147483647) := ⟨i32_lo _, i32_hi _⟩
    have bv_142 : ((-2147483648) ≤ v_142.toInt ∧ v_142.toInt ≤ 2147483647) := ⟨i32_lo _, i32_hi _⟩
    refine tk_getP (D := (dC, dI)) (ci := 6) (v := .int v_137) (C := RX6) (T := TX6) (N := 9) hx hb hU inlX6 hown hK hP ma_7 hfo_136 rfl 0 (by decide) (hU _ wd_677) (fun _ h9 => h9) rfl dX11_findWords_40 ?_
    refine lv_aload_n hx hb dX11_findWords_43 rfl (lv_at hl 1 rfl) ?_
    refine tk_getP (D := (dC, dI)) (ci := 11) (v := .ref a_7) (C := RX11) (T := TX11) (N := 19) hx hb hU inlX11 hown hK hP mo0 hfo_114 rfl 5 (by decide) (hU _ wd_25) (fun _ h9 => h9) rfl dX11_findWords_44 ?_
    refine tk_getP (D := (dC, dI)) (ci := 6) (v := .int v_138) (C := RX6) (T := TX6) (N := 9) hx hb hU inlX6 hown hK hP ma_7 hfo_136 rfl 1 (by decide) (hU _ wd_694) (fun _ h9 => h9) rfl dX11_findWords_47 ?_
    refine tk_VvP (As := [.int p1, .int v_137, .int v_138]) (rest := []) (n := 3) hx hb hml hown hU hN hZ (s_X3_collect_k3 l (dC, dI) cI cL cZ cR cG cH Z kd L f_109 hG a_4 ma_4 ka_4 p1 (by constructor <;> omega) v_137 v_138 (fun d9 h9 => by rw [hfo_117] at h9; obtain rfl := Option.some.inj h9; exact hT1)) wd_728 wd_729 wd_730 wd_16 wd_731 (by decide +kernel) ⟨Nat.le_of_ble_eq_true rfl, Nat.le_of_ble_eq_true rfl⟩ hK hP hD hS ma_4 hfo_117 3 rfl rfl rfl hl.1 rfl (Nat.le_of_ble_eq_true rfl) dX11_findWords_50 ⟨Nat.le_of_ble_eq_true rfl, Nat.le_of_ble_eq_true rfl⟩ (fun f_147 H locs hw hP hD hS => ?_)
    obtain ⟨hG, hkc_148, hrc_149, hrc_150, hrc_151, hrc_152, hTc_153⟩ := hw
    have hfo_155 : f_147 o0 = .inr (11, [.ref a_68, .int v_69, .ref a_4, .ref a_5, .ref a_72, .ref a_7, .ref a_8, .ref a_9, .int v_10, .ref a_11, .ref a_12, .ref a_79, .int v_80, .int v_81, .ref a_82, .int v_83, .ref a_18, .ref a_85, .int v_86]) := by rw [hkc_148 o0 (by rw [ko0]; decide) (by rw [ko0]; decide) (by rw [ko0]; decide) (by rw [ko0]; decide) (by rw [ko0]; decide) (by rw [ko0]; decide) (by rw [ko0]; decide) (by rw [ko0]; decide) (by rw [ko0]; decide) (by rw [ko0]; decide) (by rw [ko0]; decide) (by rw [ko0]; decide) (by rw [ko0]; decide) (by rw [ko0]; decide)]; exact hfo_114
    have hfo_156 : f_147 a_18 = .inl (cI, 16, .inl g_89) := by rw [hkc_148 a_18 (by rw [ka_18]; decide) (by rw [ka_18]; decide) (by rw [ka_18]; decide) (by rw [ka_18]; decide) (by rw [ka_18]; decide) (by rw [ka_18]; decide) (by rw [ka_18]; decide) (by rw [ka_18]; decide) (by rw [ka_18]; decide) (by rw [ka_18]; decide) (by rw [ka_18]; decide) (by rw [ka_18]; decide) (by rw [ka_18]; decide) (by rw [ka_18]; decide)]; exact hfo_115
    have hfo_157 : f_147 a_5 = .inr (7, [.ref a_91, .int v_92, .ref a_93, .ref a_94, .ref a_95, .ref a_96, .int v_97, .ref a_98, .ref a_99, .ref a_100, .ref a_101, .ref a_102, .int v_103, .ref a_104, .ref a_105, .ref a_106]) := by rw [hkc_148 a_5 (by rw [ka_5]; decide) (by rw [ka_5]; decide) (by rw [ka_5]; decide) (by rw [ka_5]; decide) (by rw [ka_5]; decide) (by rw [ka_5]; decide) (by rw [ka_5]; decide) (by rw [ka_5]; decide) (by rw [ka_5]; decide) (by rw [ka_5]; decide) (by rw [ka_5]; decide) (by rw [ka_5]; decide) (by rw [ka_5]; decide) (by rw [ka_5]; decide)]; exact hfo_116
    have hfo_158 : f_147 a_7 = .inr (6, [.int v_137, .int v_138, .ref a_139, .ref a_140, .ref a_141, .int v_142, .ref a_143, .ref a_144, .ref a_145]) := by rw [hkc_148 a_7 (by rw [ka_7]; decide) (by rw [ka_7]; decide) (by rw [ka_7]; decide) (by rw [ka_7]; decide) (by rw [ka_7]; decide) (by rw [ka_7]; decide) (by rw [ka_7]; decide) (by rw [ka_7]; decide) (by rw [ka_7]; decide) (by rw [ka_7]; decide) (by rw [ka_7]; decide) (by rw [ka_7]; decide) (by rw [ka_7]; decide) (by rw [ka_7]; decide)]; exact hfo_136
    have hfr0 : ∀ b, kd b ≠ 1 → kd b ≠ 3 → kd b ≠ 10 → kd b ≠ 11 → kd b ≠ 507 → kd b ≠ 517 → kd b ≠ 518 → kd b ≠ 519 → kd b ≠ 520 → kd b ≠ 521 → kd b ≠ 522 → kd b ≠ 523 → kd b ≠ 524 → kd b ≠ 525 → kd b ≠ 526 → kd b ≠ 527 → kd b ≠ 540 → f_147 b = f b := fun b q1 q3 q10 q11 q507 q517 q518 q519 q520 q521 q522 q523 q524 q525 q526 q527 q540 => (hkc_148 b q1 q3 q10 q517 q518 q519 q520 q521 q522 q523 q524 q525 q526 q527).trans (hfr0 b q1 q3 q10 q11 q507 q517 q518 q519 q520 q521 q522 q523 q524 q525 q526 q527 q540)
    have hfr11_8 : ∀ b, kd b = 11 → fldI (f_147 b) 8 = fldI (f b) 8 := fun b kb => (congrArg (fun x => fldI x 8) (hkc_148 b (by rw [kb]; decide) (by rw [kb]; decide) (by rw [kb]; decide) (by rw [kb]; decide) (by rw [kb]; decide) (by rw [kb]; decide) (by rw [kb]; decide) (by rw [kb]; decide) (by rw [kb]; decide) (by rw [kb]; decide) (by rw [kb]; decide) (by rw [kb]; decide) (by rw [kb]; decide) (by rw [kb]; decide))).trans (hfr11_8 b kb)
    have hrr1_0 : ∀ b, kd b = 1 → fldR (f_147 b) 0 = fldR (f b) 0 := fun b kb => (hrc_149 b kb).trans (hrr1_0 b kb)
    have hrr1_1 : ∀ b, kd b = 1 → fldR (f_147 b) 1 = fldR (f b) 1 := fun b kb => (hrc_150 b kb).trans (hrr1_1 b kb)
    have hrr3_0 : ∀ b, kd b = 3 → fldR (f_147 b) 0 = fldR (f b) 0 := fun b kb => (hrc_151 b kb).trans (hrr3_0 b kb)
    have hrr3_3 : ∀ b, kd b = 3 → fldR (f_147 b) 3 = fldR (f b) 3 := fun b kb => (hrc_152 b kb).trans (hrr3_3 b kb)
    have hrr11_2 : ∀ b, kd b = 11 → fldR (f_147 b) 2 = fldR (f b) 2 := fun b kb => (congrArg (fun x => fldR x 2) (hkc_148 b (by rw [kb]; decide) (by rw [kb]; decide) (by rw [kb]; decide) (by rw [kb]; decide) (by rw [kb]; decide) (by rw [kb]; decide) (by rw [kb]; decide) (by rw [kb]; decide) (by rw [kb]; decide) (by rw [kb]; decide) (by rw [kb]; decide) (by rw [kb]; decide) (by rw [kb]; decide) (by rw [kb]; decide))).trans (hrr11_2 b kb)
    have hrr11_3 : ∀ b, kd b = 11 → fldR (f_147 b) 3 = fldR (f b) 3 := fun b kb => (congrArg (fun x => fldR x 3) (hkc_148 b (by rw [kb]; decide) (by rw [kb]; decide) (by rw [kb]; decide) (by rw [kb]; decide) (by rw [kb]; decide) (by rw [kb]; decide) (by rw [kb]; decide) (by rw [kb]; decide) (by rw [kb]; decide) (by rw [kb]; decide) (by rw [kb]; decide) (by rw [kb]; decide) (by rw [kb]; decide) (by rw [kb]; decide))).trans (hrr11_3 b kb)
    have hrr11_5 : ∀ b, kd b = 11 → fldR (f_147 b) 5 = fldR (f b) 5 := fun b kb => (congrArg (fun x => fldR x 5) (hkc_148 b (by rw [kb]; decide) (by rw [kb]; decide) (by rw [kb]; decide) (by rw [kb]; decide) (by rw [kb]; decide) (by rw [kb]; decide) (by rw [kb]; decide) (by rw [kb]; decide) (by rw [kb]; decide) (by rw [kb]; decide) (by rw [kb]; decide) (by rw [kb]; decide) (by rw [kb]; decide) (by rw [kb]; decide))).trans (hrr11_5 b kb)
    have hrr11_6 : ∀ b, kd b = 11 → fldR (f_147 b) 6 = fldR (f b) 6 := fun b kb => (congrArg (fun x => fldR x 6) (hkc_148 b (by rw [kb]; decide) (by rw [kb]; decide) (by rw [kb]; decide) (by rw [kb]; decide) (by rw [kb]; decide) (by rw [kb]; decide) (by rw [kb]; decide) (by rw [kb]; decide) (by rw [kb]; decide) (by rw [kb]; decide) (by rw [kb]; decide) (by rw [kb]; decide) (by rw [kb]; decide) (by rw [kb]; decide))).trans (hrr11_6 b kb)
    have hrr11_7 : ∀ b, kd b = 11 → fldR (f_147 b) 7 = fldR (f b) 7 := fun b kb => (congrArg (fun x => fldR x 7) (hkc_148 b (by rw [kb]; decide) (by rw [kb]; decide) (by rw [kb]; decide) (by rw [kb]; decide) (by rw [kb]; decide) (by rw [kb]; decide) (by rw [kb]; decide) (by rw [kb]; decide) (by rw [kb]; decide) (by rw [kb]; decide) (by rw [kb]; decide) (by rw [kb]; decide) (by rw [kb]; decide) (by rw [kb]; decide))).trans (hrr11_7 b kb)
    have hrr11_9 : ∀ b, kd b = 11 → fldR (f_147 b) 9 = fldR (f b) 9 := fun b kb => (congrArg (fun x => fldR x 9) (hkc_148 b (by rw [kb]; decide) (by rw [kb]; decide) (by rw [kb]; decide) (by rw [kb]; decide) (by rw [kb]; decide) (by rw [kb]; decide) (by rw [kb]; decide) (by rw [kb]; decide) (by rw [kb]; decide) (by rw [kb]; decide) (by rw [kb]; decide) (by rw [kb]; decide) (by rw [kb]; decide) (by rw [kb]; decide))).trans (hrr11_9 b kb)
    have hrr11_10 : ∀ b, kd b = 11 → fldR (f_147 b) 10 = fldR (f b) 10 := fun b kb => (congrArg (fun x => fldR x 10) (hkc_148 b (by rw [kb]; decide) (by rw [kb]; decide) (by rw [kb]; decide) (by rw [kb]; decide) (by rw [kb]; decide) (by rw [kb]; decide) (by rw [kb]; decide) (by rw [kb]; decide) (by rw [kb]; decide) (by rw [kb]; decide) (by rw [kb]; decide) (by rw [kb]; decide) (by rw [kb]; decide) (by rw [kb]; decide))).trans (hrr11_10 b kb)
    have hrr11_16 : ∀ b, kd b = 11 → fldR (f_147 b) 16 = fldR (f b) 16 := fun b kb => (congrArg (fun x => fldR x 16) (hkc_148 b (by rw [kb]; decide) (by rw [kb]; decide) (by rw [kb]; decide) (by rw [kb]; decide) (by rw [kb]; decide) (by rw [kb]; decide) (by rw [kb]; decide) (by rw [kb]; decide) (by rw [kb]; decide) (by rw [kb]; decide) (by rw [kb]; decide) (by rw [kb]; decide) (by rw [kb]; decide) (by rw [kb]; decide))).trans (hrr11_16 b kb)
    have hT_87 : trel kd 7 508 510 515 4 f_147 a_5 := hT_87.keep (fun b q => hkc_148 b (by rw [q]; decide) (by rw [q]; decide) (by rw [q]; decide) (by rw [q]; decide) (by rw [q]; decide) (by rw [q]; decide) (by rw [q]; decide) (by rw [q]; decide) (by rw [q]; decide) (by rw [q]; decide) (by rw [q]; decide) (by rw [q]; decide) (by rw [q]; decide) (by rw [q]; decide)) (fun b q => hkc_148 b (by rw [q]; decide) (by rw [q]; decide) (by rw [q]; decide) (by rw [q]; decide) (by rw [q]; decide) (by rw [q]; decide) (by rw [q]; decide) (by rw [q]; decide) (by rw [q]; decide) (by rw [q]; decide) (by rw [q]; decide) (by rw [q]; decide) (by rw [q]; decide) (by rw [q]; decide)) (fun b q => hkc_148 b (by rw [q]; decide) (by rw [q]; decide) (by rw [q]; decide) (by rw [q]; decide) (by rw [q]; decide) (by rw [q]; decide) (by rw [q]; decide) (by rw [q]; decide) (by rw [q]; decide) (by rw [q]; decide) (by rw [q]; decide) (by rw [q]; decide) (by rw [q]; decide) (by rw [q]; decide)) (fun b q => hkc_148 b (by rw [q]; decide) (by rw [q]; decide) (by rw [q]; decide) (by rw [q]; decide) (by rw [q]; decide) (by rw [q]; decide) (by rw [q]; decide) (by rw [q]; decide) (by rw [q]; decide) (by rw [q]; decide) (by rw [q]; decide) (by rw [q]; decide) (by rw [q]; decide) (by rw [q]; decide)) (fun b q => congrArg (fun x => fldI x 1) (hkc_148 b (by rw [q]; decide) (by rw [q]; decide) (by rw [q]; decide) (by rw [q]; decide) (by rw [q]; decide) (by rw [q]; decide) (by rw [q]; decide) (by rw [q]; decide) (by rw [q]; decide) (by rw [q]; decide) (by rw [q]; decide) (by rw [q]; decide) (by rw [q]; decide) (by rw [q]; decide)))
    obtain ⟨a_160, a_161, a_162, a_163, a_164, v_165, v_166, v_167, v_168, v_169, v_170, v_171, a_172, a_173, a_174, v_175, a_176, a_177, hfo_159, ⟨ma_160, ka_160⟩, ⟨ma_161, ka_161⟩, ⟨ma_162, ka_162⟩, ⟨ma_163, ka_163⟩, ⟨ma_164, ka_164⟩, bv_165, bv_166, bv_167, ⟨ma_172, ka_172⟩, ⟨ma_173, ka_173⟩, ⟨ma_174, ka_174⟩, bv_175, ⟨ma_176, ka_176⟩, ⟨ma_177, ka_177⟩⟩ := un_3 (hG _ ma_4) ka_4
    have bv_168 : ((-2147483648) ≤ v_168.toInt ∧ v_168.toInt ≤ 2147483647) := ⟨i32_lo _, i32_hi _⟩
    have bv_169 : ((-2147483648) ≤ v_169.toInt ∧ v_169.toInt ≤ 2147483647) := ⟨i32_lo _, i32_hi _⟩
    have bv_170 : ((-2147483648) ≤ v_170.toInt ∧ v_170.toInt ≤ 2147483647) := ⟨i32_lo _, i32_hi _⟩
    have bv_171 : ((-2147483648) ≤ v_171.toInt ∧ v_171.toInt ≤ 2147483647) := ⟨i32_lo _, i32_hi _⟩
    obtain rfl : a_22 = a_160 := by have hk9 := hrr3_0 a_4 ka_4; rw [hfo_159, hfo_21] at hk9; exact (Option.some.inj hk9).symm
    obtain rfl : a_25 = a_163 := by have hk9 := hrr3_3 a_4 ka_4; rw [hfo_159, hfo_21] at hk9; exact (Option.some.inj hk9).symm
    have hT_178 := hTc_153 a_25 (by rw [hfo_159]; rfl)
    refine lv_aload_n hx hb dX11_findWords_53 rfl (lv_at hl 1 rfl) ?_
    refine tk_getP (D := (dC, dI)) (ci := 11) (v := .ref a_72) (C := RX11) (T := TX11) (N := 19) hx hb hU inlX11 hown hK hP mo0 hfo_155 rfl 4 (by decide) (hU _ wd_21) (fun _ h9 => h9) rfl dX11_findWords_54 ?_
    obtain ⟨a_180, v_181, v_182, hfo_179, ⟨ma_180, ka_180⟩, bv_181, bv_182⟩ := un_10 (hG _ ma_72) ka_72
    refine tk_getP (D := (dC, dI)) (ci := 10) (v := .int v_182) (C := RX10) (T := TX10) (N := 3) hx hb hU inlX10 hown hK hP ma_72 hfo_179 rfl 2 (by decide) (hU _ wd_707) (fun _ h9 => h9) rfl dX11_findWords_57 ?_
    refine lv_if_eq (tgt := 73) hx hb dX11_findWords_60 (by decide) (fun c_183 => ?_) (fun c_183 => ?_)
    · skip
      rw [← Int32.toInt_inj, ti_0] at c_183
      refine lv_aload_n hx hb dX11_findWords_73 rfl (lv_at hl 1 rfl) ?_
      refine tk_getP (D := (dC, dI)) (ci := 11) (v := .ref a_72) (C := RX11) (T := TX11) (N := 19) hx hb hU inlX11 hown hK hP mo0 hfo_155 rfl 4 (by decide) (hU _ wd_21) (fun _ h9 => h9) rfl dX11_findWords_74 ?_
      refine tk_getP (D := (dC, dI)) (ci := 10) (v := .int v_181) (C := RX10) (T := TX10) (N := 3) hx hb hU inlX10 hown hK hP ma_72 hfo_179 rfl 1 (by decide) (hU _ wd_708) (fun _ h9 => h9) rfl dX11_findWords_77 ?_
      exact W.iret (v := v_181) hx hb hr (fun t ht hW => ⟨⟨v_181, f_147, rfl, ⟨hG, (by constructor <;> omega), hfr0, hfr11_8, hrr1_0, hrr1_1, hrr3_0, hrr3_3, hrr11_2, hrr11_3, hrr11_5, hrr11_6, hrr11_7, hrr11_9, hrr11_10, hrr11_16, (by intro w1 z1 e1 d1; rw [hfo_1] at e1; rw [hfo_155] at d1; obtain rfl := Option.some.inj e1; obtain rfl := Option.some.inj d1; omega), (fun d9 h9 => by rw [hfo_155] at h9; obtain rfl := Option.some.inj h9; exact hT_87), (fun r9 d9 h8 h9 => by rw [hfo_155] at h8; obtain rfl := Option.some.inj h8; rw [hfo_159] at h9; obtain rfl := Option.some.inj h9; exact hT_178)⟩, by rw [ht]; exact hP, va_K.moved hW.alike hK, pl_in hD⟩, hS.F ht⟩) hS.2.2 dX11_findWords_80
    · skip
      rw [← Int32.toInt_inj, ti_0] at c_183
      refine lv_aload_n hx hb dX11_findWords_63 rfl (lv_at hl 1 rfl) ?_
      refine tk_getP (D := (dC, dI)) (ci := 11) (v := .ref a_72) (C := RX11) (T := TX11) (N := 19) hx hb hU inlX11 hown hK hP mo0 hfo_155 rfl 4 (by decide) (hU _ wd_21) (fun _ h9 => h9) rfl dX11_findWords_64 ?_
      refine tk_VvP (As := []) (rest := []) (n := 0) hx hb hml hown hU hN hZ (s_X10_clear_k10 l (dC, dI) cI cL cZ cR cG cH Z kd L f_147 hG a_72 ma_72 ka_72) wd_556 wd_557 wd_558 wd_51 wd_559 (by decide +kernel) ⟨Nat.le_of_ble_eq_true rfl, Nat.le_of_ble_eq_true rfl⟩ hK hP hD hS ma_72 hfo_179 10 rfl rfl rfl hl.1 rfl (Nat.le_of_ble_eq_true rfl) dX11_findWords_67 ⟨Nat.le_of_ble_eq_true rfl, Nat.le_of_ble_eq_true rfl⟩ (fun f_185 H locs hw hP hD hS => ?_)
      obtain ⟨hG, hkc_186⟩ := hw
      have hfo_188 : f_185 o0 = .inr (11, [.ref a_68, .int v_69, .ref a_4, .ref a_5, .ref a_72, .ref a_7, .ref a_8, .ref a_9, .int v_10, .ref a_11, .ref a_12, .ref a_79, .int v_80, .int v_81, .ref a_82, .int v_83, .ref a_18, .ref a_85, .int v_86]) := by rw [hkc_186 o0 (by rw [ko0]; decide)]; exact hfo_155
      have hfo_189 : f_185 a_18 = .inl (cI, 16, .inl g_89) := by rw [hkc_186 a_18 (by rw [ka_18]; decide)]; exact hfo_156
      have hfo_190 : f_185 a_5 = .inr (7, [.ref a_91, .int v_92, .ref a_93, .ref a_94, .ref a_95, .ref a_96, .int v_97, .ref a_98, .ref a_99, .ref a_100, .ref a_101, .ref a_102, .int v_103, .ref a_104, .ref a_105, .ref a_106]) := by rw [hkc_186 a_5 (by rw [ka_5]; decide)]; exact hfo_157
      have hfo_191 : f_185 a_7 = .inr (6, [.int v_137, .int v_138, .ref a_139, .ref a_140, .ref a_141, .int v_142, .ref a_143, .ref a_144, .ref a_145]) := by rw [hkc_186 a_7 (by rw [ka_7]; decide)]; exact hfo_158
      have hfo_192 : f_185 a_4 = .inr (3, [.ref a_22, .ref a_161, .ref a_162, .ref a_25, .ref a_164, .int v_165, .int v_166, .int v_167, .int v_168, .int v_169, .int v_170, .int v_171, .ref a_172, .ref a_173, .ref a_174, .int v_175, .ref a_176, .ref a_177]) := by rw [hkc_186 a_4 (by rw [ka_4]; decide)]; exact hfo_159
      have hfr0 : ∀ b, kd b ≠ 1 → kd b ≠ 3 → kd b ≠ 10 → kd b ≠ 11 → kd b ≠ 507 → kd b ≠ 517 → kd b ≠ 518 → kd b ≠ 519 → kd b ≠ 520 → kd b ≠ 521 → kd b ≠ 522 → kd b ≠ 523 → kd b ≠ 524 → kd b ≠ 525 → kd b ≠ 526 → kd b ≠ 527 → kd b ≠ 540 → f_185 b = f b := fun b q1 q3 q10 q11 q507 q517 q518 q519 q520 q521 q522 q523 q524 q525 q526 q527 q540 => (hkc_186 b q10).trans (hfr0 b q1 q3 q10 q11 q507 q517 q518 q519 q520 q521 q522 q523 q524 q525 q526 q527 q540)
      have hfr11_8 : ∀ b, kd b = 11 → fldI (f_185 b) 8 = fldI (f b) 8 := fun b kb => (congrArg (fun x => fldI x 8) (hkc_186 b (by rw [kb]; decide))).trans (hfr11_8 b kb)
      have hrr1_0 : ∀ b, kd b = 1 → fldR (f_185 b) 0 = fldR (f b) 0 := fun b kb => (congrArg (fun x => fldR x 0) (hkc_186 b (by rw [kb]; decide))).trans (hrr1_0 b kb)
      have hrr1_1 : ∀ b, kd b = 1 → fldR (f_185 b) 1 = fldR (f b) 1 := fun b kb => (congrArg (fun x => fldR x 1) (hkc_186 b (by rw [kb]; decide))).trans (hrr1_1 b kb)
      have hrr3_0 : ∀ b, kd b = 3 → fldR (f_185 b) 0 = fldR (f b) 0 := fun b kb => (congrArg (fun x => fldR x 0) (hkc_186 b (by rw [kb]; decide))).trans (hrr3_0 b kb)
      have hrr3_3 : ∀ b, kd b = 3 → fldR (f_185 b) 3 = fldR (f b) 3 := fun b kb => (congrArg (fun x => fldR x 3) (hkc_186 b (by rw [kb]; decide))).trans (hrr3_3 b kb)
      have hrr11_2 : ∀ b, kd b = 11 → fldR (f_185 b) 2 = fldR (f b) 2 := fun b kb => (congrArg (fun x => fldR x 2) (hkc_186 b (by rw [kb]; decide))).trans (hrr11_2 b kb)
      have hrr11_3 : ∀ b, kd b = 11 → fldR (f_185 b) 3 = fldR (f b) 3 := fun b kb => (congrArg (fun x => fldR x 3) (hkc_186 b (by rw [kb]; decide))).trans (hrr11_3 b kb)
      have hrr11_5 : ∀ b, kd b = 11 → fldR (f_185 b) 5 = fldR (f b) 5 := fun b kb => (congrArg (fun x => fldR x 5) (hkc_186 b (by rw [kb]; decide))).trans (hrr11_5 b kb)
      have hrr11_6 : ∀ b, kd b = 11 → fldR (f_185 b) 6 = fldR (f b) 6 := fun b kb => (congrArg (fun x => fldR x 6) (hkc_186 b (by rw [kb]; decide))).trans (hrr11_6 b kb)
      have hrr11_7 : ∀ b, kd b = 11 → fldR (f_185 b) 7 = fldR (f b) 7 := fun b kb => (congrArg (fun x => fldR x 7) (hkc_186 b (by rw [kb]; decide))).trans (hrr11_7 b kb)
      have hrr11_9 : ∀ b, kd b = 11 → fldR (f_185 b) 9 = fldR (f b) 9 := fun b kb => (congrArg (fun x => fldR x 9) (hkc_186 b (by rw [kb]; decide))).trans (hrr11_9 b kb)
      have hrr11_10 : ∀ b, kd b = 11 → fldR (f_185 b) 10 = fldR (f b) 10 := fun b kb => (congrArg (fun x => fldR x 10) (hkc_186 b (by rw [kb]; decide))).trans (hrr11_10 b kb)
      have hrr11_16 : ∀ b, kd b = 11 → fldR (f_185 b) 16 = fldR (f b) 16 := fun b kb => (congrArg (fun x => fldR x 16) (hkc_186 b (by rw [kb]; decide))).trans (hrr11_16 b kb)
      have hT_87 : trel kd 7 508 510 515 4 f_185 a_5 := hT_87.keep (fun b q => hkc_186 b (by rw [q]; decide)) (fun b q => hkc_186 b (by rw [q]; decide)) (fun b q => hkc_186 b (by rw [q]; decide)) (fun b q => hkc_186 b (by rw [q]; decide)) (fun b q => congrArg (fun x => fldI x 1) (hkc_186 b (by rw [q]; decide)))
      have hT_178 : drel kd 1 521 522 f_185 a_25 := hT_178.keep (fun b q => congrArg (fun x => fldI x 5) (hkc_186 b (by rw [q]; decide))) (fun b q => congrArg (fun x => fldR x 0) (hkc_186 b (by rw [q]; decide))) (fun b q => congrArg (fun x => fldR x 1) (hkc_186 b (by rw [q]; decide))) (fun b q => hkc_186 b (by rw [q]; decide)) (fun b q => hkc_186 b (by rw [q]; decide))
      refine lv_bipush (v := (-2)) hx hb dX11_findWords_70 (by decide) ?_
      exact W.iret (v := (-2)) hx hb hr (fun t ht hW => ⟨⟨(-2), f_185, rfl, ⟨hG, (by decide), hfr0, hfr11_8, hrr1_0, hrr1_1, hrr3_0, hrr3_3, hrr11_2, hrr11_3, hrr11_5, hrr11_6, hrr11_7, hrr11_9, hrr11_10, hrr11_16, (by intro w1 z1 e1 d1; rw [hfo_1] at e1; rw [hfo_188] at d1; obtain rfl := Option.some.inj e1; obtain rfl := Option.some.inj d1; (try rw [ti_m2]) <;> omega), (fun d9 h9 => by rw [hfo_188] at h9; obtain rfl := Option.some.inj h9; exact hT_87), (fun r9 d9 h8 h9 => by rw [hfo_188] at h8; obtain rfl := Option.some.inj h8; rw [hfo_192] at h9; obtain rfl := Option.some.inj h9; exact hT_178)⟩, by rw [ht]; exact hP, va_K.moved hW.alike hK, pl_in hD⟩, hS.F ht⟩) hS.2.2 dX11_findWords_72
  · skip
    rw [← Int32.toInt_inj, ti_m1] at c_107
    refine lv_iconst (v := (-1)) hx hb dX11_findWords_17 (by decide) ?_
    exact W.iret (v := (-1)) hx hb hr (fun t ht hW => ⟨⟨(-1), f_51, rfl, ⟨hG, (by decide), hfr0, hfr11_8, hrr1_0, hrr1_1, hrr3_0, hrr3_3, hrr11_2, hrr11_3, hrr11_5, hrr11_6, hrr11_7, hrr11_9, hrr11_10, hrr11_16, (by intro w1 z1 e1 d1; rw [hfo_1] at e1; rw [hfo_67] at d1; obtain rfl := Option.some.inj e1; obtain rfl := Option.some.inj d1; (try rw [ti_m1]) <;> omega), (fun d9 h9 => by rw [hfo_67] at h9; obtain rfl := Option.some.inj h9; exact hT_87), (fun r9 d9 h8 h9 => by rw [hfo_67] at h8; obtain rfl := Option.some.inj h8; rw [hfo_66] at h9; obtain rfl := Option.some.inj h9; exact hT1)⟩, by rw [ht]; exact hP, va_K.moved hW.alike hK, pl_in hD⟩, hS.F ht⟩) hS.2.2 dX11_findWords_18
set_option maxHeartbeats 8000000 in
set_option maxRecDepth 100000 in
theorem s_X11_say_k11 (l : Launch) (D : va_G) (cI cL cZ cR cG cH : ClassId) (Z : zT) (kd : Nat → Nat) (L : List Nat) (f : Nat → va_E) (hG : GI (okc cI cL cZ cR cG cH L kd) kd L f) (o0 : Nat) (mo0 : o0 ∈ L) (ko0 : kd o0 = 11) (hxtr0 : ∀ d9, fldR (f o0) 3 = some d9 → trel kd 7 508 510 515 4 f d9) (hxtr1 : ∀ r9 d9, fldR (f o0) 2 = some r9 → fldR (f r9) 3 = some d9 → drel kd 1 521 522 f d9) : mPI l D cI cL cZ cR cG cH Z yX11_say cX11_say 1 (some .int) 16 539 [.ref o0] L f (fun (r : Int32) (f9 : Nat → va_E) => GI (okc cI cL cZ cR cG cH L kd) kd L f9 ∧ ((-2147483648) ≤ r.toInt ∧ r.toInt ≤ 2147483647) ∧ (∀ b, kd b ≠ 1 → kd b ≠ 3 → kd b ≠ 10 → kd b ≠ 11 → kd b ≠ 507 → kd b ≠ 517 → kd b ≠ 518 → kd b ≠ 519 → kd b ≠ 520 → kd b ≠ 521 → kd b ≠ 522 → kd b ≠ 523 → kd b ≠ 524 → kd b ≠ 525 → kd b ≠ 526 → kd b ≠ 527 → kd b ≠ 540 → f9 b = f b) ∧ (∀ b, kd b = 11 → fldI (f9 b) 8 = fldI (f b) 8) ∧ (∀ b, kd b = 1 → fldR (f9 b) 0 = fldR (f b) 0) ∧ (∀ b, kd b = 1 → fldR (f9 b) 1 = fldR (f b) 1) ∧ (∀ b, kd b = 3 → fldR (f9 b) 0 = fldR (f b) 0) ∧ (∀ b, kd b = 3 → fldR (f9 b) 3 = fldR (f b) 3) ∧ (∀ b, kd b = 11 → fldR (f9 b) 2 = fldR (f b) 2) ∧ (∀ b, kd b = 11 → fldR (f9 b) 3 = fldR (f b) 3) ∧ (∀ b, kd b = 11 → fldR (f9 b) 5 = fldR (f b) 5) ∧ (∀ b, kd b = 11 → fldR (f9 b) 6 = fldR (f b) 6) ∧ (∀ b, kd b = 11 → fldR (f9 b) 7 = fldR (f b) 7) ∧ (∀ b, kd b = 11 → fldR (f9 b) 9 = fldR (f b) 9) ∧ (∀ b, kd b = 11 → fldR (f9 b) 10 = fldR (f b) 10) ∧ (∀ b, kd b = 11 → fldR (f9 b) 16 = fldR (f b) 16) ∧ (∀ (w1 z1 : Int32), fldI (f o0) 1 = some w1 → fldI (f9 o0) 1 = some z1 → z1.toInt = 0) ∧ (∀ d9, fldR (f9 o0) 3 = some d9 → trel kd 7 508 510 515 4 f9 d9) ∧ (∀ r9 d9, fldR (f9 o0) 2 = some r9 → fldR (f9 r9) 3 = some d9 → drel kd 1 521 522 f9 d9)) := by
  obtain ⟨dC, dI⟩ := D
  refine Met.ofW (cc := cX11_say) (maxL := 1) (ret := (some .int)) (by decide) rfl ?_
  intro p e s m args below meth c s₁ B hml hv
  obtain ⟨rfl, hP, hK, hD0, hN, hZ⟩ := hv
  have hx := B.exec
  have hb := B.bytes
  have hr := B.returns
  have hU : ∀ w ∈ wsU, w.before _ s = true := fun w h => atoms_spec (ws := wU yX11_say cX11_say 1 (some .int)) B.pre w (List.mem_cons_of_mem _ h)
  have hown : s.vm.findClass RX11 = some m.cls := findClass_of_methodNamed B.named
  have hlocks := B.notSynchronized
  have hD := pl_in hD0
  have hS : va_S (fun q => q ∈ L) s.heap s.heap [] := va_S.rf
  have hl := lv_entry ([.ref o0]) (n := 1) (Nat.le_of_ble_eq_true rfl)
  rw [lg_entry_eq]
  generalize (lg_sl ([.ref o0]) ++ List.replicate (1 - (lg_sl ([.ref o0])).length) Slot.unset).toArray = ls at hl ⊢
  have hl : lv_has ls 1 [(0, .ref o0)] := hl
  have hfr0 : ∀ b, kd b ≠ 1 → kd b ≠ 3 → kd b ≠ 10 → kd b ≠ 11 → kd b ≠ 507 → kd b ≠ 517 → kd b ≠ 518 → kd b ≠ 519 → kd b ≠ 520 → kd b ≠ 521 → kd b ≠ 522 → kd b ≠ 523 → kd b ≠ 524 → kd b ≠ 525 → kd b ≠ 526 → kd b ≠ 527 → kd b ≠ 540 → f b = f b := fun _ _ _ _ _ _ _ _ _ _ _ _ _ _ _ _ _ _ => rfl
  have hfr11_8 : ∀ b, kd b = 11 → fldI (f b) 8 = fldI (f b) 8 := fun _ _ => rfl
  have hrr1_0 : ∀ b, kd b = 1 → fldR (f b) 0 = fldR (f b) 0 := fun _ _ => rfl
  have hrr1_1 : ∀ b, kd b = 1 → fldR (f b) 1 = fldR (f b) 1 := fun _ _ => rfl
  have hrr3_0 : ∀ b, kd b = 3 → fldR (f b) 0 = fldR (f b) 0 := fun _ _ => rfl
  have hrr3_3 : ∀ b, kd b = 3 → fldR (f b) 3 = fldR (f b) 3 := fun _ _ => rfl
  have hrr11_2 : ∀ b, kd b = 11 → fldR (f b) 2 = fldR (f b) 2 := fun _ _ => rfl
  have hrr11_3 : ∀ b, kd b = 11 → fldR (f b) 3 = fldR (f b) 3 := fun _ _ => rfl
  have hrr11_5 : ∀ b, kd b = 11 → fldR (f b) 5 = fldR (f b) 5 := fun _ _ => rfl
  have hrr11_6 : ∀ b, kd b = 11 → fldR (f b) 6 = fldR (f b) 6 := fun _ _ => rfl
  have hrr11_7 : ∀ b, kd b = 11 → fldR (f b) 7 = fldR (f b) 7 := fun _ _ => rfl
  have hrr11_9 : ∀ b, kd b = 11 → fldR (f b) 9 = fldR (f b) 9 := fun _ _ => rfl
  have hrr11_10 : ∀ b, kd b = 11 → fldR (f b) 10 = fldR (f b) 10 := fun _ _ => rfl
  have hrr11_16 : ∀ b, kd b = 11 → fldR (f b) 16 = fldR (f b) 16 := fun _ _ => rfl
  obtain ⟨a_2, v_3, a_4, a_5, a_6, a_7, a_8, a_9, v_10, a_11, a_12, a_13, v_14, v_15, a_16, v_17, a_18, a_19, v_20, hfo_1, ⟨ma_2, ka_2⟩, bv_3, ⟨ma_4, ka_4⟩, ⟨ma_5, ka_5⟩, ⟨ma_6, ka_6⟩, ⟨ma_7, ka_7⟩, ⟨ma_8, ka_8⟩, ⟨ma_9, ka_9⟩, bv_10, ⟨ma_11, ka_11⟩, ⟨ma_12, ka_12⟩, ⟨ma_13, ka_13⟩, bv_14, ⟨ma_16, ka_16⟩, bv_17, ⟨ma_18, ka_18⟩, ⟨ma_19, ka_19⟩⟩ := un_11 (hG _ mo0) ko0
  have bv_15 : ((-2147483648) ≤ v_15.toInt ∧ v_15.toInt ≤ 2147483647) := ⟨i32_lo _, i32_hi _⟩
  have bv_20 : ((-2147483648) ≤ v_20.toInt ∧ v_20.toInt ≤ 2147483647) := ⟨i32_lo _, i32_hi _⟩
  have hT0 := hxtr0 a_5 (by rw [hfo_1]; rfl)
  obtain ⟨a_22, a_23, a_24, a_25, a_26, v_27, v_28, v_29, v_30, v_31, v_32, v_33, a_34, a_35, a_36, v_37, a_38, a_39, hfo_21, ⟨ma_22, ka_22⟩, ⟨ma_23, ka_23⟩, ⟨ma_24, ka_24⟩, ⟨ma_25, ka_25⟩, ⟨ma_26, ka_26⟩, bv_27, bv_28, bv_29, ⟨ma_34, ka_34⟩, ⟨ma_35, ka_35⟩, ⟨ma_36, ka_36⟩, bv_37, ⟨ma_38, ka_38⟩, ⟨ma_39, ka_39⟩⟩ := un_3 (hG _ ma_4) ka_4
  have bv_30 : ((-2147483648) ≤ v_30.toInt ∧ v_30.toInt ≤ 2147483647) := ⟨i32_lo _, i32_hi _⟩
  have bv_31 : ((-2147483648) ≤ v_31.toInt ∧ v_31.toInt ≤ 2147483647) := ⟨i32_lo _, i32_hi _⟩
  have bv_32 : ((-2147483648) ≤ v_32.toInt ∧ v_32.toInt ≤ 2147483647) := ⟨i32_lo _, i32_hi _⟩
  have bv_33 : ((-2147483648) ≤ v_33.toInt ∧ v_33.toInt ≤ 2147483647) := ⟨i32_lo _, i32_hi _⟩
  have hT1 := hxtr1 a_4 a_25 (by rw [hfo_1]; rfl) (by rw [hfo_21]; rfl)
  refine lv_aload_n hx hb dX11_say_0 rfl (lv_at hl 0 rfl) ?_
  refine lv_iconst (v := 1) hx hb dX11_say_1 (by decide) ?_
  refine tk_ViP (As := [.int 1]) (rest := []) (n := 1) hx hb hml hown hU hN hZ (s_X11_findWords_k11 l (dC, dI) cI cL cZ cR cG cH Z kd L f hG o0 mo0 ko0 1 (by decide) (fun d9 h9 => by rw [hfo_1] at h9; obtain rfl := Option.some.inj h9; exact hT0) (fun r9 d9 h8 h9 => by rw [hfo_1] at h8; obtain rfl := Option.some.inj h8; rw [hfo_21] at h9; obtain rfl := Option.some.inj h9; exact hT1)) wd_703 wd_704 wd_705 wd_2 wd_706 (by decide +kernel) ⟨Nat.le_of_ble_eq_true rfl, Nat.le_of_ble_eq_true rfl⟩ hK hP hD hS mo0 hfo_1 11 rfl rfl rfl hl.1 rfl (Nat.le_of_ble_eq_true rfl) dX11_say_2 ⟨Nat.le_of_ble_eq_true rfl, Nat.le_of_ble_eq_true rfl⟩ (fun x_40 f_41 H locs hw hP hD hS => ?_)
  obtain ⟨hG, bx_40, hkc_42, hfc_43, hrc_44, hrc_45, hrc_46, hrc_47, hrc_48, hrc_49, hrc_50, hrc_51, hrc_52, hrc_53, hrc_54, hrc_55, hpost_56, hTc_57, hTc_58⟩ := hw
  have hfr0 : ∀ b, kd b ≠ 1 → kd b ≠ 3 → kd b ≠ 10 → kd b ≠ 11 → kd b ≠ 507 → kd b ≠ 517 → kd b ≠ 518 → kd b ≠ 519 → kd b ≠ 520 → kd b ≠ 521 → kd b ≠ 522 → kd b ≠ 523 → kd b ≠ 524 → kd b ≠ 525 → kd b ≠ 526 → kd b ≠ 527 → kd b ≠ 540 → f_41 b = f b := fun b q1 q3 q10 q11 q507 q517 q518 q519 q520 q521 q522 q523 q524 q525 q526 q527 q540 => (hkc_42 b q1 q3 q10 q11 q507 q517 q518 q519 q520 q521 q522 q523 q524 q525 q526 q527 q540).trans (hfr0 b q1 q3 q10 q11 q507 q517 q518 q519 q520 q521 q522 q523 q524 q525 q526 q527 q540)
  have hfr11_8 : ∀ b, kd b = 11 → fldI (f_41 b) 8 = fldI (f b) 8 := fun b kb => (hfc_43 b kb).trans (hfr11_8 b kb)
  have hrr1_0 : ∀ b, kd b = 1 → fldR (f_41 b) 0 = fldR (f b) 0 := fun b kb => (hrc_44 b kb).trans (hrr1_0 b kb)
  have hrr1_1 : ∀ b, kd b = 1 → fldR (f_41 b) 1 = fldR (f b) 1 := fun b kb => (hrc_45 b kb).trans (hrr1_1 b kb)
  have hrr3_0 : ∀ b, kd b = 3 → fldR (f_41 b) 0 = fldR (f b) 0 := fun b kb => (hrc_46 b kb).trans (hrr3_0 b kb)
  have hrr3_3 : ∀ b, kd b = 3 → fldR (f_41 b) 3 = fldR (f b) 3 := fun b kb => (hrc_47 b kb).trans (hrr3_3 b kb)
  have hrr11_2 : ∀ b, kd b = 11 → fldR (f_41 b) 2 = fldR (f b) 2 := fun b kb => (hrc_48 b kb).trans (hrr11_2 b kb)
  have hrr11_3 : ∀ b, kd b = 11 → fldR (f_41 b) 3 = fldR (f b) 3 := fun b kb => (hrc_49 b kb).trans (hrr11_3 b kb)
  have hrr11_5 : ∀ b, kd b = 11 → fldR (f_41 b) 5 = fldR (f b) 5 := fun b kb => (hrc_50 b kb).trans (hrr11_5 b kb)
  have hrr11_6 : ∀ b, kd b = 11 → fldR (f_41 b) 6 = fldR (f b) 6 := fun b kb => (hrc_51 b kb).trans (hrr11_6 b kb)
  have hrr11_7 : ∀ b, kd b = 11 → fldR (f_41 b) 7 = fldR (f b) 7 := fun b kb => (hrc_52 b kb).trans (hrr11_7 b kb)
  have hrr11_9 : ∀ b, kd b = 11 → fldR (f_41 b) 9 = fldR (f b) 9 := fun b kb => (hrc_53 b kb).trans (hrr11_9 b kb)
  have hrr11_10 : ∀ b, kd b = 11 → fldR (f_41 b) 10 = fldR (f b) 10 := fun b kb => (hrc_54 b kb).trans (hrr11_10 b kb)
  have hrr11_16 : ∀ b, kd b = 11 → fldR (f_41 b) 16 = fldR (f b) 16 := fun b kb => (hrc_55 b kb).trans (hrr11_16 b kb)
  have hT0 : trel kd 7 508 510 515 4 f_41 a_5 := hT0.keep (fun b q => hkc_42 b (by rw [q]; decide) (by rw [q]; decide) (by rw [q]; decide) (by rw [q]; decide) (by rw [q]; decide) (by rw [q]; decide) (by rw [q]; decide) (by rw [q]; decide) (by rw [q]; decide) (by rw [q]; decide) (by rw [q]; decide) (by rw [q]; decide) (by rw [q]; decide) (by rw [q]; decide) (by rw [q]; decide) (by rw [q]; decide) (by rw [q]; decide)) (fun b q => hkc_42 b (by rw [q]; decide) (by rw [q]; decide) (by rw [q]; decide) (by rw [q]; decide) (by rw [q]; decide) (by rw [q]; decide) (by rw [q]; decide) (by rw [q]; decide) (by rw [q]; decide) (by rw [q]; decide) (by rw [q]; decide) (by rw [q]; decide) (by rw [q]; decide) (by rw [q]; decide) (by rw [q]; decide) (by rw [q]; decide) (by rw [q]; decide)) (fun b q => hkc_42 b (by rw [q]; decide) (by rw [q]; decide) (by rw [q]; decide) (by rw [q]; decide) (by rw [q]; decide) (by rw [q]; decide) (by rw [q]; decide) (by rw [q]; decide) (by rw [q]; decide) (by rw [q]; decide) (by rw [q]; decide) (by rw [q]; decide) (by rw [q]; decide) (by rw [q]; decide) (by rw [q]; decide) (by rw [q]; decide) (by rw [q]; decide)) (fun b q => hkc_42 b (by rw [q]; decide) (by rw [q]; decide) (by rw [q]; decide) (by rw [q]; decide) (by rw [q]; decide) (by rw [q]; decide) (by rw [q]; decide) (by rw [q]; decide) (by rw [q]; decide) (by rw [q]; decide) (by rw [q]; decide) (by rw [q]; decide) (by rw [q]; decide) (by rw [q]; decide) (by rw [q]; decide) (by rw [q]; decide) (by rw [q]; decide)) (fun b q => congrArg (fun x => fldI x 1) (hkc_42 b (by rw [q]; decide) (by rw [q]; decide) (by rw [q]; decide) (by rw [q]; decide) (by rw [q]; decide) (by rw [q]; decide) (by rw [q]; decide) (by rw [q]; decide) (by rw [q]; decide) (by rw [q]; decide) (by rw [q]; decide) (by rw [q]; decide) (by rw [q]; decide) (by rw [q]; decide) (by rw [q]; decide) (by rw [q]; decide) (by rw [q]; decide)))
  obtain ⟨a_61, v_62, a_63, a_64, a_65, a_66, a_67, a_68, v_69, a_70, a_71, a_72, v_73, v_74, a_75, v_76, a_77, a_78, v_79, hfo_60, ⟨ma_61, ka_61⟩, bv_62, ⟨ma_63, ka_63⟩, ⟨ma_64, ka_64⟩, ⟨ma_65, ka_65⟩, ⟨ma_66, ka_66⟩, ⟨ma_67, ka_67⟩, ⟨ma_68, ka_68⟩, bv_69, ⟨ma_70, ka_70⟩, ⟨ma_71, ka_71⟩, ⟨ma_72, ka_72⟩, bv_73, ⟨ma_75, ka_75⟩, bv_76, ⟨ma_77, ka_77⟩, ⟨ma_78, ka_78⟩⟩ := un_11 (hG _ mo0) ko0
  have bv_74 : ((-2147483648) ≤ v_74.toInt ∧ v_74.toInt ≤ 2147483647) := ⟨i32_lo _, i32_hi _⟩
  have bv_79 : ((-2147483648) ≤ v_79.toInt ∧ v_79.toInt ≤ 2147483647) := ⟨i32_lo _, i32_hi _⟩
  obtain rfl : a_4 = a_63 := by have hk9 := hrr11_2 o0 ko0; rw [hfo_60, hfo_1] at hk9; exact (Option.some.inj hk9).symm
  obtain rfl : a_5 = a_64 := by have hk9 := hrr11_3 o0 ko0; rw [hfo_60, hfo_1] at hk9; exact (Option.some.inj hk9).symm
  obtain rfl : a_7 = a_66 := by have hk9 := hrr11_5 o0 ko0; rw [hfo_60, hfo_1] at hk9; exact (Option.some.inj hk9).symm
  obtain rfl : a_8 = a_67 := by have hk9 := hrr11_6 o0 ko0; rw [hfo_60, hfo_1] at hk9; exact (Option.some.inj hk9).symm
  obtain rfl : a_9 = a_68 := by have hk9 := hrr11_7 o0 ko0; rw [hfo_60, hfo_1] at hk9; exact (Option.some.inj hk9).symm
  obtain rfl : a_11 = a_70 := by have hk9 := hrr11_9 o0 ko0; rw [hfo_60, hfo_1] at hk9; exact (Option.some.inj hk9).symm
  obtain rfl : a_12 = a_71 := by have hk9 := hrr11_10 o0 ko0; rw [hfo_60, hfo_1] at hk9; exact (Option.some.inj hk9).symm
  obtain rfl : a_18 = a_77 := by have hk9 := hrr11_16 o0 ko0; rw [hfo_60, hfo_1] at hk9; exact (Option.some.inj hk9).symm
  obtain rfl : v_10 = v_69 := by have hk9 := hfc_43 o0 ko0; rw [hfo_60, hfo_1] at hk9; exact (Option.some.inj hk9).symm
  have hqhpost_56 := hpost_56 v_3 v_62 (by rw [hfo_1]; rfl) (by rw [hfo_60]; rfl)
  try rw [ti_1] at hqhpost_56
  obtain ⟨a_81, a_82, a_83, a_84, a_85, v_86, v_87, v_88, v_89, v_90, v_91, v_92, a_93, a_94, a_95, v_96, a_97, a_98, hfo_80, ⟨ma_81, ka_81⟩, ⟨ma_82, ka_82⟩, ⟨ma_83, ka_83⟩, ⟨ma_84, ka_84⟩, ⟨ma_85, ka_85⟩, bv_86, bv_87, bv_88, ⟨ma_93, ka_93⟩, ⟨ma_94, ka_94⟩, ⟨ma_95, ka_95⟩, bv_96, ⟨ma_97, ka_97⟩, ⟨ma_98, ka_98⟩⟩ := un_3 (hG _ ma_4) ka_4
  have bv_89 : ((-2147483648) ≤ v_89.toInt ∧ v_89.toInt ≤ 2147483647) := ⟨i32_lo _, i32_hi _⟩
  have bv_90 : ((-2147483648) ≤ v_90.toInt ∧ v_90.toInt ≤ 2147483647) := ⟨i32_lo _, i32_hi _⟩
  have bv_91 : ((-2147483648) ≤ v_91.toInt ∧ v_91.toInt ≤ 2147483647) := ⟨i32_lo _, i32_hi _⟩
  have bv_92 : ((-2147483648) ≤ v_92.toInt ∧ v_92.toInt ≤ 2147483647) := ⟨i32_lo _, i32_hi _⟩
  obtain rfl : a_22 = a_81 := by have hk9 := hrr3_0 a_4 ka_4; rw [hfo_80, hfo_21] at hk9; exact (Option.some.inj hk9).symm
  obtain rfl : a_25 = a_84 := by have hk9 := hrr3_3 a_4 ka_4; rw [hfo_80, hfo_21] at hk9; exact (Option.some.inj hk9).symm
  have hT_99 := hTc_57 a_5 (by rw [hfo_60]; rfl)
  have hT_100 := hTc_58 a_4 a_25 (by rw [hfo_60]; rfl) (by rw [hfo_80]; rfl)
  exact W.iret (v := x_40) hx hb hr (fun t ht hW => ⟨⟨x_40, f_41, rfl, ⟨hG, (by constructor <;> omega), hfr0, hfr11_8, hrr1_0, hrr1_1, hrr3_0, hrr3_3, hrr11_2, hrr11_3, hrr11_5, hrr11_6, hrr11_7, hrr11_9, hrr11_10, hrr11_16, (by intro w1 z1 e1 d1; rw [hfo_1] at e1; rw [hfo_60] at d1; obtain rfl := Option.some.inj e1; obtain rfl := Option.some.inj d1; omega), (fun d9 h9 => by rw [hfo_60] at h9; obtain rfl := Option.some.inj h9; exact hT_99), (fun r9 d9 h8 h9 => by rw [hfo_60] at h8; obtain rfl := Option.some.inj h8; rw [hfo_80] at h9; obtain rfl := Option.some.inj h9; exact hT_100)⟩, by rw [ht]; exact hP, va_K.moved hW.alike hK, pl_in hD⟩, hS.F ht⟩) hS.2.2 dX11_say_5
set_option maxHeartbeats 8000000 in
set_option maxRecDepth 100000 in
theorem s_X11_hear_k11 (l : Launch) (D : va_G) (cI cL cZ cR cG cH : ClassId) (Z : zT) (kd : Nat → Nat) (L : List Nat) (f : Nat → va_E) (hG : GI (okc cI cL cZ cR cG cH L kd) kd L f) (o0 : Nat) (mo0 : o0 ∈ L) (ko0 : kd o0 = 11) (hxtr0 : ∀ d9, fldR (f o0) 3 = some d9 → trel kd 7 508 510 515 4 f d9) (hxtr1 : ∀ r9 d9, fldR (f o0) 2 = some r9 → fldR (f r9) 3 = some d9 → drel kd 1 521 522 f d9) : mPI l D cI cL cZ cR cG cH Z yX11_hear cX11_hear 1 (some .int) 16 539 [.ref o0] L f (fun (r : Int32) (f9 : Nat → va_E) => GI (okc cI cL cZ cR cG cH L kd) kd L f9 ∧ ((-2147483648) ≤ r.toInt ∧ r.toInt ≤ 2147483647) ∧ (∀ b, kd b ≠ 1 → kd b ≠ 3 → kd b ≠ 10 → kd b ≠ 11 → kd b ≠ 507 → kd b ≠ 517 → kd b ≠ 518 → kd b ≠ 519 → kd b ≠ 520 → kd b ≠ 521 → kd b ≠ 522 → kd b ≠ 523 → kd b ≠ 524 → kd b ≠ 525 → kd b ≠ 526 → kd b ≠ 527 → kd b ≠ 540 → f9 b = f b) ∧ (∀ b, kd b = 11 → fldI (f9 b) 8 = fldI (f b) 8) ∧ (∀ b, kd b = 1 → fldR (f9 b) 0 = fldR (f b) 0) ∧ (∀ b, kd b = 1 → fldR (f9 b) 1 = fldR (f b) 1) ∧ (∀ b, kd b = 3 → fldR (f9 b) 0 = fldR (f b) 0) ∧ (∀ b, kd b = 3 → fldR (f9 b) 3 = fldR (f b) 3) ∧ (∀ b, kd b = 11 → fldR (f9 b) 2 = fldR (f b) 2) ∧ (∀ b, kd b = 11 → fldR (f9 b) 3 = fldR (f b) 3) ∧ (∀ b, kd b = 11 → fldR (f9 b) 5 = fldR (f b) 5) ∧ (∀ b, kd b = 11 → fldR (f9 b) 6 = fldR (f b) 6) ∧ (∀ b, kd b = 11 → fldR (f9 b) 7 = fldR (f b) 7) ∧ (∀ b, kd b = 11 → fldR (f9 b) 9 = fldR (f b) 9) ∧ (∀ b, kd b = 11 → fldR (f9 b) 10 = fldR (f b) 10) ∧ (∀ b, kd b = 11 → fldR (f9 b) 16 = fldR (f b) 16) ∧ (∀ (w1 z1 : Int32), fldI (f o0) 1 = some w1 → fldI (f9 o0) 1 = some z1 → z1.toInt = 0) ∧ (∀ d9, fldR (f9 o0) 3 = some d9 → trel kd 7 508 510 515 4 f9 d9) ∧ (∀ r9 d9, fldR (f9 o0) 2 = some r9 → fldR (f9 r9) 3 = some d9 → drel kd 1 521 522 f9 d9)) := by
  obtain ⟨dC, dI⟩ := D
  refine Met.ofW (cc := cX11_hear) (maxL := 1) (ret := (some .int)) (by decide) rfl ?_
  intro p e s m args below meth c s₁ B hml hv
  obtain ⟨rfl, hP, hK, hD0, hN, hZ⟩ := hv
  have hx := B.exec
  have hb := B.bytes
  have hr := B.returns
  have hU : ∀ w ∈ wsU, w.before _ s = true := fun w h => atoms_spec (ws := wU yX11_hear cX11_hear 1 (some .int)) B.pre w (List.mem_cons_of_mem _ h)
  have hown : s.vm.findClass RX11 = some m.cls := findClass_of_methodNamed B.named
  have hlocks := B.notSynchronized
  have hD := pl_in hD0
  have hS : va_S (fun q => q ∈ L) s.heap s.heap [] := va_S.rf
  have hl := lv_entry ([.ref o0]) (n := 1) (Nat.le_of_ble_eq_true rfl)
  rw [lg_entry_eq]
  generalize (lg_sl ([.ref o0]) ++ List.replicate (1 - (lg_sl ([.ref o0])).length) Slot.unset).toArray = ls at hl ⊢
  have hl : lv_has ls 1 [(0, .ref o0)] := hl
  have hfr0 : ∀ b, kd b ≠ 1 → kd b ≠ 3 → kd b ≠ 10 → kd b ≠ 11 → kd b ≠ 507 → kd b ≠ 517 → kd b ≠ 518 → kd b ≠ 519 → kd b ≠ 520 → kd b ≠ 521 → kd b ≠ 522 → kd b ≠ 523 → kd b ≠ 524 → kd b ≠ 525 → kd b ≠ 526 → kd b ≠ 527 → kd b ≠ 540 → f b = f b := fun _ _ _ _ _ _ _ _ _ _ _ _ _ _ _ _ _ _ => rfl
  have hfr11_8 : ∀ b, kd b = 11 → fldI (f b) 8 = fldI (f b) 8 := fun _ _ => rfl
  have hrr1_0 : ∀ b, kd b = 1 → fldR (f b) 0 = fldR (f b) 0 := fun _ _ => rfl
  have hrr1_1 : ∀ b, kd b = 1 → fldR (f b) 1 = fldR (f b) 1 := fun _ _ => rfl
  have hrr3_0 : ∀ b, kd b = 3 → fldR (f b) 0 = fldR (f b) 0 := fun _ _ => rfl
  have hrr3_3 : ∀ b, kd b = 3 → fldR (f b) 3 = fldR (f b) 3 := fun _ _ => rfl
  have hrr11_2 : ∀ b, kd b = 11 → fldR (f b) 2 = fldR (f b) 2 := fun _ _ => rfl
  have hrr11_3 : ∀ b, kd b = 11 → fldR (f b) 3 = fldR (f b) 3 := fun _ _ => rfl
  have hrr11_5 : ∀ b, kd b = 11 → fldR (f b) 5 = fldR (f b) 5 := fun _ _ => rfl
  have hrr11_6 : ∀ b, kd b = 11 → fldR (f b) 6 = fldR (f b) 6 := fun _ _ => rfl
  have hrr11_7 : ∀ b, kd b = 11 → fldR (f b) 7 = fldR (f b) 7 := fun _ _ => rfl
  have hrr11_9 : ∀ b, kd b = 11 → fldR (f b) 9 = fldR (f b) 9 := fun _ _ => rfl
  have hrr11_10 : ∀ b, kd b = 11 → fldR (f b) 10 = fldR (f b) 10 := fun _ _ => rfl
  have hrr11_16 : ∀ b, kd b = 11 → fldR (f b) 16 = fldR (f b) 16 := fun _ _ => rfl
  obtain ⟨a_2, v_3, a_4, a_5, a_6, a_7, a_8, a_9, v_10, a_11, a_12, a_13, v_14, v_15, a_16, v_17, a_18, a_19, v_20, hfo_1, ⟨ma_2, ka_2⟩, bv_3, ⟨ma_4, ka_4⟩, ⟨ma_5, ka_5⟩, ⟨ma_6, ka_6⟩, ⟨ma_7, ka_7⟩, ⟨ma_8, ka_8⟩, ⟨ma_9, ka_9⟩, bv_10, ⟨ma_11, ka_11⟩, ⟨ma_12, ka_12⟩, ⟨ma_13, ka_13⟩, bv_14, ⟨ma_16, ka_16⟩, bv_17, ⟨ma_18, ka_18⟩, ⟨ma_19, ka_19⟩⟩ := un_11 (hG _ mo0) ko0
  have bv_15 : ((-2147483648) ≤ v_15.toInt ∧ v_15.toInt ≤ 2147483647) := ⟨i32_lo _, i32_hi _⟩
  have bv_20 : ((-2147483648) ≤ v_20.toInt ∧ v_20.toInt ≤ 2147483647) := ⟨i32_lo _, i32_hi _⟩
  have hT0 := hxtr0 a_5 (by rw [hfo_1]; rfl)
  obtain ⟨a_22, a_23, a_24, a_25, a_26, v_27, v_28, v_29, v_30, v_31, v_32, v_33, a_34, a_35, a_36, v_37, a_38, a_39, hfo_21, ⟨ma_22, ka_22⟩, ⟨ma_23, ka_23⟩, ⟨ma_24, ka_24⟩, ⟨ma_25, ka_25⟩, ⟨ma_26, ka_26⟩, bv_27, bv_28, bv_29, ⟨ma_34, ka_34⟩, ⟨ma_35, ka_35⟩, ⟨ma_36, ka_36⟩, bv_37, ⟨ma_38, ka_38⟩, ⟨ma_39, ka_39⟩⟩ := un_3 (hG _ ma_4) ka_4
  have bv_30 : ((-2147483648) ≤ v_30.toInt ∧ v_30.toInt ≤ 2147483647) := ⟨i32_lo _, i32_hi _⟩
  have bv_31 : ((-2147483648) ≤ v_31.toInt ∧ v_31.toInt ≤ 2147483647) := ⟨i32_lo _, i32_hi _⟩
  have bv_32 : ((-2147483648) ≤ v_32.toInt ∧ v_32.toInt ≤ 2147483647) := ⟨i32_lo _, i32_hi _⟩
  have bv_33 : ((-2147483648) ≤ v_33.toInt ∧ v_33.toInt ≤ 2147483647) := ⟨i32_lo _, i32_hi _⟩
  have hT1 := hxtr1 a_4 a_25 (by rw [hfo_1]; rfl) (by rw [hfo_21]; rfl)
  refine lv_aload_n hx hb dX11_hear_0 rfl (lv_at hl 0 rfl) ?_
  refine lv_iconst (v := 0) hx hb dX11_hear_1 (by decide) ?_
  refine tk_ViP (As := [.int 0]) (rest := []) (n := 1) hx hb hml hown hU hN hZ (s_X11_findWords_k11 l (dC, dI) cI cL cZ cR cG cH Z kd L f hG o0 mo0 ko0 0 (by decide) (fun d9 h9 => by rw [hfo_1] at h9; obtain rfl := Option.some.inj h9; exact hT0) (fun r9 d9 h8 h9 => by rw [hfo_1] at h8; obtain rfl := Option.some.inj h8; rw [hfo_21] at h9; obtain rfl := Option.some.inj h9; exact hT1)) wd_703 wd_704 wd_705 wd_2 wd_706 (by decide +kernel) ⟨Nat.le_of_ble_eq_true rfl, Nat.le_of_ble_eq_true rfl⟩ hK hP hD hS mo0 hfo_1 11 rfl rfl rfl hl.1 rfl (Nat.le_of_ble_eq_true rfl) dX11_hear_2 ⟨Nat.le_of_ble_eq_true rfl, Nat.le_of_ble_eq_true rfl⟩ (fun x_40 f_41 H locs hw hP hD hS => ?_)
  obtain ⟨hG, bx_40, hkc_42, hfc_43, hrc_44, hrc_45, hrc_46, hrc_47, hrc_48, hrc_49, hrc_50, hrc_51, hrc_52, hrc_53, hrc_54, hrc_55, hpost_56, hTc_57, hTc_58⟩ := hw
  have hfr0 : ∀ b, kd b ≠ 1 → kd b ≠ 3 → kd b ≠ 10 → kd b ≠ 11 → kd b ≠ 507 → kd b ≠ 517 → kd b ≠ 518 → kd b ≠ 519 → kd b ≠ 520 → kd b ≠ 521 → kd b ≠ 522 → kd b ≠ 523 → kd b ≠ 524 → kd b ≠ 525 → kd b ≠ 526 → kd b ≠ 527 → kd b ≠ 540 → f_41 b = f b := fun b q1 q3 q10 q11 q507 q517 q518 q519 q520 q521 q522 q523 q524 q525 q526 q527 q540 => (hkc_42 b q1 q3 q10 q11 q507 q517 q518 q519 q520 q521 q522 q523 q524 q525 q526 q527 q540).trans (hfr0 b q1 q3 q10 q11 q507 q517 q518 q519 q520 q521 q522 q523 q524 q525 q526 q527 q540)
  have hfr11_8 : ∀ b, kd b = 11 → fldI (f_41 b) 8 = fldI (f b) 8 := fun b kb => (hfc_43 b kb).trans (hfr11_8 b kb)
  have hrr1_0 : ∀ b, kd b = 1 → fldR (f_41 b) 0 = fldR (f b) 0 := fun b kb => (hrc_44 b kb).trans (hrr1_0 b kb)
  have hrr1_1 : ∀ b, kd b = 1 → fldR (f_41 b) 1 = fldR (f b) 1 := fun b kb => (hrc_45 b kb).trans (hrr1_1 b kb)
  have hrr3_0 : ∀ b, kd b = 3 → fldR (f_41 b) 0 = fldR (f b) 0 := fun b kb => (hrc_46 b kb).trans (hrr3_0 b kb)
  have hrr3_3 : ∀ b, kd b = 3 → fldR (f_41 b) 3 = fldR (f b) 3 := fun b kb => (hrc_47 b kb).trans (hrr3_3 b kb)
  have hrr11_2 : ∀ b, kd b = 11 → fldR (f_41 b) 2 = fldR (f b) 2 := fun b kb => (hrc_48 b kb).trans (hrr11_2 b kb)
  have hrr11_3 : ∀ b, kd b = 11 → fldR (f_41 b) 3 = fldR (f b) 3 := fun b kb => (hrc_49 b kb).trans (hrr11_3 b kb)
  have hrr11_5 : ∀ b, kd b = 11 → fldR (f_41 b) 5 = fldR (f b) 5 := fun b kb => (hrc_50 b kb).trans (hrr11_5 b kb)
  have hrr11_6 : ∀ b, kd b = 11 → fldR (f_41 b) 6 = fldR (f b) 6 := fun b kb => (hrc_51 b kb).trans (hrr11_6 b kb)
  have hrr11_7 : ∀ b, kd b = 11 → fldR (f_41 b) 7 = fldR (f b) 7 := fun b kb => (hrc_52 b kb).trans (hrr11_7 b kb)
  have hrr11_9 : ∀ b, kd b = 11 → fldR (f_41 b) 9 = fldR (f b) 9 := fun b kb => (hrc_53 b kb).trans (hrr11_9 b kb)
  have hrr11_10 : ∀ b, kd b = 11 → fldR (f_41 b) 10 = fldR (f b) 10 := fun b kb => (hrc_54 b kb).trans (hrr11_10 b kb)
  have hrr11_16 : ∀ b, kd b = 11 → fldR (f_41 b) 16 = fldR (f b) 16 := fun b kb => (hrc_55 b kb).trans (hrr11_16 b kb)
  have hT0 : trel kd 7 508 510 515 4 f_41 a_5 := hT0.keep (fun b q => hkc_42 b (by rw [q]; decide) (by rw [q]; decide) (by rw [q]; decide) (by rw [q]; decide) (by rw [q]; decide) (by rw [q]; decide) (by rw [q]; decide) (by rw [q]; decide) (by rw [q]; decide) (by rw [q]; decide) (by rw [q]; decide) (by rw [q]; decide) (by rw [q]; decide) (by rw [q]; decide) (by rw [q]; decide) (by rw [q]; decide) (by rw [q]; decide)) (fun b q => hkc_42 b (by rw [q]; decide) (by rw [q]; decide) (by rw [q]; decide) (by rw [q]; decide) (by rw [q]; decide) (by rw [q]; decide) (by rw [q]; decide) (by rw [q]; decide) (by rw [q]; decide) (by rw [q]; decide) (by rw [q]; decide) (by rw [q]; decide) (by rw [q]; decide) (by rw [q]; decide) (by rw [q]; decide) (by rw [q]; decide) (by rw [q]; decide)) (fun b q => hkc_42 b (by rw [q]; decide) (by rw [q]; decide) (by rw [q]; decide) (by rw [q]; decide) (by rw [q]; decide) (by rw [q]; decide) (by rw [q]; decide) (by rw [q]; decide) (by rw [q]; decide) (by rw [q]; decide) (by rw [q]; decide) (by rw [q]; decide) (by rw [q]; decide) (by rw [q]; decide) (by rw [q]; decide) (by rw [q]; decide) (by rw [q]; decide)) (fun b q => hkc_42 b (by rw [q]; decide) (by rw [q]; decide) (by rw [q]; decide) (by rw [q]; decide) (by rw [q]; decide) (by rw [q]; decide) (by rw [q]; decide) (by rw [q]; decide) (by rw [q]; decide) (by rw [q]; decide) (by rw [q]; decide) (by rw [q]; decide) (by rw [q]; decide) (by rw [q]; decide) (by rw [q]; decide) (by rw [q]; decide) (by rw [q]; decide)) (fun b q => congrArg (fun x => fldI x 1) (hkc_42 b (by rw [q]; decide) (by rw [q]; decide) (by rw [q]; decide) (by rw [q]; decide) (by rw [q]; decide) (by rw [q]; decide) (by rw [q]; decide) (by rw [q]; decide) (by rw [q]; decide) (by rw [q]; decide) (by rw [q]; decide) (by rw [q]; decide) (by rw [q]; decide) (by rw [q]; decide) (by rw [q]; decide) (by rw [q]; decide) (by rw [q]; decide)))
  obtain ⟨a_61, v_62, a_63, a_64, a_65, a_66, a_67, a_68, v_69, a_70, a_71, a_72, v_73, v_74, a_75, v_76, a_77, a_78, v_79, hfo_60, ⟨ma_61, ka_61⟩, bv_62, ⟨ma_63, ka_63⟩, ⟨ma_64, ka_64⟩, ⟨ma_65, ka_65⟩, ⟨ma_66, ka_66⟩, ⟨ma_67, ka_67⟩, ⟨ma_68, ka_68⟩, bv_69, ⟨ma_70, ka_70⟩, ⟨ma_71, ka_71⟩, ⟨ma_72, ka_72⟩, bv_73, ⟨ma_75, ka_75⟩, bv_76, ⟨ma_77, ka_77⟩, ⟨ma_78, ka_78⟩⟩ := un_11 (hG _ mo0) ko0
  have bv_74 : ((-2147483648) ≤ v_74.toInt ∧ v_74.toInt ≤ 2147483647) := ⟨i32_lo _, i32_hi _⟩
  have bv_79 : ((-2147483648) ≤ v_79.toInt ∧ v_79.toInt ≤ 2147483647) := ⟨i32_lo _, i32_hi _⟩
  obtain rfl : a_4 = a_63 := by have hk9 := hrr11_2 o0 ko0; rw [hfo_60, hfo_1] at hk9; exact (Option.some.inj hk9).symm
  obtain rfl : a_5 = a_64 := by have hk9 := hrr11_3 o0 ko0; rw [hfo_60, hfo_1] at hk9; exact (Option.some.inj hk9).symm
  obtain rfl : a_7 = a_66 := by have hk9 := hrr11_5 o0 ko0; rw [hfo_60, hfo_1] at hk9; exact (Option.some.inj hk9).symm
  obtain rfl : a_8 = a_67 := by have hk9 := hrr11_6 o0 ko0; rw [hfo_60, hfo_1] at hk9; exact (Option.some.inj hk9).symm
  obtain rfl : a_9 = a_68 := by have hk9 := hrr11_7 o0 ko0; rw [hfo_60, hfo_1] at hk9; exact (Option.some.inj hk9).symm
  obtain rfl : a_11 = a_70 := by have hk9 := hrr11_9 o0 ko0; rw [hfo_60, hfo_1] at hk9; exact (Option.some.inj hk9).symm
  obtain rfl : a_12 = a_71 := by have hk9 := hrr11_10 o0 ko0; rw [hfo_60, hfo_1] at hk9; exact (Option.some.inj hk9).symm
  obtain rfl : a_18 = a_77 := by have hk9 := hrr11_16 o0 ko0; rw [hfo_60, hfo_1] at hk9; exact (Option.some.inj hk9).symm
  obtain rfl : v_10 = v_69 := by have hk9 := hfc_43 o0 ko0; rw [hfo_60, hfo_1] at hk9; exact (Option.some.inj hk9).symm
  have hqhpost_56 := hpost_56 v_3 v_62 (by rw [hfo_1]; rfl) (by rw [hfo_60]; rfl)
  try rw [ti_0] at hqhpost_56
  obtain ⟨a_81, a_82, a_83, a_84, a_85, v_86, v_87, v_88, v_89, v_90, v_91, v_92, a_93, a_94, a_95, v_96, a_97, a_98, hfo_80, ⟨ma_81, ka_81⟩, ⟨ma_82, ka_82⟩, ⟨ma_83, ka_83⟩, ⟨ma_84, ka_84⟩, ⟨ma_85, ka_85⟩, bv_86, bv_87, bv_88, ⟨ma_93, ka_93⟩, ⟨ma_94, ka_94⟩, ⟨ma_95, ka_95⟩, bv_96, ⟨ma_97, ka_97⟩, ⟨ma_98, ka_98⟩⟩ := un_3 (hG _ ma_4) ka_4
  have bv_89 : ((-2147483648) ≤ v_89.toInt ∧ v_89.toInt ≤ 2147483647) := ⟨i32_lo _, i32_hi _⟩
  have bv_90 : ((-2147483648) ≤ v_90.toInt ∧ v_90.toInt ≤ 2147483647) := ⟨i32_lo _, i32_hi _⟩
  have bv_91 : ((-2147483648) ≤ v_91.toInt ∧ v_91.toInt ≤ 2147483647) := ⟨i32_lo _, i32_hi _⟩
  have bv_92 : ((-2147483648) ≤ v_92.toInt ∧ v_92.toInt ≤ 2147483647) := ⟨i32_lo _, i32_hi _⟩
  obtain rfl : a_22 = a_81 := by have hk9 := hrr3_0 a_4 ka_4; rw [hfo_80, hfo_21] at hk9; exact (Option.some.inj hk9).symm
  obtain rfl : a_25 = a_84 := by have hk9 := hrr3_3 a_4 ka_4; rw [hfo_80, hfo_21] at hk9; exact (Option.some.inj hk9).symm
  have hT_99 := hTc_57 a_5 (by rw [hfo_60]; rfl)
  have hT_100 := hTc_58 a_4 a_25 (by rw [hfo_60]; rfl) (by rw [hfo_80]; rfl)
  exact W.iret (v := x_40) hx hb hr (fun t ht hW => ⟨⟨x_40, f_41, rfl, ⟨hG, (by constructor <;> omega), hfr0, hfr11_8, hrr1_0, hrr1_1, hrr3_0, hrr3_3, hrr11_2, hrr11_3, hrr11_5, hrr11_6, hrr11_7, hrr11_9, hrr11_10, hrr11_16, (by intro w1 z1 e1 d1; rw [hfo_1] at e1; rw [hfo_60] at d1; obtain rfl := Option.some.inj e1; obtain rfl := Option.some.inj d1; omega), (fun d9 h9 => by rw [hfo_60] at h9; obtain rfl := Option.some.inj h9; exact hT_99), (fun r9 d9 h8 h9 => by rw [hfo_60] at h8; obtain rfl := Option.some.inj h8; rw [hfo_80] at h9; obtain rfl := Option.some.inj h9; exact hT_100)⟩, by rw [ht]; exact hP, va_K.moved hW.alike hK, pl_in hD⟩, hS.F ht⟩) hS.2.2 dX11_hear_5
