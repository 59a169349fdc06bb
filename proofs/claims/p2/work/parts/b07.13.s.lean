set_option maxHeartbeats 8000000 in
set_option maxRecDepth 100000 in
theorem s_X11_keepCouple_k11 (l : Launch) (D : va_G) (cI cL cZ cR cG cH : ClassId) (Z : zT) (kd : Nat → Nat) (L : List Nat) (f : Nat → va_E) (hG : GI (okc cI cL cZ cR cG cH L kd) kd L f) (o0 : Nat) (mo0 : o0 ∈ L) (ko0 : kd o0 = 11) (p1 : Int32) (bp1 : (0 ≤ p1.toInt ∧ p1.toInt ≤ 11)) (p2 : Int32) (bp2 : (0 ≤ p2.toInt ∧ p2.toInt ≤ 7)) (p3 : Int32) (bp3 : (0 ≤ p3.toInt ∧ p3.toInt ≤ 8)) (hpreo0 : ∀ (w12 : Int32), fldI (f o0) 12 = some w12 → w12.toInt ≤ 95) (hxpre0 : ∀ b9 g9, fldR (f o0) 16 = some b9 → f b9 = .inl (cI, 16, .inl g9) → ∀ j : Nat, (j : Int) < p3.toInt → (g9 j).toInt ≤ 8) : mPV l D cI cL cZ cR cG cH Z yX11_keepCouple cX11_keepCouple 6 none 6 154 [.ref o0, .int p1, .int p2, .int p3] L f (fun (f9 : Nat → va_E) => GI (okc cI cL cZ cR cG cH L kd) kd L f9 ∧ (∀ b, kd b ≠ 3 → kd b ≠ 11 → kd b ≠ 505 → kd b ≠ 507 → kd b ≠ 525 → kd b ≠ 527 → kd b ≠ 539 → f9 b = f b) ∧ (∀ b, kd b = 11 → fldI (f9 b) 1 = fldI (f b) 1) ∧ (∀ b, kd b = 11 → fldI (f9 b) 8 = fldI (f b) 8) ∧ (∀ b, kd b = 3 → fldR (f9 b) 0 = fldR (f b) 0) ∧ (∀ b, kd b = 3 → fldR (f9 b) 3 = fldR (f b) 3) ∧ (∀ b, kd b = 11 → fldR (f9 b) 2 = fldR (f b) 2) ∧ (∀ b, kd b = 11 → fldR (f9 b) 3 = fldR (f b) 3) ∧ (∀ b, kd b = 11 → fldR (f9 b) 5 = fldR (f b) 5) ∧ (∀ b, kd b = 11 → fldR (f9 b) 6 = fldR (f b) 6) ∧ (∀ b, kd b = 11 → fldR (f9 b) 7 = fldR (f b) 7) ∧ (∀ b, kd b = 11 → fldR (f9 b) 9 = fldR (f b) 9) ∧ (∀ b, kd b = 11 → fldR (f9 b) 10 = fldR (f b) 10) ∧ (∀ b, kd b = 11 → fldR (f9 b) 16 = fldR (f b) 16) ∧ (∀ (w12 z12 : Int32), fldI (f o0) 12 = some w12 → fldI (f9 o0) 12 = some z12 → z12.toInt ≤ w12.toInt + 1)) := by
  obtain ⟨dC, dI⟩ := D
  refine Met.ofW (cc := cX11_keepCouple) (maxL := 6) (ret := none) (by decide) rfl ?_
  intro p e s m args below meth c s₁ B hml hv
  obtain ⟨rfl, hP, hK, hD0, hN, hZ⟩ := hv
  have hx := B.exec
  have hb := B.bytes
  have hr := B.returns
  have hU : ∀ w ∈ wsU, w.before _ s = true := fun w h => atoms_spec (ws := wU yX11_keepCouple cX11_keepCouple 6 none) B.pre w (List.mem_cons_of_mem _ h)
  have hown : s.vm.findClass RX11 = some m.cls := findClass_of_methodNamed B.named
  have hlocks := B.notSynchronized
  have hD := pl_in hD0
  have hS : va_S (fun q => q ∈ L) s.heap s.heap [] := va_S.rf
  have hl := lv_entry ([.ref o0, .int p1, .int p2, .int p3]) (n := 6) (Nat.le_of_ble_eq_true rfl)
  rw [lg_entry_eq]
  generalize (lg_sl ([.ref o0, .int p1, .int p2, .int p3]) ++ List.replicate (6 - (lg_sl ([.ref o0, .int p1, .int p2, .int p3])).length) Slot.unset).toArray = ls at hl ⊢
  have hl : lv_has ls 6 [(0, .ref o0), (1, .int p1), (2, .int p2), (3, .int p3)] := hl
  have hfr0 : ∀ b, kd b ≠ 3 → kd b ≠ 11 → kd b ≠ 505 → kd b ≠ 507 → kd b ≠ 525 → kd b ≠ 527 → kd b ≠ 539 → f b = f b := fun _ _ _ _ _ _ _ _ => rfl
  have hfr11_1 : ∀ b, kd b = 11 → fldI (f b) 1 = fldI (f b) 1 := fun _ _ => rfl
  have hfr11_8 : ∀ b, kd b = 11 → fldI (f b) 8 = fldI (f b) 8 := fun _ _ => rfl
  have hrr3_0 : ∀ b, kd b = 3 → fldR (f b) 0 = fldR (f b) 0 := fun _ _ => rfl
  have hrr3_3 : ∀ b, kd b = 3 → fldR (f b) 3 = fldR (f b) 3 := fun _ _ => rfl
  have hrr11_2 : ∀ b, kd b = 11 → fldR (f b) 2 = fldR (f b) 2 := fun _ _ => rfl
  have hrr11_3 : ∀ b, kd b = 11 → fldR (f b) 3 = fldR (f b) 3 := fun _ _ => rfl
  have hrr11_5 : ∀ b, kd b = 11 → fldR (f b) 5 = fldR (f b) 5 := fun _ _ => rfl
  have hrr11_6 : ∀ b, kd b = 11 → fldR (f b) 6 = fldR (f b) 6 := fun _ _ => rfl
  have hrr11_7 : ∀ b, kd b = 11 → fldR (f b) 7 = fldR (f b) 7 := fun _ _ => rfl
  have hrr11_9 : ∀ b, kd b = 11 → fldR (f b) 9 = fldR (f b) 9 := fun _ _ => rfl
  have hrr11_10 : ∀ b, kd b = 11 → fldR (f b) 10 = fldR (f b) 10 := fun _ _ => rfl
  have hrr11_16 : ∀ b, kd b = 11 → fldR (f b) 16 = fldR (f b) 16 := fun _ _ => rfl
  obtain ⟨a_2, v_3, a_4, a_5, a_6, a_7, a_8, a_9, v_10, a_11, a_12, a_13, v_14, v_15, a_16, v_17, a_18, a_19, v_20, hfo_1, ⟨ma_2, ka_2⟩, bv_3, ⟨ma_4, ka_4⟩, ⟨ma_5, ka_5⟩, ⟨ma_6, ka_6⟩, ⟨ma_7, ka_7⟩, ⟨ma_8, ka_8⟩, ⟨ma_9, ka_9⟩, bv_10, ⟨ma_11, ka_11⟩, ⟨ma_12, ka_12⟩, ⟨ma_13, ka_13⟩, bv_14, ⟨ma_16, ka_16⟩, bv_17, ⟨ma_18, ka_18⟩, ⟨ma_19, ka_19⟩⟩ := un_11 (hG _ mo0) ko0
  have bv_15 : ((-2147483648) ≤ v_15.toInt ∧ v_15.toInt ≤ 2147483647) := ⟨i32_lo _, i32_hi _⟩
  have bv_20 : ((-2147483648) ≤ v_20.toInt ∧ v_20.toInt ≤ 2147483647) := ⟨i32_lo _, i32_hi _⟩
  have hpo0 := hpreo0 v_14 (by rw [hfo_1]; rfl)
  obtain ⟨g_22, hfo_21, hbg_22⟩ := un_540 (hG _ ma_18) ka_18
  have htd := hxpre0 a_18 g_22 (by rw [hfo_1]; rfl) hfo_21
  refine lv_aload_n hx hb dX11_keepCouple_0 rfl (lv_at hl 0 rfl) ?_
  refine tk_getP (D := (dC, dI)) (ci := 11) (v := .ref a_5) (C := RX11) (T := TX11) (N := 19) hx hb hU inlX11 hown hK hP mo0 hfo_1 rfl 3 (by decide) (hU _ wd_19) (fun _ h9 => h9) rfl dX11_keepCouple_1 ?_
  obtain ⟨a_24, v_25, a_26, a_27, a_28, a_29, v_30, a_31, a_32, a_33, a_34, a_35, v_36, a_37, a_38, a_39, hfo_23, ⟨ma_24, ka_24⟩, bv_25, ⟨ma_26, ka_26⟩, ⟨ma_27, ka_27⟩, ⟨ma_28, ka_28⟩, ⟨ma_29, ka_29⟩, bv_30, ⟨ma_31, ka_31⟩, ⟨ma_32, ka_32⟩, ⟨ma_33, ka_33⟩, ⟨ma_34, ka_34⟩, ⟨ma_35, ka_35⟩, bv_36, ⟨ma_37, ka_37⟩, ⟨ma_38, ka_38⟩, ⟨ma_39, ka_39⟩⟩ := un_7 (hG _ ma_5) ka_5
  refine tk_getP (D := (dC, dI)) (ci := 7) (v := .ref a_37) (C := RX7) (T := TX7) (N := 16) hx hb hU inlX7 hown hK hP ma_5 hfo_23 rfl 13 (by decide) (hU _ wd_999) (fun _ h9 => h9) rfl dX11_keepCouple_4 ?_
  refine lv_iload_n hx hb dX11_keepCouple_7 rfl (lv_at hl 1 rfl) ?_
  refine lv_aload_n hx hb dX11_keepCouple_8 rfl (lv_at hl 0 rfl) ?_
  refine tk_getP (D := (dC, dI)) (ci := 11) (v := .ref a_19) (C := RX11) (T := TX11) (N := 19) hx hb hU inlX11 hown hK hP mo0 hfo_1 rfl 17 (by decide) (hU _ wd_43) (fun _ h9 => h9) rfl dX11_keepCouple_9 ?_
  refine lv_iconst (v := 0) hx hb dX11_keepCouple_12 (by decide) ?_
  obtain ⟨a_41, a_42, v_43, hfo_40, ⟨ma_41, ka_41⟩, ⟨ma_42, ka_42⟩, bv_43⟩ := un_9 (hG _ ma_37) ka_37
  refine tk_ViP (As := [.int p1, .ref a_19, .int 0]) (rest := []) (n := 3) hx hb hml hown hU hN hZ (s_X9_copyTo_k9_a505_n l (dC, dI) cI cL cZ cR cG cH Z kd L f hG a_37 ma_37 ka_37 p1 a_19 ma_19 ka_19 0 (by decide)) wd_1006 wd_1007 wd_1008 wd_85 wd_1009 (by decide +kernel) ⟨Nat.le_of_ble_eq_true rfl, Nat.le_of_ble_eq_true rfl⟩ hK hP hD hS ma_37 hfo_40 9 rfl rfl rfl hl.1 rfl (Nat.le_of_ble_eq_true rfl) dX11_keepCouple_13 ⟨Nat.le_of_ble_eq_true rfl, Nat.le_of_ble_eq_true rfl⟩ (fun x_44 f_45 H locs hw hP hD hS => ?_)
  obtain ⟨hG, bx_44, hkc_46⟩ := hw
  have hfo_48 : f_45 o0 = .inr (11, [.ref a_2, .int v_3, .ref a_4, .ref a_5, .ref a_6, .ref a_7, .ref a_8, .ref a_9, .int v_10, .ref a_11, .ref a_12, .ref a_13, .int v_14, .int v_15, .ref a_16, .int v_17, .ref a_18, .ref a_19, .int v_20]) := by rw [hkc_46 o0 (by rw [ko0]; decide)]; exact hfo_1
  have hfo_49 : f_45 a_18 = .inl (cI, 16, .inl g_22) := by rw [hkc_46 a_18 (by rw [ka_18]; decide)]; exact hfo_21
  have hfo_50 : f_45 a_5 = .inr (7, [.ref a_24, .int v_25, .ref a_26, .ref a_27, .ref a_28, .ref a_29, .int v_30, .ref a_31, .ref a_32, .ref a_33, .ref a_34, .ref a_35, .int v_36, .ref a_37, .ref a_38, .ref a_39]) := by rw [hkc_46 a_5 (by rw [ka_5]; decide)]; exact hfo_23
  have hfo_51 : f_45 a_37 = .inr (9, [.ref a_41, .ref a_42, .int v_43]) := by rw [hkc_46 a_37 (by rw [ka_37]; decide)]; exact hfo_40
  have hfr0 : ∀ b, kd b ≠ 3 → kd b ≠ 11 → kd b ≠ 505 → kd b ≠ 507 → kd b ≠ 525 → kd b ≠ 527 → kd b ≠ 539 → f_45 b = f b := fun b q3 q11 q505 q507 q525 q527 q539 => (hkc_46 b q505).trans (hfr0 b q3 q11 q505 q507 q525 q527 q539)
  have hfr11_1 : ∀ b, kd b = 11 → fldI (f_45 b) 1 = fldI (f b) 1 := fun b kb => (congrArg (fun x => fldI x 1) (hkc_46 b (by rw [kb]; decide))).trans (hfr11_1 b kb)
  have hfr11_8 : ∀ b, kd b = 11 → fldI (f_45 b) 8 = fldI (f b) 8 := fun b kb => (congrArg (fun x => fldI x 8) (hkc_46 b (by rw [kb]; decide))).trans (hfr11_8 b kb)
  have hrr3_0 : ∀ b, kd b = 3 → fldR (f_45 b) 0 = fldR (f b) 0 := fun b kb => (congrArg (fun x => fldR x 0) (hkc_46 b (by rw [kb]; decide))).trans (hrr3_0 b kb)
  have hrr3_3 : ∀ b, kd b = 3 → fldR (f_45 b) 3 = fldR (f b) 3 := fun b kb => (congrArg (fun x => fldR x 3) (hkc_46 b (by rw [kb]; decide))).trans (hrr3_3 b kb)
  have hrr11_2 : ∀ b, kd b = 11 → fldR (f_45 b) 2 = fldR (f b) 2 := fun b kb => (congrArg (fun x => fldR x 2) (hkc_46 b (by rw [kb]; decide))).trans (hrr11_2 b kb)
  have hrr11_3 : ∀ b, kd b = 11 → fldR (f_45 b) 3 = fldR (f b) 3 := fun b kb => (congrArg (fun x => fldR x 3) (hkc_46 b (by rw [kb]; decide))).trans (hrr11_3 b kb)
  have hrr11_5 : ∀ b, kd b = 11 → fldR (f_45 b) 5 = fldR (f b) 5 := fun b kb => (congrArg (fun x => fldR x 5) (hkc_46 b (by rw [kb]; decide))).trans (hrr11_5 b kb)
  have hrr11_6 : ∀ b, kd b = 11 → fldR (f_45 b) 6 = fldR (f b) 6 := fun b kb => (congrArg (fun x => fldR x 6) (hkc_46 b (by rw [kb]; decide))).trans (hrr11_6 b kb)
  have hrr11_7 : ∀ b, kd b = 11 → fldR (f_45 b) 7 = fldR (f b) 7 := fun b kb => (congrArg (fun x => fldR x 7) (hkc_46 b (by rw [kb]; decide))).trans (hrr11_7 b kb)
  have hrr11_9 : ∀ b, kd b = 11 → fldR (f_45 b) 9 = fldR (f b) 9 := fun b kb => (congrArg (fun x => fldR x 9) (hkc_46 b (by rw [kb]; decide))).trans (hrr11_9 b kb)
  have hrr11_10 : ∀ b, kd b = 11 → fldR (f_45 b) 10 = fldR (f b) 10 := fun b kb => (congrArg (fun x => fldR x 10) (hkc_46 b (by rw [kb]; decide))).trans (hrr11_10 b kb)
  have hrr11_16 : ∀ b, kd b = 11 → fldR (f_45 b) 16 = fldR (f b) 16 := fun b kb => (congrArg (fun x => fldR x 16) (hkc_46 b (by rw [kb]; decide))).trans (hrr11_16 b kb)
  refine lv_istore (lv' := [(4, .int x_44), (0, .ref o0), (1, .int p1), (2, .int p2), (3, .int p3)]) hx hb dX11_keepCouple_16 hl (by decide) rfl (fun ls hl => ?_)
  refine lv_aload_n hx hb dX11_keepCouple_18 rfl (lv_at hl 1 rfl) ?_
  refine tk_getP (D := (dC, dI)) (ci := 11) (v := .ref a_5) (C := RX11) (T := TX11) (N := 19) hx hb hU inlX11 hown hK hP mo0 hfo_48 rfl 3 (by decide) (hU _ wd_19) (fun _ h9 => h9) rfl dX11_keepCouple_19 ?_
  refine tk_getP (D := (dC, dI)) (ci := 7) (v := .ref a_38) (C := RX7) (T := TX7) (N := 16) hx hb hU inlX7 hown hK hP ma_5 hfo_50 rfl 14 (by decide) (hU _ wd_1001) (fun _ h9 => h9) rfl dX11_keepCouple_22 ?_
  refine lv_iload_n hx hb dX11_keepCouple_25 rfl (lv_at hl 3 rfl) ?_
  refine lv_aload_n hx hb dX11_keepCouple_26 rfl (lv_at hl 1 rfl) ?_
  refine tk_getP (D := (dC, dI)) (ci := 11) (v := .ref a_19) (C := RX11) (T := TX11) (N := 19) hx hb hU inlX11 hown hK hP mo0 hfo_48 rfl 17 (by decide) (hU _ wd_43) (fun _ h9 => h9) rfl dX11_keepCouple_27 ?_
  refine lv_iload hx hb dX11_keepCouple_30 (lv_at hl 0 rfl) ?_
  obtain ⟨a_53, a_54, v_55, hfo_52, ⟨ma_53, ka_53⟩, ⟨ma_54, ka_54⟩, bv_55⟩ := un_13 (hG _ ma_38) ka_38
  refine tk_ViP (As := [.int p2, .ref a_19, .int x_44]) (rest := []) (n := 3) hx hb hml hown hU hN hZ (s_X9_copyTo_k13_a505_n l (dC, dI) cI cL cZ cR cG cH Z kd L f_45 hG a_38 ma_38 ka_38 p2 a_19 ma_19 ka_19 x_44 (by constructor <;> omega)) wd_1006 wd_1007 wd_1008 wd_85 wd_1009 (by decide +kernel) ⟨Nat.le_of_ble_eq_true rfl, Nat.le_of_ble_eq_true rfl⟩ hK hP hD hS ma_38 hfo_52 9 rfl rfl rfl hl.1 rfl (Nat.le_of_ble_eq_true rfl) dX11_keepCouple_32 ⟨Nat.le_of_ble_eq_true rfl, Nat.le_of_ble_eq_true rfl⟩ (fun x_56 f_57 H locs hw hP hD hS => ?_)
  obtain ⟨hG, bx_56, hkc_58⟩ := hw
  have hfo_60 : f_57 o0 = .inr (11, [.ref a_2, .int v_3, .ref a_4, .ref a_5, .ref a_6, .ref a_7, .ref a_8, .ref a_9, .int v_10, .ref a_11, .ref a_12, .ref a_13, .int v_14, .int v_15, .ref a_16, .int v_17, .ref a_18, .ref a_19, .int v_20]) := by rw [hkc_58 o0 (by rw [ko0]; decide)]; exact hfo_48
  have hfo_61 : f_57 a_18 = .inl (cI, 16, .inl g_22) := by rw [hkc_58 a_18 (by rw [ka_18]; decide)]; exact hfo_49
  have hfo_62 : f_57 a_5 = .inr (7, [.ref a_24, .int v_25, .ref a_26, .ref a_27, .ref a_28, .ref a_29, .int v_30, .ref a_31, .ref a_32, .ref a_33, .ref a_34, .ref a_35, .int v_36, .ref a_37, .ref a_38, .ref a_39]) := by rw [hkc_58 a_5 (by rw [ka_5]; decide)]; exact hfo_50
  have hfo_63 : f_57 a_37 = .inr (9, [.ref a_41, .ref a_42, .int v_43]) := by rw [hkc_58 a_37 (by rw [ka_37]; decide)]; exact hfo_51
  have hfo_64 : f_57 a_38 = .inr (9, [.ref a_53, .ref a_54, .int v_55]) := by rw [hkc_58 a_38 (by rw [ka_38]; decide)]; exact hfo_52
  have hfr0 : ∀ b, kd b ≠ 3 → kd b ≠ 11 → kd b ≠ 505 → kd b ≠ 507 → kd b ≠ 525 → kd b ≠ 527 → kd b ≠ 539 → f_57 b = f b := fun b q3 q11 q505 q507 q525 q527 q539 => (hkc_58 b q505).trans (hfr0 b q3 q11 q505 q507 q525 q527 q539)
  have hfr11_1 : ∀ b, kd b = 11 → fldI (f_57 b) 1 = fldI (f b) 1 := fun b kb => (congrArg (fun x => fldI x 1) (hkc_58 b (by rw [kb]; decide))).trans (hfr11_1 b kb)
  have hfr11_8 : ∀ b, kd b = 11 → fldI (f_57 b) 8 = fldI (f b) 8 := fun b kb => (congrArg (fun x => fldI x 8) (hkc_58 b (by rw [kb]; decide))).trans (hfr11_8 b kb)
  have hrr3_0 : ∀ b, kd b = 3 → fldR (f_57 b) 0 = fldR (f b) 0 := fun b kb => (congrArg (fun x => fldR x 0) (hkc_58 b (by rw [kb]; decide))).trans (hrr3_0 b kb)
  have hrr3_3 : ∀ b, kd b = 3 → fldR (f_57 b) 3 = fldR (f b) 3 := fun b kb => (congrArg (fun x => fldR x 3) (hkc_58 b (by rw [kb]; decide))).trans (hrr3_3 b kb)
  have hrr11_2 : ∀ b, kd b = 11 → fldR (f_57 b) 2 = fldR (f b) 2 := fun b kb => (congrArg (fun x => fldR x 2) (hkc_58 b (by rw [kb]; decide))).trans (hrr11_2 b kb)
  have hrr11_3 : ∀ b, kd b = 11 → fldR (f_57 b) 3 = fldR (f b) 3 := fun b kb => (congrArg (fun x => fldR x 3) (hkc_58 b (by rw [kb]; decide))).trans (hrr11_3 b kb)
  have hrr11_5 : ∀ b, kd b = 11 → fldR (f_57 b) 5 = fldR (f b) 5 := fun b kb => (congrArg (fun x => fldR x 5) (hkc_58 b (by rw [kb]; decide))).trans (hrr11_5 b kb)
  have hrr11_6 : ∀ b, kd b = 11 → fldR (f_57 b) 6 = fldR (f b) 6 := fun b kb => (congrArg (fun x => fldR x 6) (hkc_58 b (by rw [kb]; decide))).trans (hrr11_6 b kb)
  have hrr11_7 : ∀ b, kd b = 11 → fldR (f_57 b) 7 = fldR (f b) 7 := fun b kb => (congrArg (fun x => fldR x 7) (hkc_58 b (by rw [kb]; decide))).trans (hrr11_7 b kb)
  have hrr11_9 : ∀ b, kd b = 11 → fldR (f_57 b) 9 = fldR (f b) 9 := fun b kb => (congrArg (fun x => fldR x 9) (hkc_58 b (by rw [kb]; decide))).trans (hrr11_9 b kb)
  have hrr11_10 : ∀ b, kd b = 11 → fldR (f_57 b) 10 = fldR (f b) 10 := fun b kb => (congrArg (fun x => fldR x 10) (hkc_58 b (by rw [kb]; decide))).trans (hrr11_10 b kb)
  have hrr11_16 : ∀ b, kd b = 11 → fldR (f_57 b) 16 = fldR (f b) 16 := fun b kb => (congrArg (fun x => fldR x 16) (hkc_58 b (by rw [kb]; decide))).trans (hrr11_16 b kb)
  refine lv_istore (lv' := [(5, .int x_56), (4, .int x_44), (0, .ref o0), (1, .int p1), (2, .int p2), (3, .int p3)]) hx hb dX11_keepCouple_35 hl (by decide) rfl (fun ls hl => ?_)
  refine lv_aload_n hx hb dX11_keepCouple_37 rfl (lv_at hl 2 rfl) ?_
  refine tk_getP (D := (dC, dI)) (ci := 11) (v := .ref a_4) (C := RX11) (T := TX11) (N := 19) hx hb hU inlX11 hown hK hP mo0 hfo_60 rfl 2 (by decide) (hU _ wd_17) (fun _ h9 => h9) rfl dX11_keepCouple_38 ?_
  refine lv_aload_n hx hb dX11_keepCouple_41 rfl (lv_at hl 2 rfl) ?_
  refine tk_getP (D := (dC, dI)) (ci := 11) (v := .ref a_18) (C := RX11) (T := TX11) (N := 19) hx hb hU inlX11 hown hK hP mo0 hfo_60 rfl 16 (by decide) (hU _ wd_42) (fun _ h9 => h9) rfl dX11_keepCouple_42 ?_
  refine lv_iload_n hx hb dX11_keepCouple_45 rfl (lv_at hl 5 rfl) ?_
  obtain ⟨a_66, a_67, a_68, a_69, a_70, v_71, v_72, v_73, v_74, v_75, v_76, v_77, a_78, a_79, a_80, v_81, a_82, a_83, hfo_65, ⟨ma_66, ka_66⟩, ⟨ma_67, ka_67⟩, ⟨ma_68, ka_68⟩, ⟨ma_69, ka_69⟩, ⟨ma_70, ka_70⟩, bv_71, bv_72, bv_73, ⟨ma_78, ka_78⟩, ⟨ma_79, ka_79⟩, ⟨ma_80, ka_80⟩, bv_81, ⟨ma_82, ka_82⟩, ⟨ma_83, ka_83⟩⟩ := un_3 (hG _ ma_4) ka_4
  have bv_74 : ((-2147483648) ≤ v_74.toInt ∧ v_74.toInt ≤ 2147483647) := ⟨i32_lo _, i32_hi _⟩
  have bv_75 : ((-2147483648) ≤ v_75.toInt ∧ v_75.toInt ≤ 2147483647) := ⟨i32_lo _, i32_hi _⟩
  have bv_76 : ((-2147483648) ≤ v_76.toInt ∧ v_76.toInt ≤ 2147483647) := ⟨i32_lo _, i32_hi _⟩
  have bv_77 : ((-2147483648) ≤ v_77.toInt ∧ v_77.toInt ≤ 2147483647) := ⟨i32_lo _, i32_hi _⟩
  refine tk_VvP (As := [.ref a_18, .int p3]) (rest := []) (n := 2) hx hb hml hown hU hN hZ (s_X3_takeSigns_k3_a540_w l (dC, dI) cI cL cZ cR cG cH Z kd L f_57 hG a_4 ma_4 ka_4 a_18 ma_18 ka_18 p3 (fun g9 h9 j hj => by rw [hfo_61] at h9; cases h9; have h8 := htd j (by omega); omega)) wd_718 wd_719 wd_720 wd_16 wd_721 (by decide +kernel) ⟨Nat.le_of_ble_eq_true rfl, Nat.le_of_ble_eq_true rfl⟩ hK hP hD hS ma_4 hfo_65 3 rfl rfl rfl hl.1 rfl (Nat.le_of_ble_eq_true rfl) dX11_keepCouple_46 ⟨Nat.le_of_ble_eq_true rfl, Nat.le_of_ble_eq_true rfl⟩ (fun f_85 H locs hw hP hD hS => ?_)
  obtain ⟨hG, hkc_86, hrc_87, hrc_88⟩ := hw
  have hfo_90 : f_85 o0 = .inr (11, [.ref a_2, .int v_3, .ref a_4, .ref a_5, .ref a_6, .ref a_7, .ref a_8, .ref a_9, .int v_10, .ref a_11, .ref a_12, .ref a_13, .int v_14, .int v_15, .ref a_16, .int v_17, .ref a_18, .ref a_19, .int v_20]) := by rw [hkc_86 o0 (by rw [ko0]; decide) (by rw [ko0]; decide)]; exact hfo_60
  have hfo_91 : f_85 a_18 = .inl (cI, 16, .inl g_22) := by rw [hkc_86 a_18 (by rw [ka_18]; decide) (by rw [ka_18]; decide)]; exact hfo_61
  have hfo_92 : f_85 a_5 = .inr (7, [.ref a_24, .int v_25, .ref a_26, .ref a_27, .ref a_28, .ref a_29, .int v_30, .ref a_31, .ref a_32, .ref a_33, .ref a_34, .ref a_35, .int v_36, .ref a_37, .ref a_38, .ref a_39]) := by rw [hkc_86 a_5 (by rw [ka_5]; decide) (by rw [ka_5]; decide)]; exact hfo_62
  have hfo_93 : f_85 a_37 = .inr (9, [.ref a_41, .ref a_42, .int v_43]) := by rw [hkc_86 a_37 (by rw [ka_37]; decide) (by rw [ka_37]; decide)]; exact hfo_63
  have hfo_94 : f_85 a_38 = .inr (9, [.ref a_53, .ref a_54, .int v_55]) := by rw [hkc_86 a_38 (by rw [ka_38]; decide) (by rw [ka_38]; decide)]; exact hfo_64
  have hfr0 : ∀ b, kd b ≠ 3 → kd b ≠ 11 → kd b ≠ 505 → kd b ≠ 507 → kd b ≠ 525 → kd b ≠ 527 → kd b ≠ 539 → f_85 b = f b := fun b q3 q11 q505 q507 q525 q527 q539 => (hkc_86 b q3 q507).trans (hfr0 b q3 q11 q505 q507 q525 q527 q539)
  have hfr11_1 : ∀ b, kd b = 11 → fldI (f_85 b) 1 = fldI (f b) 1 := fun b kb => (congrArg (fun x => fldI x 1) (hkc_86 b (by rw [kb]; decide) (by rw [kb]; decide))).trans (hfr11_1 b kb)
  have hfr11_8 : ∀ b, kd b = 11 → fldI (f_85 b) 8 = fldI (f b) 8 := fun b kb => (congrArg (fun x => fldI x 8) (hkc_86 b (by rw [kb]; decide) (by rw [kb]; decide))).trans (hfr11_8 b kb)
  have hrr3_0 : ∀ b, kd b = 3 → fldR (f_85 b) 0 = fldR (f b) 0 := fun b kb => (hrc_87 b kb).trans (hrr3_0 b kb)
  have hrr3_3 : ∀ b, kd b = 3 → fldR (f_85 b) 3 = fldR (f b) 3 := fun b kb => (hrc_88 b kb).trans (hrr3_3 b kb)
  have hrr11_2 : ∀ b, kd b = 11 → fldR (f_85 b) 2 = fldR (f b) 2 := fun b kb => (congrArg (fun x => fldR x 2) (hkc_86 b (by rw [kb]; decide) (by rw [kb]; decide))).trans (hrr11_2 b kb)
  have hrr11_3 : ∀ b, kd b = 11 → fldR (f_85 b) 3 = fldR (f b) 3 := fun b kb => (congrArg (fun x => fldR x 3) (hkc_86 b (by rw [kb]; decide) (by rw [kb]; decide))).trans (hrr11_3 b kb)
  have hrr11_5 : ∀ b, kd b = 11 → fldR (f_85 b) 5 = fldR (f b) 5 := fun b kb => (congrArg (fun x => fldR x 5) (hkc_86 b (by rw [kb]; decide) (by rw [kb]; decide))).trans (hrr11_5 b kb)
  have hrr11_6 : ∀ b, kd b = 11 → fldR (f_85 b) 6 = fldR (f b) 6 := fun b kb => (congrArg (fun x => fldR x 6) (hkc_86 b (by rw [kb]; decide) (by rw [kb]; decide))).trans (hrr11_6 b kb)
  have hrr11_7 : ∀ b, kd b = 11 → fldR (f_85 b) 7 = fldR (f b) 7 := fun b kb => (congrArg (fun x => fldR x 7) (hkc_86 b (by rw [kb]; decide) (by rw [kb]; decide))).trans (hrr11_7 b kb)
  have hrr11_9 : ∀ b, kd b = 11 → fldR (f_85 b) 9 = fldR (f b) 9 := fun b kb => (congrArg (fun x => fldR x 9) (hkc_86 b (by rw [kb]; decide) (by rw [kb]; decide))).trans (hrr11_9 b kb)
  have hrr11_10 : ∀ b, kd b = 11 → fldR (f_85 b) 10 = fldR (f b) 10 := fun b kb => (congrArg (fun x => fldR x 10) (hkc_86 b (by rw [kb]; decide) (by rw [kb]; decide))).trans (hrr11_10 b kb)
  have hrr11_16 : ∀ b, kd b = 11 → fldR (f_85 b) 16 = fldR (f b) 16 := fun b kb => (congrArg (fun x => fldR x 16) (hkc_86 b (by rw [kb]; decide) (by rw [kb]; decide))).trans (hrr11_16 b kb)
  obtain ⟨a_96, a_97, a_98, a_99, a_100, v_101, v_102, v_103, v_104, v_105, v_106, v_107, a_108, a_109, a_110, v_111, a_112, a_113, hfo_95, ⟨ma_96, ka_96⟩, ⟨ma_97, ka_97⟩, ⟨ma_98, ka_98⟩, ⟨ma_99, ka_99⟩, ⟨ma_100, ka_100⟩, bv_101, bv_102, bv_103, ⟨ma_108, ka_108⟩, ⟨ma_109, ka_109⟩, ⟨ma_110, ka_110⟩, bv_111, ⟨ma_112, ka_112⟩, ⟨ma_113, ka_113⟩⟩ := un_3 (hG _ ma_4) ka_4
  have bv_104 : ((-2147483648) ≤ v_104.toInt ∧ v_104.toInt ≤ 2147483647) := ⟨i32_lo _, i32_hi _⟩
  have bv_105 : ((-2147483648) ≤ v_105.toInt ∧ v_105.toInt ≤ 2147483647) := ⟨i32_lo _, i32_hi _⟩
  have bv_106 : ((-2147483648) ≤ v_106.toInt ∧ v_106.toInt ≤ 2147483647) := ⟨i32_lo _, i32_hi _⟩
  have bv_107 : ((-2147483648) ≤ v_107.toInt ∧ v_107.toInt ≤ 2147483647) := ⟨i32_lo _, i32_hi _⟩
  obtain rfl : a_66 = a_96 := by have hk9 := hrc_87 a_4 ka_4; rw [hfo_95, hfo_65] at hk9; exact (Option.some.inj hk9).symm
  obtain rfl : a_69 = a_99 := by have hk9 := hrc_88 a_4 ka_4; rw [hfo_95, hfo_65] at hk9; exact (Option.some.inj hk9).symm
  refine lv_aload_n hx hb dX11_keepCouple_49 rfl (lv_at hl 2 rfl) ?_
  refine tk_getP (D := (dC, dI)) (ci := 11) (v := .ref a_4) (C := RX11) (T := TX11) (N := 19) hx hb hU inlX11 hown hK hP mo0 hfo_90 rfl 2 (by decide) (hU _ wd_17) (fun _ h9 => h9) rfl dX11_keepCouple_50 ?_
  refine lv_aload_n hx hb dX11_keepCouple_53 rfl (lv_at hl 2 rfl) ?_
  refine tk_getP (D := (dC, dI)) (ci := 11) (v := .ref a_19) (C := RX11) (T := TX11) (N := 19) hx hb hU inlX11 hown hK hP mo0 hfo_90 rfl 17 (by decide) (hU _ wd_43) (fun _ h9 => h9) rfl dX11_keepCouple_54 ?_
  refine lv_iload hx hb dX11_keepCouple_57 (lv_at hl 0 rfl) ?_
  refine lv_aload_n hx hb dX11_keepCouple_59 rfl (lv_at hl 2 rfl) ?_
  refine tk_getP (D := (dC, dI)) (ci := 11) (v := .ref a_7) (C := RX11) (T := TX11) (N := 19) hx hb hU inlX11 hown hK hP mo0 hfo_90 rfl 5 (by decide) (hU _ wd_25) (fun _ h9 => h9) rfl dX11_keepCouple_60 ?_
  obtain ⟨v_115, v_116, a_117, a_118, a_119, v_120, a_121, a_122, a_123, hfo_114, bv_116, ⟨ma_117, ka_117⟩, ⟨ma_118, ka_118⟩, ⟨ma_119, ka_119⟩, ⟨ma_121, ka_121⟩, ⟨ma_122, ka_122⟩, ⟨ma_123, ka_123⟩⟩ := un_6 (hG _ ma_7) ka_7
  have bv_115 : ((-2147483648) ≤ v_115.toInt ∧ v_115.toInt ≤ 2147483647) := ⟨i32_lo _, i32_hi _⟩
  have bv_120 : ((-2147483648) ≤ v_120.toInt ∧ v_120.toInt ≤ 2147483647) := ⟨i32_lo _, i32_hi _⟩
  refine tk_getP (D := (dC, dI)) (ci := 6) (v := .int v_115) (C := RX6) (T := TX6) (N := 9) hx hb hU inlX6 hown hK hP ma_7 hfo_114 rfl 0 (by decide) (hU _ wd_677) (fun _ h9 => h9) rfl dX11_keepCouple_63 ?_
  refine lv_aload_n hx hb dX11_keepCouple_66 rfl (lv_at hl 2 rfl) ?_
  refine tk_getP (D := (dC, dI)) (ci := 11) (v := .ref a_7) (C := RX11) (T := TX11) (N := 19) hx hb hU inlX11 hown hK hP mo0 hfo_90 rfl 5 (by decide) (hU _ wd_25) (fun _ h9 => h9) rfl dX11_keepCouple_67 ?_
  refine tk_getP (D := (dC, dI)) (ci := 6) (v := .int v_116) (C := RX6) (T := TX6) (N := 9) hx hb hU inlX6 hown hK hP ma_7 hfo_114 rfl 1 (by decide) (hU _ wd_694) (fun _ h9 => h9) rfl dX11_keepCouple_70 ?_
  refine tk_ViP (As := [.ref a_19, .int x_56, .int v_115, .int v_116]) (rest := []) (n := 4) hx hb hml hown hU hN hZ (s_X3_isSaidAs_k3_a505 l (dC, dI) cI cL cZ cR cG cH Z kd L f_85 hG a_4 ma_4 ka_4 a_19 ma_19 ka_19 x_56 (by constructor <;> omega) v_115 v_116 (by constructor <;> omega)) wd_1014 wd_1015 wd_1016 wd_16 wd_1017 (by decide +kernel) ⟨Nat.le_of_ble_eq_true rfl, Nat.le_of_ble_eq_true rfl⟩ hK hP hD hS ma_4 hfo_95 3 rfl rfl rfl hl.1 rfl (Nat.le_of_ble_eq_true rfl) dX11_keepCouple_73 ⟨Nat.le_of_ble_eq_true rfl, Nat.le_of_ble_eq_true rfl⟩ (fun x_124 f_125 H locs hw hP hD hS => ?_)
  obtain ⟨hG, bx_124, hkc_126⟩ := hw
  have hfo_128 : f_125 o0 = .inr (11, [.ref a_2, .int v_3, .ref a_4, .ref a_5, .ref a_6, .ref a_7, .ref a_8, .ref a_9, .int v_10, .ref a_11, .ref a_12, .ref a_13, .int v_14, .int v_15, .ref a_16, .int v_17, .ref a_18, .ref a_19, .int v_20]) := by rw [hkc_126 o0 (by rw [ko0]; decide) (by rw [ko0]; decide)]; exact hfo_90
  have hfo_129 : f_125 a_18 = .inl (cI, 16, .inl g_22) := by rw [hkc_126 a_18 (by rw [ka_18]; decide) (by rw [ka_18]; decide)]; exact hfo_91
  have hfo_130 : f_125 a_5 = .inr (7, [.ref a_24, .int v_25, .ref a_26, .ref a_27, .ref a_28, .ref a_29, .int v_30, .ref a_31, .ref a_32, .ref a_33, .ref a_34, .ref a_35, .int v_36, .ref a_37, .ref a_38, .ref a_39]) := by rw [hkc_126 a_5 (by rw [ka_5]; decide) (by rw [ka_5]; decide)]; exact hfo_92
  have hfo_131 : f_125 a_37 = .inr (9, [.ref a_41, .ref a_42, .int v_43]) := by rw [hkc_126 a_37 (by rw [ka_37]; decide) (by rw [ka_37]; decide)]; exact hfo_93
  have hfo_132 : f_125 a_38 = .inr (9, [.ref a_53, .ref a_54, .int v_55]) := by rw [hkc_126 a_38 (by rw [ka_38]; decide) (by rw [ka_38]; decide)]; exact hfo_94
  have hfo_133 : f_125 a_4 = .inr (3, [.ref a_66, .ref a_97, .ref a_98, .ref a_69, .ref a_100, .int v_101, .int v_102, .int v_103, .int v_104, .int v_105, .int v_106, .int v_107, .ref a_108, .ref a_109, .ref a_110, .int v_111, .ref a_112, .ref a_113]) := by rw [hkc_126 a_4 (by rw [ka_4]; decide) (by rw [ka_4]; decide)]; exact hfo_95
  have hfo_134 : f_125 a_7 = .inr (6, [.int v_115, .int v_116, .ref a_117, .ref a_118, .ref a_119, .int v_120, .ref a_121, .ref a_122, .ref a_123]) := by rw [hkc_126 a_7 (by rw [ka_7]; decide) (by rw [ka_7]; decide)]; exact hfo_114
  have hfr0 : ∀ b, kd b ≠ 3 → kd b ≠ 11 → kd b ≠ 505 → kd b ≠ 507 → kd b ≠ 525 → kd b ≠ 527 → kd b ≠ 539 → f_125 b = f b := fun b q3 q11 q505 q507 q525 q527 q539 => (hkc_126 b q525 q527).trans (hfr0 b q3 q11 q505 q507 q525 q527 q539)
  have hfr11_1 : ∀ b, kd b = 11 → fldI (f_125 b) 1 = fldI (f b) 1 := fun b kb => (congrArg (fun x => fldI x 1) (hkc_126 b (by rw [kb]; decide) (by rw [kb]; decide))).trans (hfr11_1 b kb)
  have hfr11_8 : ∀ b, kd b = 11 → fldI (f_125 b) 8 = fldI (f b) 8 := fun b kb => (congrArg (fun x => fldI x 8) (hkc_126 b (by rw [kb]; decide) (by rw [kb]; decide))).trans (hfr11_8 b kb)
  have hrr3_0 : ∀ b, kd b = 3 → fldR (f_125 b) 0 = fldR (f b) 0 := fun b kb => (congrArg (fun x => fldR x 0) (hkc_126 b (by rw [kb]; decide) (by rw [kb]; decide))).trans (hrr3_0 b kb)
  have hrr3_3 : ∀ b, kd b = 3 → fldR (f_125 b) 3 = fldR (f b) 3 := fun b kb => (congrArg (fun x => fldR x 3) (hkc_126 b (by rw [kb]; decide) (by rw [kb]; decide))).trans (hrr3_3 b kb)
  have hrr11_2 : ∀ b, kd b = 11 → fldR (f_125 b) 2 = fldR (f b) 2 := fun b kb => (congrArg (fun x => fldR x 2) (hkc_126 b (by rw [kb]; decide) (by rw [kb]; decide))).trans (hrr11_2 b kb)
  have hrr11_3 : ∀ b, kd b = 11 → fldR (f_125 b) 3 = fldR (f b) 3 := fun b kb => (congrArg (fun x => fldR x 3) (hkc_126 b (by rw [kb]; decide) (by rw [kb]; decide))).trans (hrr11_3 b kb)
  have hrr11_5 : ∀ b, kd b = 11 → fldR (f_125 b) 5 = fldR (f b) 5 := fun b kb => (congrArg (fun x => fldR x 5) (hkc_126 b (by rw [kb]; decide) (by rw [kb]; decide))).trans (hrr11_5 b kb)
  have hrr11_6 : ∀ b, kd b = 11 → fldR (f_125 b) 6 = fldR (f b) 6 := fun b kb => (congrArg (fun x => fldR x 6) (hkc_126 b (by rw [kb]; decide) (by rw [kb]; decide))).trans (hrr11_6 b kb)
  have hrr11_7 : ∀ b, kd b = 11 → fldR (f_125 b) 7 = fldR (f b) 7 := fun b kb => (congrArg (fun x => fldR x 7) (hkc_126 b (by rw [kb]; decide) (by rw [kb]; decide))).trans (hrr11_7 b kb)
  have hrr11_9 : ∀ b, kd b = 11 → fldR (f_125 b) 9 = fldR (f b) 9 := fun b kb => (congrArg (fun x => fldR x 9) (hkc_126 b (by rw [kb]; decide) (by rw [kb]; decide))).trans (hrr11_9 b kb)
  have hrr11_10 : ∀ b, kd b = 11 → fldR (f_125 b) 10 = fldR (f b) 10 := fun b kb => (congrArg (fun x => fldR x 10) (hkc_126 b (by rw [kb]; decide) (by rw [kb]; decide))).trans (hrr11_10 b kb)
  have hrr11_16 : ∀ b, kd b = 11 → fldR (f_125 b) 16 = fldR (f b) 16 := fun b kb => (congrArg (fun x => fldR x 16) (hkc_126 b (by rw [kb]; decide) (by rw [kb]; decide))).trans (hrr11_16 b kb)
  refine lv_if_eq (tgt := 104) hx hb dX11_keepCouple_76 (by decide) (fun c_135 => ?_) (fun c_135 => ?_)
  · skip
    rw [← Int32.toInt_inj, ti_0] at c_135
    exact W.vret hx hb hr (fun t ht hW => ⟨⟨f_125, rfl, ⟨hG, hfr0, hfr11_1, hfr11_8, hrr3_0, hrr3_3, hrr11_2, hrr11_3, hrr11_5, hrr11_6, hrr11_7, hrr11_9, hrr11_10, hrr11_16, (by intro w12 z12 e12 d12; rw [hfo_1] at e12; rw [hfo_128] at d12; obtain rfl := Option.some.inj e12; obtain rfl := Option.some.inj d12; omega)⟩, by rw [ht]; exact hP, va_K.moved hW.alike hK, pl_in hD⟩, hS.F ht⟩) hS.2.2 dX11_keepCouple_104
  · skip
    rw [← Int32.toInt_inj, ti_0] at c_135
    refine lv_aload_n hx hb dX11_keepCouple_79 rfl (lv_at hl 2 rfl) ?_
    refine tk_getP (D := (dC, dI)) (ci := 11) (v := .ref a_13) (C := RX11) (T := TX11) (N := 19) hx hb hU inlX11 hown hK hP mo0 hfo_128 rfl 11 (by decide) (hU _ wd_39) (fun _ h9 => h9) rfl dX11_keepCouple_80 ?_
    refine lv_aload_n hx hb dX11_keepCouple_83 rfl (lv_at hl 2 rfl) ?_
    refine tk_getP (D := (dC, dI)) (ci := 11) (v := .int v_14) (C := RX11) (T := TX11) (N := 19) hx hb hU inlX11 hown hK hP mo0 hfo_128 rfl 12 (by decide) (hU _ wd_237) (fun _ h9 => h9) rfl dX11_keepCouple_84 ?_
    refine lv_iload_n hx hb dX11_keepCouple_87 rfl (lv_at hl 3 rfl) ?_
    refine lv_bipush (v := 8) hx hb dX11_keepCouple_88 (by decide) ?_
    refine lv_imul hx hb dX11_keepCouple_90 ?_
    refine lv_topi (fun x_136 ex_136 => ?_)
    have hx_136 : x_136.toInt = p1.toInt * 8 := by rw [ex_136, ml_I (by rw [ti_8]; omega) (by rw [ti_8]; omega), ti_8]
    have bx_136 : (0 ≤ x_136.toInt ∧ x_136.toInt ≤ 88) := by constructor <;> omega
    refine lv_iload_n hx hb dX11_keepCouple_91 rfl (lv_at hl 4 rfl) ?_
    refine lv_iadd hx hb dX11_keepCouple_92 ?_
    refine lv_topi (fun x_137 ex_137 => ?_)
    have hx_137 : x_137.toInt = x_136.toInt + p2.toInt := by rw [ex_137, ad_I (by omega) (by omega)]
    have bx_137 : (0 ≤ x_137.toInt ∧ x_137.toInt ≤ 95) := by constructor <;> omega
    obtain ⟨g_139, hfo_138, hbg_139⟩ := un_539 (hG _ ma_13) ka_13
    refine tk_istP hx hb hK hP hD hS 0 ma_13 hfo_138 rfl (vp_in_iff.mpr (by constructor <;> omega)) dX11_keepCouple_93 (fun H locs hP hD hS => ?_)
    obtain ⟨f_141, ef_141⟩ : ∃ y : Nat → va_E, y = va_up f_125 a_13 (.inl (cI, 96, .inl (upd g_139 (Int32.toNatClampNeg v_14) x_137))) := ⟨_, rfl⟩
    have hP : va_P (dC, dI) vwCl (va_pl L f_141) H := by rw [ef_141]; exact hP
    have hD : va_D (fun q => q ∈ L) (va_pl L f_141) := by rw [ef_141]; exact hD
    have hG : GI (okc cI cL cZ cR cG cH L kd) kd L f_141 := by rw [ef_141]; exact hG.set a_13 (mk_539 ka_13 ⟨_, rfl, okI_up hbg_139 ⟨i32_lo _, i32_hi _⟩ _⟩)
    have hfo_142 : f_141 o0 = .inr (11, [.ref a_2, .int v_3, .ref a_4, .ref a_5, .ref a_6, .ref a_7, .ref a_8, .ref a_9, .int v_10, .ref a_11, .ref a_12, .ref a_13, .int v_14, .int v_15, .ref a_16, .int v_17, .ref a_18, .ref a_19, .int v_20]) := by rw [ef_141, up_ne (kd_ne ka_13 ko0 (by decide))]; exact hfo_128
    have hfo_143 : f_141 a_18 = .inl (cI, 16, .inl g_22) := by rw [ef_141, up_ne (kd_ne ka_13 ka_18 (by decide))]; exact hfo_129
    have hfo_144 : f_141 a_5 = .inr (7, [.ref a_24, .int v_25, .ref a_26, .ref a_27, .ref a_28, .ref a_29, .int v_30, .ref a_31, .ref a_32, .ref a_33, .ref a_34, .ref a_35, .int v_36, .ref a_37, .ref a_38, .ref a_39]) := by rw [ef_141, up_ne (kd_ne ka_13 ka_5 (by decide))]; exact hfo_130
    have hfo_145 : f_141 a_37 = .inr (9, [.ref a_41, .ref a_42, .int v_43]) := by rw [ef_141, up_ne (kd_ne ka_13 ka_37 (by decide))]; exact hfo_131
    have hfo_146 : f_141 a_38 = .inr (9, [.ref a_53, .ref a_54, .int v_55]) := by rw [ef_141, up_ne (kd_ne ka_13 ka_38 (by decide))]; exact hfo_132
    have hfo_147 : f_141 a_4 = .inr (3, [.ref a_66, .ref a_97, .ref a_98, .ref a_69, .ref a_100, .int v_101, .int v_102, .int v_103, .int v_104, .int v_105, .int v_106, .int v_107, .ref a_108, .ref a_109, .ref a_110, .int v_111, .ref a_112, .ref a_113]) := by rw [ef_141, up_ne (kd_ne ka_13 ka_4 (by decide))]; exact hfo_133
    have hfo_148 : f_141 a_7 = .inr (6, [.int v_115, .int v_116, .ref a_117, .ref a_118, .ref a_119, .int v_120, .ref a_121, .ref a_122, .ref a_123]) := by rw [ef_141, up_ne (kd_ne ka_13 ka_7 (by decide))]; exact hfo_134
    have hfr0 : ∀ b, kd b ≠ 3 → kd b ≠ 11 → kd b ≠ 505 → kd b ≠ 507 → kd b ≠ 525 → kd b ≠ 527 → kd b ≠ 539 → f_141 b = f b := fun b q3 q11 q505 q507 q525 q527 q539 => (congrFun ef_141 b).trans ((up_ne (fun e9 => q539 (by rw [e9]; exact ka_13))).trans (hfr0 b q3 q11 q505 q507 q525 q527 q539))
    have hfr11_1 : ∀ b, kd b = 11 → fldI (f_141 b) 1 = fldI (f b) 1 := fun b kb => (congrArg (fun x => fldI x 1) ((congrFun ef_141 b).trans (up_ne (kd_ne ka_13 kb (by decide))))).trans (hfr11_1 b kb)
    have hfr11_8 : ∀ b, kd b = 11 → fldI (f_141 b) 8 = fldI (f b) 8 := fun b kb => (congrArg (fun x => fldI x 8) ((congrFun ef_141 b).trans (up_ne (kd_ne ka_13 kb (by decide))))).trans (hfr11_8 b kb)
    have hrr3_0 : ∀ b, kd b = 3 → fldR (f_141 b) 0 = fldR (f b) 0 := fun b kb => (congrArg (fun x => fldR x 0) ((congrFun ef_141 b).trans (up_ne (kd_ne ka_13 kb (by decide))))).trans (hrr3_0 b kb)
    have hrr3_3 : ∀ b, kd b = 3 → fldR (f_141 b) 3 = fldR (f b) 3 := fun b kb => (congrArg (fun x => fldR x 3) ((congrFun ef_141 b).trans (up_ne (kd_ne ka_13 kb (by decide))))).trans (hrr3_3 b kb)
    have hrr11_2 : ∀ b, kd b = 11 → fldR (f_141 b) 2 = fldR (f b) 2 := fun b kb => (congrArg (fun x => fldR x 2) ((congrFun ef_141 b).trans (up_ne (kd_ne ka_13 kb (by decide))))).trans (hrr11_2 b kb)
    have hrr11_3 : ∀ b, kd b = 11 → fldR (f_141 b) 3 = fldR (f b) 3 := fun b kb => (congrArg (fun x => fldR x 3) ((congrFun ef_141 b).trans (up_ne (kd_ne ka_13 kb (by decide))))).trans (hrr11_3 b kb)
    have hrr11_5 : ∀ b, kd b = 11 → fldR (f_141 b) 5 = fldR (f b) 5 := fun b kb => (congrArg (fun x => fldR x 5) ((congrFun ef_141 b).trans (up_ne (kd_ne ka_13 kb (by decide))))).trans (hrr11_5 b kb)
    have hrr11_6 : ∀ b, kd b = 11 → fldR (f_141 b) 6 = fldR (f b) 6 := fun b kb => (congrArg (fun x => fldR x 6) ((congrFun ef_141 b).trans (up_ne (kd_ne ka_13 kb (by decide))))).trans (hrr11_6 b kb)
    have hrr11_7 : ∀ b, kd b = 11 → fldR (f_141 b) 7 = fldR (f b) 7 := fun b kb => (congrArg (fun x => fldR x 7) ((congrFun ef_141 b).trans (up_ne (kd_ne ka_13 kb (by decide))))).trans (hrr11_7 b kb)
    have hrr11_9 : ∀ b, kd b = 11 → fldR (f_141 b) 9 = fldR (f b) 9 := fun b kb => (congrArg (fun x => fldR x 9) ((congrFun ef_141 b).trans (up_ne (kd_ne ka_13 kb (by decide))))).trans (hrr11_9 b kb)
    have hrr11_10 : ∀ b, kd b = 11 → fldR (f_141 b) 10 = fldR (f b) 10 := fun b kb => (congrArg (fun x => fldR x 10) ((congrFun ef_141 b).trans (up_ne (kd_ne ka_13 kb (by decide))))).trans (hrr11_10 b kb)
    have hrr11_16 : ∀ b, kd b = 11 → fldR (f_141 b) 16 = fldR (f b) 16 := fun b kb => (congrArg (fun x => fldR x 16) ((congrFun ef_141 b).trans (up_ne (kd_ne ka_13 kb (by decide))))).trans (hrr11_16 b kb)
    have hfo_149 : f_141 a_13 = .inl (cI, 96, .inl (upd g_139 (Int32.toNatClampNeg v_14) x_137)) := by rw [ef_141]; exact up_self
    refine lv_aload_n hx hb dX11_keepCouple_94 rfl (lv_at hl 2 rfl) ?_
    refine lv_dup hx hb dX11_keepCouple_95 rfl ?_
    refine tk_getP (D := (dC, dI)) (ci := 11) (v := .int v_14) (C := RX11) (T := TX11) (N := 19) hx hb hU inlX11 hown hK hP mo0 hfo_142 rfl 12 (by decide) (hU _ wd_237) (fun _ h9 => h9) rfl dX11_keepCouple_96 ?_
    refine lv_iconst (v := 1) hx hb dX11_keepCouple_99 (by decide) ?_
    refine lv_iadd hx hb dX11_keepCouple_100 ?_
    refine lv_topi (fun x_150 ex_150 => ?_)
    have hx_150 : x_150.toInt = v_14.toInt + 1 := by rw [ex_150, ad_I (by rw [ti_1]; omega) (by rw [ti_1]; omega), ti_1]
    have bx_150 : (1 ≤ x_150.toInt ∧ x_150.toInt ≤ 96) := by constructor <;> omega
    refine tk_putP (D := (dC, dI)) (ci := 11) (v := .int x_150) (ty := .int) (C := RX11) (T := TX11) (N := 19) hx hb hU inlX11 tyX11 tyX11_ok nmX11 hown hK hP hD hS mo0 hfo_142 rfl 12 (by decide) (hU _ wd_237) (fun _ h9 => h9) rfl (by decide +kernel) rfl rfl (Nat.le_of_ble_eq_true rfl) dX11_keepCouple_101 (fun H locs hP hD hS => ?_)
    obtain ⟨f_152, ef_152⟩ : ∃ y : Nat → va_E, y = va_up f_141 o0 (.inr (11, [.ref a_2, .int v_3, .ref a_4, .ref a_5, .ref a_6, .ref a_7, .ref a_8, .ref a_9, .int v_10, .ref a_11, .ref a_12, .ref a_13, .int x_150, .int v_15, .ref a_16, .int v_17, .ref a_18, .ref a_19, .int v_20])) := ⟨_, rfl⟩
    have hP : va_P (dC, dI) vwCl (va_pl L f_152) H := by rw [ef_152]; exact hP
    have hD : va_D (fun q => q ∈ L) (va_pl L f_152) := by rw [ef_152]; exact hD
    have hG : GI (okc cI cL cZ cR cG cH L kd) kd L f_152 := by rw [ef_152]; exact hG.set o0 (mk_11 ko0 ⟨a_2, v_3, a_4, a_5, a_6, a_7, a_8, a_9, v_10, a_11, a_12, a_13, x_150, v_15, a_16, v_17, a_18, a_19, v_20, rfl, ⟨ma_2, ka_2⟩, (by constructor <;> omega), ⟨ma_4, ka_4⟩, ⟨ma_5, ka_5⟩, ⟨ma_6, ka_6⟩, ⟨ma_7, ka_7⟩, ⟨ma_8, ka_8⟩, ⟨ma_9, ka_9⟩, (by constructor <;> omega), ⟨ma_11, ka_11⟩, ⟨ma_12, ka_12⟩, ⟨ma_13, ka_13⟩, (by constructor <;> omega), ⟨ma_16, ka_16⟩, (by constructor <;> omega), ⟨ma_18, ka_18⟩, ⟨ma_19, ka_19⟩⟩)
    have hfo_153 : f_152 a_18 = .inl (cI, 16, .inl g_22) := by rw [ef_152, up_ne (kd_ne ko0 ka_18 (by decide))]; exact hfo_143
    have hfo_154 : f_152 a_5 = .inr (7, [.ref a_24, .int v_25, .ref a_26, .ref a_27, .ref a_28, .ref a_29, .int v_30, .ref a_31, .ref a_32, .ref a_33, .ref a_34, .ref a_35, .int v_36, .ref a_37, .ref a_38, .ref a_39]) := by rw [ef_152, up_ne (kd_ne ko0 ka_5 (by decide))]; exact hfo_144
    have hfo_155 : f_152 a_37 = .inr (9, [.ref a_41, .ref a_42, .int v_43]) := by rw [ef_152, up_ne (kd_ne ko0 ka_37 (by decide))]; exact hfo_145
    have hfo_156 : f_152 a_38 = .inr (9, [.ref a_53, .ref a_54, .int v_55]) := by rw [ef_152, up_ne (kd_ne ko0 ka_38 (by decide))]; exact hfo_146
    have hfo_157 : f_152 a_4 = .inr (3, [.ref a_66, .ref a_97, .ref a_98, .ref a_69, .ref a_100, .int v_101, .int v_102, .int v_103, .int v_104, .int v_105, .int v_106, .int v_107, .ref a_108, .ref a_109, .ref a_110, .int v_111, .ref a_112, .ref a_113]) := by rw [ef_152, up_ne (kd_ne ko0 ka_4 (by decide))]; exact hfo_147
    have hfo_158 : f_152 a_7 = .inr (6, [.int v_115, .int v_116, .ref a_117, .ref a_118, .ref a_119, .int v_120, .ref a_121, .ref a_122, .ref a_123]) := by rw [ef_152, up_ne (kd_ne ko0 ka_7 (by decide))]; exact hfo_148
    have hfr0 : ∀ b, kd b ≠ 3 → kd b ≠ 11 → kd b ≠ 505 → kd b ≠ 507 → kd b ≠ 525 → kd b ≠ 527 → kd b ≠ 539 → f_152 b = f b := fun b q3 q11 q505 q507 q525 q527 q539 => (congrFun ef_152 b).trans ((up_ne (fun e9 => q11 (by rw [e9]; exact ko0))).trans (hfr0 b q3 q11 q505 q507 q525 q527 q539))
    have hfr11_1 : ∀ b, kd b = 11 → fldI (f_152 b) 1 = fldI (f b) 1 := fun b kb => ((congrArg (fun x => fldI x 1) (congrFun ef_152 b)).trans (fk_up (by rw [hfo_142]; rfl) b)).trans (hfr11_1 b kb)
    have hfr11_8 : ∀ b, kd b = 11 → fldI (f_152 b) 8 = fldI (f b) 8 := fun b kb => ((congrArg (fun x => fldI x 8) (congrFun ef_152 b)).trans (fk_up (by rw [hfo_142]; rfl) b)).trans (hfr11_8 b kb)
    have hrr3_0 : ∀ b, kd b = 3 → fldR (f_152 b) 0 = fldR (f b) 0 := fun b kb => (congrArg (fun x => fldR x 0) ((congrFun ef_152 b).trans (up_ne (kd_ne ko0 kb (by decide))))).trans (hrr3_0 b kb)
    have hrr3_3 : ∀ b, kd b = 3 → fldR (f_152 b) 3 = fldR (f b) 3 := fun b kb => (congrArg (fun x => fldR x 3) ((congrFun ef_152 b).trans (up_ne (kd_ne ko0 kb (by decide))))).trans (hrr3_3 b kb)
    have hrr11_2 : ∀ b, kd b = 11 → fldR (f_152 b) 2 = fldR (f b) 2 := fun b kb => ((congrArg (fun x => fldR x 2) (congrFun ef_152 b)).trans (fr_up (by rw [hfo_142]; rfl) b)).trans (hrr11_2 b kb)
    have hrr11_3 : ∀ b, kd b = 11 → fldR (f_152 b) 3 = fldR (f b) 3 := fun b kb => ((congrArg (fun x => fldR x 3) (congrFun ef_152 b)).trans (fr_up (by rw [hfo_142]; rfl) b)).trans (hrr11_3 b kb)
    have hrr11_5 : ∀ b, kd b = 11 → fldR (f_152 b) 5 = fldR (f b) 5 := fun b kb => ((congrArg (fun x => fldR x 5) (congrFun ef_152 b)).trans (fr_up (by rw [hfo_142]; rfl) b)).trans (hrr11_5 b kb)
    have hrr11_6 : ∀ b, kd b = 11 → fldR (f_152 b) 6 = fldR (f b) 6 := fun b kb => ((congrArg (fun x => fldR x 6) (congrFun ef_152 b)).trans (fr_up (by rw [hfo_142]; rfl) b)).trans (hrr11_6 b kb)
    have hrr11_7 : ∀ b, kd b = 11 → fldR (f_152 b) 7 = fldR (f b) 7 := fun b kb => ((congrArg (fun x => fldR x 7) (congrFun ef_152 b)).trans (fr_up (by rw [hfo_142]; rfl) b)).trans (hrr11_7 b kb)
    have hrr11_9 : ∀ b, kd b = 11 → fldR (f_152 b) 9 = fldR (f b) 9 := fun b kb => ((congrArg (fun x => fldR x 9) (congrFun ef_152 b)).trans (fr_up (by rw [hfo_142]; rfl) b)).trans (hrr11_9 b kb)
    have hrr11_10 : ∀ b, kd b = 11 → fldR (f_152 b) 10 = fldR (f b) 10 := fun b kb => ((congrArg (fun x => fldR x 10) (congrFun ef_152 b)).trans (fr_up (by rw [hfo_142]; rfl) b)).trans (hrr11_10 b kb)
    have hrr11_16 : ∀ b, kd b = 11 → fldR (f_152 b) 16 = fldR (f b) 16 := fun b kb => ((congrArg (fun x => fldR x 16) (congrFun ef_152 b)).trans (fr_up (by rw [hfo_142]; rfl) b)).trans (hrr11_16 b kb)
    have hfo_159 : f_152 o0 = .inr (11, [.ref a_2, .int v_3, .ref a_4, .ref a_5, .ref a_6, .ref a_7, .ref a_8, .ref a_9, .int v_10, .ref a_11, .ref a_12, .ref a_13, .int x_150, .int v_15, .ref a_16, .int v_17, .ref a_18, .ref a_19, .int v_20]) := by rw [ef_152]; exact up_self
    exact W.vret hx hb hr (fun t ht hW => ⟨⟨f_152, rfl, ⟨hG, hfr0, hfr11_1, hfr11_8, hrr3_0, hrr3_3, hrr11_2, hrr11_3, hrr11_5, hrr11_6, hrr11_7, hrr11_9, hrr11_10, hrr11_16, (by intro w12 z12 e12 d12; rw [hfo_1] at e12; rw [hfo_159] at d12; obtain rfl := Option.some.inj e12; obtain rfl := Option.some.inj d12; omega)⟩, by rw [ht]; exact hP, va_K.moved hW.alike hK, pl_in hD⟩, hS.F ht⟩) hS.2.2 dX11_keepCouple_104
set_option maxHeartbeats 8000000 in
set_option maxRecDepth 100000 in
theorem s_X11_understand_k11 (l : Launch) (D : va_G) (cI cL cZ cR cG cH : ClassId) (Z : zT) (kd : Nat → Nat) (L : List Nat) (f : Nat → va_E) (hG : GI (okc cI cL cZ cR cG cH L kd) kd L f) (o0 : Nat) (mo0 : o0 ∈ L) (ko0 : kd o0 = 11) (hxtr0 : ∀ d9, fldR (f o0) 3 = some d9 → trel kd 7 508 510 515 4 f d9) : mPI l D cI cL cZ cR cG cH Z yX11_understand cX11_understand 4 (some .int) 7 179 [.ref o0] L f (fun (r : Int32) (f9 : Nat → va_E) => GI (okc cI cL cZ cR cG cH L kd) kd L f9 ∧ ((-2147483648) ≤ r.toInt ∧ r.toInt ≤ 2147483647) ∧ (∀ b, kd b ≠ 3 → kd b ≠ 11 → kd b ≠ 505 → kd b ≠ 507 → kd b ≠ 525 → kd b ≠ 527 → kd b ≠ 539 → kd b ≠ 540 → f9 b = f b) ∧ (∀ b, kd b = 11 → fldI (f9 b) 8 = fldI (f b) 8) ∧ (∀ b, kd b = 3 → fldR (f9 b) 0 = fldR (f b) 0) ∧ (∀ b, kd b = 3 → fldR (f9 b) 3 = fldR (f b) 3) ∧ (∀ b, kd b = 11 → fldR (f9 b) 2 = fldR (f b) 2) ∧ (∀ b, kd b = 11 → fldR (f9 b) 3 = fldR (f b) 3) ∧ (∀ b, kd b = 11 → fldR (f9 b) 5 = fldR (f b) 5) ∧ (∀ b, kd b = 11 → fldR (f9 b) 6 = fldR (f b) 6) ∧ (∀ b, kd b = 11 → fldR (f9 b) 7 = fldR (f b) 7) ∧ (∀ b, kd b = 11 → fldR (f9 b) 9 = fldR (f b) 9) ∧ (∀ b, kd b = 11 → fldR (f9 b) 10 = fldR (f b) 10) ∧ (∀ b, kd b = 11 → fldR (f9 b) 16 = fldR (f b) 16) ∧ (∀ (w1 z1 : Int32), fldI (f o0) 1 = some w1 → fldI (f9 o0) 1 = some z1 → z1.toInt = 0) ∧ (∀ d9, fldR (f9 o0) 3 = some d9 → trel kd 7 508 510 515 4 f9 d9)) := by
  obtain ⟨dC, dI⟩ := D
  refine Met.ofW (cc := cX11_understand) (maxL := 4) (ret := (some .int)) (by decide) rfl ?_
  intro p e s m args below meth c s₁ B hml hv
  obtain ⟨rfl, hP, hK, hD0, hN, hZ⟩ := hv
  have hx := B.exec
  have hb := B.bytes
  have hr := B.returns
  have hU : ∀ w ∈ wsU, w.before _ s = true := fun w h => atoms_spec (ws := wU yX11_understand cX11_understand 4 (some .int)) B.pre w (List.mem_cons_of_mem _ h)
  have hown : s.vm.findClass RX11 = some m.cls := findClass_of_methodNamed B.named
  have hlocks := B.notSynchronized
  have hD := pl_in hD0
  have hS : va_S (fun q => q ∈ L) s.heap s.heap [] := va_S.rf
  have hl := lv_entry ([.ref o0]) (n := 4) (Nat.le_of_ble_eq_true rfl)
  rw [lg_entry_eq]
  generalize (lg_sl ([.ref o0]) ++ List.replicate (4 - (lg_sl ([.ref o0])).length) Slot.unset).toArray = ls at hl ⊢
  have hl : lv_has ls 4 [(0, .ref o0)] := hl
  have hfr0 : ∀ b, kd b ≠ 3 → kd b ≠ 11 → kd b ≠ 505 → kd b ≠ 507 → kd b ≠ 525 → kd b ≠ 527 → kd b ≠ 539 → kd b ≠ 540 → f b = f b := fun _ _ _ _ _ _ _ _ _ => rfl
  have hfr11_8 : ∀ b, kd b = 11 → fldI (f b) 8 = fldI (f b) 8 := fun _ _ => rfl
  have hrr3_0 : ∀ b, kd b = 3 → fldR (f b) 0 = fldR (f b) 0 := fun _ _ => rfl
  have hrr3_3 : ∀ b, kd b = 3 → fldR (f b) 3 = fldR (f b) 3 := fun _ _ => rfl
  have hrr11_2 : ∀ b, kd b = 11 → fldR (f b) 2 = fldR (f b) 2 := fun _ _ => rfl
  have hrr11_3 : ∀ b, kd b = 11 → fldR (f b) 3 = fldR (f b) 3 := fun _ _ => rfl
  have hrr11_5 : ∀ b, kd b = 11 → fldR (f b) 5 = fldR (f b) 5 := fun _ _ => rfl
  have hrr11_6 : ∀ b, kd b = 11 → fldR (f b) 6 = fldR (f b) 6 := fun _ _ => rfl
  have hrr11_7 : ∀ b, kd b = 11 → fldR (f b) 7 = fldR (f b) 7 := fun _ _ => rfl
  have hrr11_9 : ∀ b, kd b = 11 → fldR (f b) 9 = fldR (f b) 9 := fun _ _ => rfl
  have hrr11_10 : ∀ b, kd b = 11 → fldR (f b) 10 = fldR (f b) 10 := fun _ _ => rfl
  have hrr11_16 : ∀ b, kd b = 11 → fldR (f b) 16 = fldR (f b) 16 := fun _ _ => rfl
  obtain ⟨a_2, v_3, a_4, a_5, a_6, a_7, a_8, a_9, v_10, a_11, a_12, a_13, v_14, v_15, a_16, v_17, a_18, a_19, v_20, hfo_1, ⟨ma_2, ka_2⟩, bv_3, ⟨ma_4, ka_4⟩, ⟨ma_5, ka_5⟩, ⟨ma_6, ka_6⟩, ⟨ma_7, ka_7⟩, ⟨ma_8, ka_8⟩, ⟨ma_9, ka_9⟩, bv_10, ⟨ma_11, ka_11⟩, ⟨ma_12, ka_12⟩, ⟨ma_13, ka_13⟩, bv_14, ⟨ma_16, ka_16⟩, bv_17, ⟨ma_18, ka_18⟩, ⟨ma_19, ka_19⟩⟩ := un_11 (hG _ mo0) ko0
  have bv_15 : ((-2147483648) ≤ v_15.toInt ∧ v_15.toInt ≤ 2147483647) := ⟨i32_lo _, i32_hi _⟩
  have bv_20 : ((-2147483648) ≤ v_20.toInt ∧ v_20.toInt ≤ 2147483647) := ⟨i32_lo _, i32_hi _⟩
  have hT0 := hxtr0 a_5 (by rw [hfo_1]; rfl)
  refine lv_aload_n hx hb dX11_understand_0 rfl (lv_at hl 0 rfl) ?_
  refine lv_iconst (v := 0) hx hb dX11_understand_1 (by decide) ?_
  refine tk_putP (D := (dC, dI)) (ci := 11) (v := .int 0) (ty := .int) (C := RX11) (T := TX11) (N := 19) hx hb hU inlX11 tyX11 tyX11_ok nmX11 hown hK hP hD hS mo0 hfo_1 rfl 12 (by decide) (hU _ wd_237) (fun _ h9 => h9) rfl (by decide +kernel) rfl rfl (Nat.le_of_ble_eq_true rfl) dX11_understand_2 (fun H locs hP hD hS => ?_)
  obtain ⟨f_22, ef_22⟩ : ∃ y : Nat → va_E, y = va_up f o0 (.inr (11, [.ref a_2, .int v_3, .ref a_4, .ref a_5, .ref a_6, .ref a_7, .ref a_8, .ref a_9, .int v_10, .ref a_11, .ref a_12, .ref a_13, .int 0, .int v_15, .ref a_16, .int v_17, .ref a_18, .ref a_19, .int v_20])) := ⟨_, rfl⟩
  have hP : va_P (dC, dI) vwCl (va_pl L f_22) H := by rw [ef_22]; exact hP
  have hD : va_D (fun q => q ∈ L) (va_pl L f_22) := by rw [ef_22]; exact hD
  have hG : GI (okc cI cL cZ cR cG cH L kd) kd L f_22 := by rw [ef_22]; exact hG.set o0 (mk_11 ko0 ⟨a_2, v_3, a_4, a_5, a_6, a_7, a_8, a_9, v_10, a_11, a_12, a_13, 0, v_15, a_16, v_17, a_18, a_19, v_20, rfl, ⟨ma_2, ka_2⟩, (by constructor <;> omega), ⟨ma_4, ka_4⟩, ⟨ma_5, ka_5⟩, ⟨ma_6, ka_6⟩, ⟨ma_7, ka_7⟩, ⟨ma_8, ka_8⟩, ⟨ma_9, ka_9⟩, (by constructor <;> omega), ⟨ma_11, ka_11⟩, ⟨ma_12, ka_12⟩, ⟨ma_13, ka_13⟩, (by decide), ⟨ma_16, ka_16⟩, (by constructor <;> omega), ⟨ma_18, ka_18⟩, ⟨ma_19, ka_19⟩⟩)
  have hfr0 : ∀ b, kd b ≠ 3 → kd b ≠ 11 → kd b ≠ 505 → kd b ≠ 507 → kd b ≠ 525 → kd b ≠ 527 → kd b ≠ 539 → kd b ≠ 540 → f_22 b = f b := fun b q3 q11 q505 q507 q525 q527 q539 q540 => (congrFun ef_22 b).trans ((up_ne (fun e9 => q11 (by rw [e9]; exact ko0))).trans (hfr0 b q3 q11 q505 q507 q525 q527 q539 q540))
  have hfr11_8 : ∀ b, kd b = 11 → fldI (f_22 b) 8 = fldI (f b) 8 := fun b kb => ((congrArg (fun x => fldI x 8) (congrFun ef_22 b)).trans (fk_up (by rw [hfo_1]; rfl) b)).trans (hfr11_8 b kb)
  have hrr3_0 : ∀ b, kd b = 3 → fldR (f_22 b) 0 = fldR (f b) 0 := fun b kb => (congrArg (fun x => fldR x 0) ((congrFun ef_22 b).trans (up_ne (kd_ne ko0 kb (by decide))))).trans (hrr3_0 b kb)
  have hrr3_3 : ∀ b, kd b = 3 → fldR (f_22 b) 3 = fldR (f b) 3 := fun b kb => (congrArg (fun x => fldR x 3) ((congrFun ef_22 b).trans (up_ne (kd_ne ko0 kb (by decide))))).trans (hrr3_3 b kb)
  have hrr11_2 : ∀ b, kd b = 11 → fldR (f_22 b) 2 = fldR (f b) 2 := fun b kb => ((congrArg (fun x => fldR x 2) (congrFun ef_22 b)).trans (fr_up (by rw [hfo_1]; rfl) b)).trans (hrr11_2 b kb)
  have hrr11_3 : ∀ b, kd b = 11 → fldR (f_22 b) 3 = fldR (f b) 3 := fun b kb => ((congrArg (fun x => fldR x 3) (congrFun ef_22 b)).trans (fr_up (by rw [hfo_1]; rfl) b)).trans (hrr11_3 b kb)
  have hrr11_5 : ∀ b, kd b = 11 → fldR (f_22 b) 5 = fldR (f b) 5 := fun b kb => ((congrArg (fun x => fldR x 5) (congrFun ef_22 b)).trans (fr_up (by rw [hfo_1]; rfl) b)).trans (hrr11_5 b kb)
  have hrr11_6 : ∀ b, kd b = 11 → fldR (f_22 b) 6 = fldR (f b) 6 := fun b kb => ((congrArg (fun x => fldR x 6) (congrFun ef_22 b)).trans (fr_up (by rw [hfo_1]; rfl) b)).trans (hrr11_6 b kb)
  have hrr11_7 : ∀ b, kd b = 11 → fldR (f_22 b) 7 = fldR (f b) 7 := fun b kb => ((congrArg (fun x => fldR x 7) (congrFun ef_22 b)).trans (fr_up (by rw [hfo_1]; rfl) b)).trans (hrr11_7 b kb)
  have hrr11_9 : ∀ b, kd b = 11 → fldR (f_22 b) 9 = fldR (f b) 9 := fun b kb => ((congrArg (fun x => fldR x 9) (congrFun ef_22 b)).trans (fr_up (by rw [hfo_1]; rfl) b)).trans (hrr11_9 b kb)
  have hrr11_10 : ∀ b, kd b = 11 → fldR (f_22 b) 10 = fldR (f b) 10 := fun b kb => ((congrArg (fun x => fldR x 10) (congrFun ef_22 b)).trans (fr_up (by rw [hfo_1]; rfl) b)).trans (hrr11_10 b kb)
  have hrr11_16 : ∀ b, kd b = 11 → fldR (f_22 b) 16 = fldR (f b) 16 := fun b kb => ((congrArg (fun x => fldR x 16) (congrFun ef_22 b)).trans (fr_up (by rw [hfo_1]; rfl) b)).trans (hrr11_16 b kb)
  have hT0 : trel kd 7 508 510 515 4 f_22 a_5 := by rw [ef_22]; exact hT0.up ko0 (by decide) (by decide) (by decide) (by decide) (by decide)
  have hfo_23 : f_22 o0 = .inr (11, [.ref a_2, .int v_3, .ref a_4, .ref a_5, .ref a_6, .ref a_7, .ref a_8, .ref a_9, .int v_10, .ref a_11, .ref a_12, .ref a_13, .int 0, .int v_15, .ref a_16, .int v_17, .ref a_18, .ref a_19, .int v_20]) := by rw [ef_22]; exact up_self
  refine lv_aload_n hx hb dX11_understand_5 rfl (lv_at hl 0 rfl) ?_
  refine tk_ViP (As := []) (rest := []) (n := 0) hx hb hml hown hU hN hZ (s_X11_takeWord_k11 l (dC, dI) cI cL cZ cR cG cH Z kd L f_22 hG o0 mo0 ko0 (fun d9 h9 => by rw [hfo_23] at h9; obtain rfl := Option.some.inj h9; exact hT0)) wd_709 wd_710 wd_711 wd_2 wd_712 (by decide +kernel) ⟨Nat.le_of_ble_eq_true rfl, Nat.le_of_ble_eq_true rfl⟩ hK hP hD hS mo0 hfo_23 11 rfl rfl rfl hl.1 rfl (Nat.le_of_ble_eq_true rfl) dX11_understand_6 ⟨Nat.le_of_ble_eq_true rfl, Nat.le_of_ble_eq_true rfl⟩ (fun x_24 f_25 H locs hw hP hD hS => ?_)
  obtain ⟨hG, bx_24, hkc_26, hfc_27, hrc_28, hrc_29, hrc_30, hrc_31, hrc_32, hrc_33, hrc_34, hrc_35, hpost_36, hxp_37, hTc_38⟩ := hw
  have hfr0 : ∀ b, kd b ≠ 3 → kd b ≠ 11 → kd b ≠ 505 → kd b ≠ 507 → kd b ≠ 525 → kd b ≠ 527 → kd b ≠ 539 → kd b ≠ 540 → f_25 b = f b := fun b q3 q11 q505 q507 q525 q527 q539 q540 => (hkc_26 b q11 q540).trans (hfr0 b q3 q11 q505 q507 q525 q527 q539 q540)
  have hfr11_8 : ∀ b, kd b = 11 → fldI (f_25 b) 8 = fldI (f b) 8 := fun b kb => (hfc_27 b kb).trans (hfr11_8 b kb)
  have hrr3_0 : ∀ b, kd b = 3 → fldR (f_25 b) 0 = fldR (f b) 0 := fun b kb => (congrArg (fun x => fldR x 0) (hkc_26 b (by rw [kb]; decide) (by rw [kb]; decide))).trans (hrr3_0 b kb)
  have hrr3_3 : ∀ b, kd b = 3 → fldR (f_25 b) 3 = fldR (f b) 3 := fun b kb => (congrArg (fun x => fldR x 3) (hkc_26 b (by rw [kb]; decide) (by rw [kb]; decide))).trans (hrr3_3 b kb)
  have hrr11_2 : ∀ b, kd b = 11 → fldR (f_25 b) 2 = fldR (f b) 2 := fun b kb => (hrc_28 b kb).trans (hrr11_2 b kb)
  have hrr11_3 : ∀ b, kd b = 11 → fldR (f_25 b) 3 = fldR (f b) 3 := fun b kb => (hrc_29 b kb).trans (hrr11_3 b kb)
  have hrr11_5 : ∀ b, kd b = 11 → fldR (f_25 b) 5 = fldR (f b) 5 := fun b kb => (hrc_30 b kb).trans (hrr11_5 b kb)
  have hrr11_6 : ∀ b, kd b = 11 → fldR (f_25 b) 6 = fldR (f b) 6 := fun b kb => (hrc_31 b kb).trans (hrr11_6 b kb)
  have hrr11_7 : ∀ b, kd b = 11 → fldR (f_25 b) 7 = fldR (f b) 7 := fun b kb => (hrc_32 b kb).trans (hrr11_7 b kb)
  have hrr11_9 : ∀ b, kd b = 11 → fldR (f_25 b) 9 = fldR (f b) 9 := fun b kb => (hrc_33 b kb).trans (hrr11_9 b kb)
  have hrr11_10 : ∀ b, kd b = 11 → fldR (f_25 b) 10 = fldR (f b) 10 := fun b kb => (hrc_34 b kb).trans (hrr11_10 b kb)
  have hrr11_16 : ∀ b, kd b = 11 → fldR (f_25 b) 16 = fldR (f b) 16 := fun b kb => (hrc_35 b kb).trans (hrr11_16 b kb)
  have hT0 : trel kd 7 508 510 515 4 f_25 a_5 := hT0.keep (fun b q => hkc_26 b (by rw [q]; decide) (by rw [q]; decide)) (fun b q => hkc_26 b (by rw [q]; decide) (by rw [q]; decide)) (fun b q => hkc_26 b (by rw [q]; decide) (by rw [q]; decide)) (fun b q => hkc_26 b (by rw [q]; decide) (by rw [q]; decide)) (fun b q => congrArg (fun x => fldI x 1) (hkc_26 b (by rw [q]; decide) (by rw [q]; decide)))
  obtain ⟨a_41, v_42, a_43, a_44, a_45, a_46, a_47, a_48, v_49, a_50, a_51, a_52, v_53, v_54, a_55, v_56, a_57, a_58, v_59, hfo_40, ⟨ma_41, ka_41⟩, bv_42, ⟨ma_43, ka_43⟩, ⟨ma_44, ka_44⟩, ⟨ma_45, ka_45⟩, ⟨ma_46, ka_46⟩, ⟨ma_47, ka_47⟩, ⟨ma_48, ka_48⟩, bv_49, ⟨ma_50, ka_50⟩, ⟨ma_51, ka_51⟩, ⟨ma_52, ka_52⟩, bv_53, ⟨ma_55, ka_55⟩, bv_56, ⟨ma_57, ka_57⟩, ⟨ma_58, ka_58⟩⟩ := un_11 (hG _ mo0) ko0
  have bv_54 : ((-2147483648) ≤ v_54.toInt ∧ v_54.toInt ≤ 2147483647) := ⟨i32_lo _, i32_hi _⟩
  have bv_59 : ((-2147483648) ≤ v_59.toInt ∧ v_59.toInt ≤ 2147483647) := ⟨i32_lo _, i32_hi _⟩
  obtain rfl : a_4 = a_43 := by have hk9 := hrr11_2 o0 ko0; rw [hfo_40, hfo_1] at hk9; exact (Option.some.inj hk9).symm
  obtain rfl : a_5 = a_44 := by have hk9 := hrr11_3 o0 ko0; rw [hfo_40, hfo_1] at hk9; exact (Option.some.inj hk9).symm
  obtain rfl : a_7 = a_46 := by have hk9 := hrr11_5 o0 ko0; rw [hfo_40, hfo_1] at hk9; exact (Option.some.inj hk9).symm
  obtain rfl : a_8 = a_47 := by have hk9 := hrr11_6 o0 ko0; rw [hfo_40, hfo_1] at hk9; exact (Option.some.inj hk9).symm
  obtain rfl : a_9 = a_48 := by have hk9 := hrr11_7 o0 ko0; rw [hfo_40, hfo_1] at hk9; exact (Option.some.inj hk9).symm
  obtain rfl : a_11 = a_50 := by have hk9 := hrr11_9 o0 ko0; rw [hfo_40, hfo_1] at hk9; exact (Option.some.inj hk9).symm
  obtain rfl : a_12 = a_51 := by have hk9 := hrr11_10 o0 ko0; rw [hfo_40, hfo_1] at hk9; exact (Option.some.inj hk9).symm
  obtain rfl : a_18 = a_57 := by have hk9 := hrr11_16 o0 ko0; rw [hfo_40, hfo_1] at hk9; exact (Option.some.inj hk9).symm
  obtain rfl : v_10 = v_49 := by have hk9 := hfc_27 o0 ko0; rw [hfo_40, hfo_23] at hk9; exact (Option.some.inj hk9).symm
  have hqhpost_36 := hpost_36 v_3 v_42 0 v_53 (by rw [hfo_23]; rfl) (by rw [hfo_23]; rfl) (by rw [hfo_40]; rfl) (by rw [hfo_40]; rfl)
  try rw [ti_0] at hqhpost_36
  have hT_60 := hTc_38 a_5 (by rw [hfo_40]; rfl)
  obtain ⟨g_62, hfo_61, hbg_62⟩ := un_540 (hG _ ma_18) ka_18
  obtain ⟨a_64, v_65, a_66, a_67, a_68, a_69, v_70, a_71, a_72, a_73, a_74, a_75, v_76, a_77, a_78, a_79, hfo_63, ⟨ma_64, ka_64⟩, bv_65, ⟨ma_66, ka_66⟩, ⟨ma_67, ka_67⟩, ⟨ma_68, ka_68⟩, ⟨ma_69, ka_69⟩, bv_70, ⟨ma_71, ka_71⟩, ⟨ma_72, ka_72⟩, ⟨ma_73, ka_73⟩, ⟨ma_74, ka_74⟩, ⟨ma_75, ka_75⟩, bv_76, ⟨ma_77, ka_77⟩, ⟨ma_78, ka_78⟩, ⟨ma_79, ka_79⟩⟩ := un_7 (hG _ ma_5) ka_5
  have htwx_24 := hxp_37 a_18 g_62 a_5 v_65 (by rw [hfo_40]; rfl) hfo_61 (by rw [hfo_40]; rfl) (by rw [hfo_63]; rfl)
  refine lv_istore_n (lv' := [(1, .int x_24), (0, .ref o0)]) hx hb dX11_understand_9 rfl hl (by decide) rfl (fun ls hl => ?_)
  refine lv_iload_n hx hb dX11_understand_10 rfl (lv_at hl 0 rfl) ?_
  refine lv_iconst (v := (-1)) hx hb dX11_understand_11 (by decide) ?_
  refine lv_icmp_ne (tgt := 17) hx hb dX11_understand_12 (by decide) (fun c_80 => ?_) (fun c_80 => ?_)
  · skip
    rw [← Int32.toInt_inj, ti_m1] at c_80
    refine lv_iconst (v := 0) hx hb dX11_understand_17 (by decide) ?_
    refine lv_istore_n (lv' := [(2, .int 0), (1, .int x_24), (0, .ref o0)]) hx hb dX11_understand_18 rfl hl (by decide) rfl (fun ls hl => ?_)
    have hloop_88 : ∀ (n : Nat), ∀ (y_89 : Int32), (0 ≤ y_89.toInt ∧ y_89.toInt ≤ 12) → ∀ (f_91 : Nat → va_E), GI (okc cI cL cZ cR cG cH L kd) kd L f_91 → ∀ (H : Heap) (locs : List Loc), va_P (dC, dI) vwCl (va_pl L f_91) H → va_S (fun q => q ∈ L) s.heap H locs → va_D (fun q => q ∈ L) (va_pl L f_91) → (∀ b, kd b ≠ 3 → kd b ≠ 11 → kd b ≠ 505 → kd b ≠ 507 → kd b ≠ 525 → kd b ≠ 527 → kd b ≠ 539 → kd b ≠ 540 → f_91 b = f b) → (∀ b, kd b = 11 → fldI (f_91 b) 8 = fldI (f b) 8) → (∀ b, kd b = 3 → fldR (f_91 b) 0 = fldR (f b) 0) → (∀ b, kd b = 3 → fldR (f_91 b) 3 = fldR (f b) 3) → (∀ b, kd b = 11 → fldR (f_91 b) 2 = fldR (f b) 2) → (∀ b, kd b = 11 → fldR (f_91 b) 3 = fldR (f b) 3) → (∀ b, kd b = 11 → fldR (f_91 b) 5 = fldR (f b) 5) → (∀ b, kd b = 11 → fldR (f_91 b) 6 = fldR (f b) 6) → (∀ b, kd b = 11 → fldR (f_91 b) 7 = fldR (f b) 7) → (∀ b, kd b = 11 → fldR (f_91 b) 9 = fldR (f b) 9) → (∀ b, kd b = 11 → fldR (f_91 b) 10 = fldR (f b) 10) → (∀ b, kd b = 11 → fldR (f_91 b) 16 = fldR (f b) 16) → (f_91 a_18 = .inl (cI, 16, .inl g_62)) → (f_91 a_5 = .inr (7, [.ref a_64, .int v_65, .ref a_66, .ref a_67, .ref a_68, .ref a_69, .int v_70, .ref a_71, .ref a_72, .ref a_73, .ref a_74, .ref a_75, .int v_76, .ref a_77, .ref a_78, .ref a_79])) → trel kd 7 508 510 515 4 f_91 a_5 → ∀ (whloop_88_0_12 : Int32), fldI (f_91 o0) 12 = some whloop_88_0_12 → ∀ (whloop_88_0_1 : Int32), fldI (f_91 o0) 1 = some whloop_88_0_1 → (whloop_88_0_12.toInt ≤ 8 * y_89.toInt) → (0 ≤ whloop_88_0_12.toInt ∧ whloop_88_0_12.toInt ≤ 96) → (0 ≤ whloop_88_0_1.toInt ∧ whloop_88_0_1.toInt ≤ 0) → 12 - y_89.toInt < (n : Int) → ∀ (ls : Array Slot), lv_has ls 4 [(2, .int y_89), (1, .int x_24), (0, .ref o0)] → W p l e (headSpec (wU yX11_understand cX11_understand 4 (some .int)) { frames := 7, cells := 0, slots := 0, locals := 179 }).room s m [.ref o0].toArray below meth c H locs 0 0 (MQ below (va_Qi (fun (r : Int32) (f9 : Nat → va_E) => GI (okc cI cL cZ cR cG cH L kd) kd L f9 ∧ ((-2147483648) ≤ r.toInt ∧ r.toInt ≤ 2147483647) ∧ (∀ b, kd b ≠ 3 → kd b ≠ 11 → kd b ≠ 505 → kd b ≠ 507 → kd b ≠ 525 → kd b ≠ 527 → kd b ≠ 539 → kd b ≠ 540 → f9 b = f b) ∧ (∀ b, kd b = 11 → fldI (f9 b) 8 = fldI (f b) 8) ∧ (∀ b, kd b = 3 → fldR (f9 b) 0 = fldR (f b) 0) ∧ (∀ b, kd b = 3 → fldR (f9 b) 3 = fldR (f b) 3) ∧ (∀ b, kd b = 11 → fldR (f9 b) 2 = fldR (f b) 2) ∧ (∀ b, kd b = 11 → fldR (f9 b) 3 = fldR (f b) 3) ∧ (∀ b, kd b = 11 → fldR (f9 b) 5 = fldR (f b) 5) ∧ (∀ b, kd b = 11 → fldR (f9 b) 6 = fldR (f b) 6) ∧ (∀ b, kd b = 11 → fldR (f9 b) 7 = fldR (f b) 7) ∧ (∀ b, kd b = 11 → fldR (f9 b) 9 = fldR (f b) 9) ∧ (∀ b, kd b = 11 → fldR (f9 b) 10 = fldR (f b) 10) ∧ (∀ b, kd b = 11 → fldR (f9 b) 16 = fldR (f b) 16) ∧ (∀ (w1 z1 : Int32), fldI (f o0) 1 = some w1 → fldI (f9 o0) 1 = some z1 → z1.toInt = 0) ∧ (∀ d9, fldR (f9 o0) 3 = some d9 → trel kd 7 508 510 515 4 f9 d9)) (qP (dC, dI) cI cL cZ cR cG cH L) (fun q => q ∈ L)) [.ref o0].toArray s 0 0 (fun q => q ∈ L)) (F0 m 19 ls []) := by
      intro n
      induction n with
      | zero => intro y_89 by_89 f_91 hG H locs hP hS hD hfr0 hfr11_8 hrr3_0 hrr3_3 hrr11_2 hrr11_3 hrr11_5 hrr11_6 hrr11_7 hrr11_9 hrr11_10 hrr11_16 hfo_92 hfo_93 hT_60 whloop_88_0_12 hghloop_88_0_12 whloop_88_0_1 hghloop_88_0_1 hrelhloop_88_0 hrelhloop_88_1 hrelhloop_88_2 hmuhloop_88 ls hl; exfalso; omega
      | succ n ih_hloop_88 =>
        intro y_89 by_89 f_91 hG H locs hP hS hD hfr0 hfr11_8 hrr3_0 hrr3_3 hrr11_2 hrr11_3 hrr11_5 hrr11_6 hrr11_7 hrr11_9 hrr11_10 hrr11_16 hfo_92 hfo_93 hT_60 whloop_88_0_12 hghloop_88_0_12 whloop_88_0_1 hghloop_88_0_1 hrelhloop_88_0 hrelhloop_88_1 hrelhloop_88_2 hmuhloop_88 ls hl
        obtain ⟨a_95, v_96, a_97, a_98, a_99, a_100, a_101, a_102, v_103, a_104, a_105, a_106, v_107, v_108, a_109, v_110, a_111, a_112, v_113, hfo_94, ⟨ma_95, ka_95⟩, bv_96, ⟨ma_97, ka_97⟩, ⟨ma_98, ka_98⟩, ⟨ma_99, ka_99⟩, ⟨ma_100, ka_100⟩, ⟨ma_101, ka_101⟩, ⟨ma_102, ka_102⟩, bv_103, ⟨ma_104, ka_104⟩, ⟨ma_105, ka_105⟩, ⟨ma_106, ka_106⟩, bv_107, ⟨ma_109, ka_109⟩, bv_110, ⟨ma_111, ka_111⟩, ⟨ma_112, ka_112⟩⟩ := un_11 (hG _ mo0) ko0
        have bv_108 : ((-2147483648) ≤ v_108.toInt ∧ v_108.toInt ≤ 2147483647) := ⟨i32_lo _, i32_hi _⟩
        have bv_113 : ((-2147483648) ≤ v_113.toInt ∧ v_113.toInt ≤ 2147483647) := ⟨i32_lo _, i32_hi _⟩
        obtain rfl : a_4 = a_97 := by have hk9 := hrr11_2 o0 ko0; rw [hfo_94, hfo_1] at hk9; exact (Option.some.inj hk9).symm
        obtain rfl : a_5 = a_98 := by have hk9 := hrr11_3 o0 ko0; rw [hfo_94, hfo_1] at hk9; exact (Option.some.inj hk9).symm
        obtain rfl : a_7 = a_100 := by have hk9 := hrr11_5 o0 ko0; rw [hfo_94, hfo_1] at hk9; exact (Option.some.inj hk9).symm
        obtain rfl : a_8 = a_101 := by have hk9 := hrr11_6 o0 ko0; rw [hfo_94, hfo_1] at hk9; exact (Option.some.inj hk9).symm
        obtain rfl : a_9 = a_102 := by have hk9 := hrr11_7 o0 ko0; rw [hfo_94, hfo_1] at hk9; exact (Option.some.inj hk9).symm
        obtain rfl : a_11 = a_104 := by have hk9 := hrr11_9 o0 ko0; rw [hfo_94, hfo_1] at hk9; exact (Option.some.inj hk9).symm
        obtain rfl : a_12 = a_105 := by have hk9 := hrr11_10 o0 ko0; rw [hfo_94, hfo_1] at hk9; exact (Option.some.inj hk9).symm
        obtain rfl : a_18 = a_111 := by have hk9 := hrr11_16 o0 ko0; rw [hfo_94, hfo_1] at hk9; exact (Option.some.inj hk9).symm
        obtain rfl : v_107 = whloop_88_0_12 := by rw [hfo_94] at hghloop_88_0_12; exact Option.some.inj hghloop_88_0_12
        obtain rfl : v_96 = whloop_88_0_1 := by rw [hfo_94] at hghloop_88_0_1; exact Option.some.inj hghloop_88_0_1
        refine lv_iload_n hx hb dX11_understand_19 rfl (lv_at hl 0 rfl) ?_
        refine lv_aload_n hx hb dX11_understand_20 rfl (lv_at hl 2 rfl) ?_
        refine tk_getP (D := (dC, dI)) (ci := 11) (v := .ref a_5) (C := RX11) (T := TX11) (N := 19) hx hb hU inlX11 hown hK hP mo0 hfo_94 rfl 3 (by decide) (hU _ wd_19) (fun _ h9 => h9) rfl dX11_understand_21 ?_
        refine tk_getP (D := (dC, dI)) (ci := 7) (v := .ref a_77) (C := RX7) (T := TX7) (N := 16) hx hb hU inlX7 hown hK hP ma_5 hfo_93 rfl 13 (by decide) (hU _ wd_999) (fun _ h9 => h9) rfl dX11_understand_24 ?_
        obtain ⟨a_115, a_116, v_117, hfo_114, ⟨ma_115, ka_115⟩, ⟨ma_116, ka_116⟩, bv_117⟩ := un_9 (hG _ ma_77) ka_77
        refine tk_getP (D := (dC, dI)) (ci := 9) (v := .int v_117) (C := RX9) (T := TX9) (N := 3) hx hb hU inlX9 hown hK hP ma_77 hfo_114 rfl 2 (by decide) (hU _ wd_1000) (fun _ h9 => h9) rfl dX11_understand_27 ?_
        refine lv_icmp_ge (tgt := 68) hx hb dX11_understand_30 (by decide) (fun c_118 => ?_) (fun c_118 => ?_)
        · skip
          rw [Int32.le_iff_toInt_le] at c_118
          refine lv_aload_n hx hb dX11_understand_68 rfl (lv_at hl 2 rfl) ?_
          refine tk_getP (D := (dC, dI)) (ci := 11) (v := .int v_107) (C := RX11) (T := TX11) (N := 19) hx hb hU inlX11 hown hK hP mo0 hfo_94 rfl 12 (by decide) (hU _ wd_237) (fun _ h9 => h9) rfl dX11_understand_69 ?_
          exact W.iret (v := v_107) hx hb hr (fun t ht hW => ⟨⟨v_107, f_91, rfl, ⟨hG, (by constructor <;> omega), hfr0, hfr11_8, hrr3_0, hrr3_3, hrr11_2, hrr11_3, hrr11_5, hrr11_6, hrr11_7, hrr11_9, hrr11_10, hrr11_16, (by intro w1 z1 e1 d1; rw [hfo_1] at e1; rw [hfo_94] at d1; obtain rfl := Option.some.inj e1; obtain rfl := Option.some.inj d1; omega), (fun d9 h9 => by rw [hfo_94] at h9; obtain rfl := Option.some.inj h9; exact hT_60)⟩, by rw [ht]; exact hP, va_K.moved hW.alike hK, pl_in hD⟩, hS.F ht⟩) hS.2.2 dX11_understand_72
        · skip
          rw [Int32.le_iff_toInt_le] at c_118
          refine lv_iconst (v := 0) hx hb dX11_understand_33 (by decide) ?_
          refine lv_istore_n (lv' := [(3, .int 0), (2, .int y_89), (1, .int x_24), (0, .ref o0)]) hx hb dX11_understand_34 rfl hl (by decide) rfl (fun ls hl => ?_)
          have hloop_146 : ∀ (n : Nat), ∀ (y_147 : Int32), (0 ≤ y_147.toInt ∧ y_147.toInt ≤ 8) → ∀ (f_149 : Nat → va_E), GI (okc cI cL cZ cR cG cH L kd) kd L f_149 → ∀ (H : Heap) (locs : List Loc), va_P (dC, dI) vwCl (va_pl L f_149) H → va_S (fun q => q ∈ L) s.heap H locs → va_D (fun q => q ∈ L) (va_pl L f_149) → (∀ b, kd b ≠ 3 → kd b ≠ 11 → kd b ≠ 505 → kd b ≠ 507 → kd b ≠ 525 → kd b ≠ 527 → kd b ≠ 539 → kd b ≠ 540 → f_149 b = f b) → (∀ b, kd b = 11 → fldI (f_149 b) 8 = fldI (f b) 8) → (∀ b, kd b = 3 → fldR (f_149 b) 0 = fldR (f b) 0) → (∀ b, kd b = 3 → fldR (f_149 b) 3 = fldR (f b) 3) → (∀ b, kd b = 11 → fldR (f_149 b) 2 = fldR (f b) 2) → (∀ b, kd b = 11 → fldR (f_149 b) 3 = fldR (f b) 3) → (∀ b, kd b = 11 → fldR (f_149 b) 5 = fldR (f b) 5) → (∀ b, kd b = 11 → fldR (f_149 b) 6 = fldR (f b) 6) → (∀ b, kd b = 11 → fldR (f_149 b) 7 = fldR (f b) 7) → (∀ b, kd b = 11 → fldR (f_149 b) 9 = fldR (f b) 9) → (∀ b, kd b = 11 → fldR (f_149 b) 10 = fldR (f b) 10) → (∀ b, kd b = 11 → fldR (f_149 b) 16 = fldR (f b) 16) → (f_149 a_18 = .inl (cI, 16, .inl g_62)) → (f_149 a_5 = .inr (7, [.ref a_64, .int v_65, .ref a_66, .ref a_67, .ref a_68, .ref a_69, .int v_70, .ref a_71, .ref a_72, .ref a_73, .ref a_74, .ref a_75, .int v_76, .ref a_77, .ref a_78, .ref a_79])) → (f_149 a_77 = .inr (9, [.ref a_115, .ref a_116, .int v_117])) → trel kd 7 508 510 515 4 f_149 a_5 → ∀ (whloop_146_0_12 : Int32), fldI (f_149 o0) 12 = some whloop_146_0_12 → ∀ (whloop_146_0_1 : Int32), fldI (f_149 o0) 1 = some whloop_146_0_1 → (whloop_146_0_12.toInt ≤ 8 * y_89.toInt + y_147.toInt) → (0 ≤ whloop_146_0_12.toInt ∧ whloop_146_0_12.toInt ≤ 96) → (0 ≤ whloop_146_0_1.toInt ∧ whloop_146_0_1.toInt ≤ 0) → 8 - y_147.toInt < (n : Int) → ∀ (ls : Array Slot), lv_has ls 4 [(3, .int y_147), (2, .int y_89), (1, .int x_24), (0, .ref o0)] → W p l e (headSpec (wU yX11_understand cX11_understand 4 (some .int)) { frames := 7, cells := 0, slots := 0, locals := 179 }).room s m [.ref o0].toArray below meth c H locs 0 0 (MQ below (va_Qi (fun (r : Int32) (f9 : Nat → va_E) => GI (okc cI cL cZ cR cG cH L kd) kd L f9 ∧ ((-2147483648) ≤ r.toInt ∧ r.toInt ≤ 2147483647) ∧ (∀ b, kd b ≠ 3 → kd b ≠ 11 → kd b ≠ 505 → kd b ≠ 507 → kd b ≠ 525 → kd b ≠ 527 → kd b ≠ 539 → kd b ≠ 540 → f9 b = f b) ∧ (∀ b, kd b = 11 → fldI (f9 b) 8 = fldI (f b) 8) ∧ (∀ b, kd b = 3 → fldR (f9 b) 0 = fldR (f b) 0) ∧ (∀ b, kd b = 3 → fldR (f9 b) 3 = fldR (f b) 3) ∧ (∀ b, kd b = 11 → fldR (f9 b) 2 = fldR (f b) 2) ∧ (∀ b, kd b = 11 → fldR (f9 b) 3 = fldR (f b) 3) ∧ (∀ b, kd b = 11 → fldR (f9 b) 5 = fldR (f b) 5) ∧ (∀ b, kd b = 11 → fldR (f9 b) 6 = fldR (f b) 6) ∧ (∀ b, kd b = 11 → fldR (f9 b) 7 = fldR (f b) 7) ∧ (∀ b, kd b = 11 → fldR (f9 b) 9 = fldR (f b) 9) ∧ (∀ b, kd b = 11 → fldR (f9 b) 10 = fldR (f b) 10) ∧ (∀ b, kd b = 11 → fldR (f9 b) 16 = fldR (f b) 16) ∧ (∀ (w1 z1 : Int32), fldI (f o0) 1 = some w1 → fldI (f9 o0) 1 = some z1 → z1.toInt = 0) ∧ (∀ d9, fldR (f9 o0) 3 = some d9 → trel kd 7 508 510 515 4 f9 d9)) (qP (dC, dI) cI cL cZ cR cG cH L) (fun q => q ∈ L)) [.ref o0].toArray s 0 0 (fun q => q ∈ L)) (F0 m 35 ls []) := by
            intro n
            induction n with
            | zero => intro y_147 by_147 f_149 hG H locs hP hS hD hfr0 hfr11_8 hrr3_0 hrr3_3 hrr11_2 hrr11_3 hrr11_5 hrr11_6 hrr11_7 hrr11_9 hrr11_10 hrr11_16 hfo_150 hfo_151 hfo_152 hT_60 whloop_146_0_12 hghloop_146_0_12 whloop_146_0_1 hghloop_146_0_1 hrelhloop_146_0 hrelhloop_146_1 hrelhloop_146_2 hmuhloop_146 ls hl; exfalso; omega
            | succ n ih_hloop_146 =>
              intro y_147 by_147 f_149 hG H locs hP hS hD hfr0 hfr11_8 hrr3_0 hrr3_3 hrr11_2 hrr11_3 hrr11_5 hrr11_6 hrr11_7 hrr11_9 hrr11_10 hrr11_16 hfo_150 hfo_151 hfo_152 hT_60 whloop_146_0_12 hghloop_146_0_12 whloop_146_0_1 hghloop_146_0_1 hrelhloop_146_0 hrelhloop_146_1 hrelhloop_146_2 hmuhloop_146 ls hl
              obtain ⟨a_154, v_155, a_156, a_157, a_158, a_159, a_160, a_161, v_162, a_163, a_164, a_165, v_166, v_167, a_168, v_169, a_170, a_171, v_172, hfo_153, ⟨ma_154, ka_154⟩, bv_155, ⟨ma_156, ka_156⟩, ⟨ma_157, ka_157⟩, ⟨ma_158, ka_158⟩, ⟨ma_159, ka_159⟩, ⟨ma_160, ka_160⟩, ⟨ma_161, ka_161⟩, bv_162, ⟨ma_163, ka_163⟩, ⟨ma_164, ka_164⟩, ⟨ma_165, ka_165⟩, bv_166, ⟨ma_168, ka_168⟩, bv_169, ⟨ma_170, ka_170⟩, ⟨ma_171, ka_171⟩⟩ := un_11 (hG _ mo0) ko0
              have bv_167 : ((-2147483648) ≤ v_167.toInt ∧ v_167.toInt ≤ 2147483647) := ⟨i32_lo _, i32_hi _⟩
              have bv_172 : ((-2147483648) ≤ v_172.toInt ∧ v_172.toInt ≤ 2147483647) := ⟨i32_lo _, i32_hi _⟩
              obtain rfl : a_4 = a_156 := by have hk9 := hrr11_2 o0 ko0; rw [hfo_153, hfo_1] at hk9; exact (Option.some.inj hk9).symm
              obtain rfl : a_5 = a_157 := by have hk9 := hrr11_3 o0 ko0; rw [hfo_153, hfo_1] at hk9; exact (Option.some.inj hk9).symm
              obtain rfl : a_7 = a_159 := by have hk9 := hrr11_5 o0 ko0; rw [hfo_153, hfo_1] at hk9; exact (Option.some.inj hk9).symm
              obtain rfl : a_8 = a_160 := by have hk9 := hrr11_6 o0 ko0; rw [hfo_153, hfo_1] at hk9; exact (Option.some.inj hk9).symm
              obtain rfl : a_9 = a_161 := by have hk9 := hrr11_7 o0 ko0; rw [hfo_153, hfo_1] at hk9; exact (Option.some.inj hk9).symm
              obtain rfl : a_11 = a_163 := by have hk9 := hrr11_9 o0 ko0; rw [hfo_153, hfo_1] at hk9; exact (Option.some.inj hk9).symm
              obtain rfl : a_12 = a_164 := by have hk9 := hrr11_10 o0 ko0; rw [hfo_153, hfo_1] at hk9; exact (Option.some.inj hk9).symm
              obtain rfl : a_18 = a_170 := by have hk9 := hrr11_16 o0 ko0; rw [hfo_153, hfo_1] at hk9; exact (Option.some.inj hk9).symm
              obtain rfl : v_166 = whloop_146_0_12 := by rw [hfo_153] at hghloop_146_0_12; exact Option.some.inj hghloop_146_0_12
              obtain rfl : v_155 = whloop_146_0_1 := by rw [hfo_153] at hghloop_146_0_1; exact Option.some.inj hghloop_146_0_1
              refine lv_iload_n hx hb dX11_understand_35 rfl (lv_at hl 0 rfl) ?_
              refine lv_aload_n hx hb dX11_understand_36 rfl (lv_at hl 3 rfl) ?_
              refine tk_getP (D := (dC, dI)) (ci := 11) (v := .ref a_5) (C := RX11) (T := TX11) (N := 19) hx hb hU inlX11 hown hK hP mo0 hfo_153 rfl 3 (by decide) (hU _ wd_19) (fun _ h9 => h9) rfl dX11_understand_37 ?_
              refine tk_getP (D := (dC, dI)) (ci := 7) (v := .ref a_78) (C := RX7) (T := TX7) (N := 16) hx hb hU inlX7 hown hK hP ma_5 hfo_151 rfl 14 (by decide) (hU _ wd_1001) (fun _ h9 => h9) rfl dX11_understand_40 ?_
              obtain ⟨a_174, a_175, v_176, hfo_173, ⟨ma_174, ka_174⟩, ⟨ma_175, ka_175⟩, bv_176⟩ := un_13 (hG _ ma_78) ka_78
              refine tk_getP (D := (dC, dI)) (ci := 9) (v := .int v_176) (C := RX9) (T := TX9) (N := 3) hx hb hU inlX9 hown hK hP ma_78 hfo_173 rfl 2 (by decide) (hU _ wd_1000) (fun _ h9 => h9) rfl dX11_understand_43 ?_
              refine lv_icmp_ge (tgt := 62) hx hb dX11_understand_46 (by decide) (fun c_177 => ?_) (fun c_177 => ?_)
              · skip
                rw [Int32.le_iff_toInt_le] at c_177
                obtain ⟨x_178, ex_178⟩ : ∃ y : Int32, y_89 + 1 = y := ⟨_, rfl⟩
                have hx_178 : x_178.toInt = y_89.toInt + 1 := by rw [← ex_178, ad_I (by rw [ti_1]; omega) (by rw [ti_1]; omega), ti_1]
                have bx_178 : (1 ≤ x_178.toInt ∧ x_178.toInt ≤ 12) := by constructor <;> omega
                refine lv_iinc (v := x_178) (lv' := [(2, .int x_178), (3, .int y_147), (1, .int x_24), (0, .ref o0)]) hx hb dX11_understand_62 hl (k := 1) rfl ex_178 (by decide) rfl (fun ls hl => ?_)
                refine lv_goto (tgt := 19) hx hb dX11_understand_65 (by decide) ?_
                exact ih_hloop_88 x_178 (by constructor <;> omega) f_149 hG _ _ hP hS hD hfr0 hfr11_8 hrr3_0 hrr3_3 hrr11_2 hrr11_3 hrr11_5 hrr11_6 hrr11_7 hrr11_9 hrr11_10 hrr11_16 hfo_150 hfo_151 hT_60 v_166 (by rw [hfo_153]; rfl) v_155 (by rw [hfo_153]; rfl) (by omega) (by omega) (by omega) (by omega) ls (lv_sub hl [0, 2, 3] rfl)
              · skip
                rw [Int32.le_iff_toInt_le] at c_177
                refine lv_aload_n hx hb dX11_understand_49 rfl (lv_at hl 3 rfl) ?_
                refine lv_iload_n hx hb dX11_understand_50 rfl (lv_at hl 1 rfl) ?_
                refine lv_iload_n hx hb dX11_understand_51 rfl (lv_at hl 0 rfl) ?_
                refine lv_iload_n hx hb dX11_understand_52 rfl (lv_at hl 2 rfl) ?_
                refine tk_VvP (As := [.int y_89, .int y_147, .int x_24]) (rest := []) (n := 3) hx hb hml hown hU hN hZ (s_X11_keepCouple_k11 l (dC, dI) cI cL cZ cR cG cH Z kd L f_149 hG o0 mo0 ko0 y_89 (by constructor <;> omega) y_147 (by constructor <;> omega) x_24 (by constructor <;> omega) (by intro w12 e12; rw [hfo_153] at e12; obtain rfl := Option.some.inj e12; omega) (fun b9 g9 h1 h2 j hj => by rw [hfo_153] at h1; obtain rfl := Option.some.inj h1; rw [hfo_150] at h2; cases h2; have h8 := htwx_24 j (by omega); omega)) wd_1002 wd_1003 wd_1004 wd_2 wd_1005 (by decide +kernel) ⟨Nat.le_of_ble_eq_true rfl, Nat.le_of_ble_eq_true rfl⟩ hK hP hD hS mo0 hfo_153 11 rfl rfl rfl hl.1 rfl (Nat.le_of_ble_eq_true rfl) dX11_understand_53 ⟨Nat.le_of_ble_eq_true rfl, Nat.le_of_ble_eq_true rfl⟩ (fun f_180 H locs hw hP hD hS => ?_)
                obtain ⟨hG, hkc_181, hfc_182, hfc_183, hrc_184, hrc_185, hrc_186, hrc_187, hrc_188, hrc_189, hrc_190, hrc_191, hrc_192, hrc_193, hpost_194⟩ := hw
                have hfo_196 : f_180 a_18 = .inl (cI, 16, .inl g_62) := by rw [hkc_181 a_18 (by rw [ka_18]; decide) (by rw [ka_18]; decide) (by rw [ka_18]; decide) (by rw [ka_18]; decide) (by rw [ka_18]; decide) (by rw [ka_18]; decide) (by rw [ka_18]; decide)]; exact hfo_150
                have hfo_197 : f_180 a_5 = .inr (7, [.ref a_64, .int v_65, .ref a_66, .ref a_67, .ref a_68, .ref a_69, .int v_70, .ref a_71, .ref a_72, .ref a_73, .ref a_74, .ref a_75, .int v_76, .ref a_77, .ref a_78, .ref a_79]) := by rw [hkc_181 a_5 (by rw [ka_5]; decide) (by rw [ka_5]; decide) (by rw [ka_5]; decide) (by rw [ka_5]; decide) (by rw [ka_5]; decide) (by rw [ka_5]; decide) (by rw [ka_5]; decide)]; exact hfo_151
                have hfo_198 : f_180 a_77 = .inr (9, [.ref a_115, .ref a_116, .int v_117]) := by rw [hkc_181 a_77 (by rw [ka_77]; decide) (by rw [ka_77]; decide) (by rw [ka_77]; decide) (by rw [ka_77]; decide) (by rw [ka_77]; decide) (by rw [ka_77]; decide) (by rw [ka_77]; decide)]; exact hfo_152
                have hfo_199 : f_180 a_78 = .inr (9, [.ref a_174, .ref a_175, .int v_176]) := by rw [hkc_181 a_78 (by rw [ka_78]; decide) (by rw [ka_78]; decide) (by rw [ka_78]; decide) (by rw [ka_78]; decide) (by rw [ka_78]; decide) (by rw [ka_78]; decide) (by rw [ka_78]; decide)]; exact hfo_173
                have hfr0 : ∀ b, kd b ≠ 3 → kd b ≠ 11 → kd b ≠ 505 → kd b ≠ 507 → kd b ≠ 525 → kd b ≠ 527 → kd b ≠ 539 → kd b ≠ 540 → f_180 b = f b := fun b q3 q11 q505 q507 q525 q527 q539 q540 => (hkc_181 b q3 q11 q505 q507 q525 q527 q539).trans (hfr0 b q3 q11 q505 q507 q525 q527 q539 q540)
                have hfr11_8 : ∀ b, kd b = 11 → fldI (f_180 b) 8 = fldI (f b) 8 := fun b kb => (hfc_183 b kb).trans (hfr11_8 b kb)
                have hrr3_0 : ∀ b, kd b = 3 → fldR (f_180 b) 0 = fldR (f b) 0 := fun b kb => (hrc_184 b kb).trans (hrr3_0 b kb)
                have hrr3_3 : ∀ b, kd b = 3 → fldR (f_180 b) 3 = fldR (f b) 3 := fun b kb => (hrc_185 b kb).trans (hrr3_3 b kb)
                have hrr11_2 : ∀ b, kd b = 11 → fldR (f_180 b) 2 = fldR (f b) 2 := fun b kb => (hrc_186 b kb).trans (hrr11_2 b kb)
                have hrr11_3 : ∀ b, kd b = 11 → fldR (f_180 b) 3 = fldR (f b) 3 := fun b kb => (hrc_187 b kb).trans (hrr11_3 b kb)
                have hrr11_5 : ∀ b, kd b = 11 → fldR (f_180 b) 5 = fldR (f b) 5 := fun b kb => (hrc_188 b kb).trans (hrr11_5 b kb)
                have hrr11_6 : ∀ b, kd b = 11 → fldR (f_180 b) 6 = fldR (f b) 6 := fun b kb => (hrc_189 b kb).trans (hrr11_6 b kb)
                have hrr11_7 : ∀ b, kd b = 11 → fldR (f_180 b) 7 = fldR (f b) 7 := fun b kb => (hrc_190 b kb).trans (hrr11_7 b kb)
                have hrr11_9 : ∀ b, kd b = 11 → fldR (f_180 b) 9 = fldR (f b) 9 := fun b kb => (hrc_191 b kb).trans (hrr11_9 b kb)
                have hrr11_10 : ∀ b, kd b = 11 → fldR (f_180 b) 10 = fldR (f b) 10 := fun b kb => (hrc_192 b kb).trans (hrr11_10 b kb)
                have hrr11_16 : ∀ b, kd b = 11 → fldR (f_180 b) 16 = fldR (f b) 16 := fun b kb => (hrc_193 b kb).trans (hrr11_16 b kb)
                have hT_60 : trel kd 7 508 510 515 4 f_180 a_5 := hT_60.keep (fun b q => hkc_181 b (by rw [q]; decide) (by rw [q]; decide) (by rw [q]; decide) (by rw [q]; decide) (by rw [q]; decide) (by rw [q]; decide) (by rw [q]; decide)) (fun b q => hkc_181 b (by rw [q]; decide) (by rw [q]; decide) (by rw [q]; decide) (by rw [q]; decide) (by rw [q]; decide) (by rw [q]; decide) (by rw [q]; decide)) (fun b q => hkc_181 b (by rw [q]; decide) (by rw [q]; decide) (by rw [q]; decide) (by rw [q]; decide) (by rw [q]; decide) (by rw [q]; decide) (by rw [q]; decide)) (fun b q => hkc_181 b (by rw [q]; decide) (by rw [q]; decide) (by rw [q]; decide) (by rw [q]; decide) (by rw [q]; decide) (by rw [q]; decide) (by rw [q]; decide)) (fun b q => congrArg (fun x => fldI x 1) (hkc_181 b (by rw [q]; decide) (by rw [q]; decide) (by rw [q]; decide) (by rw [q]; decide) (by rw [q]; decide) (by rw [q]; decide) (by rw [q]; decide)))
                obtain ⟨a_201, v_202, a_203, a_204, a_205, a_206, a_207, a_208, v_209, a_210, a_211, a_212, v_213, v_214, a_215, v_216, a_217, a_218, v_219, hfo_200, ⟨ma_201, ka_201⟩, bv_202, ⟨ma_203, ka_203⟩, ⟨ma_204, ka_204⟩, ⟨ma_205, ka_205⟩, ⟨ma_206, ka_206⟩, ⟨ma_207, ka_207⟩, ⟨ma_208, ka_208⟩, bv_209, ⟨ma_210, ka_210⟩, ⟨ma_211, ka_211⟩, ⟨ma_212, ka_212⟩, bv_213, ⟨ma_215, ka_215⟩, bv_216, ⟨ma_217, ka_217⟩, ⟨ma_218, ka_218⟩⟩ := un_11 (hG _ mo0) ko0
                have bv_214 : ((-2147483648) ≤ v_214.toInt ∧ v_214.toInt ≤ 2147483647) := ⟨i32_lo _, i32_hi _⟩
                have bv_219 : ((-2147483648) ≤ v_219.toInt ∧ v_219.toInt ≤ 2147483647) := ⟨i32_lo _, i32_hi _⟩
                obtain rfl : a_4 = a_203 := by have hk9 := hrr11_2 o0 ko0; rw [hfo_200, hfo_1] at hk9; exact (Option.some.inj hk9).symm
                obtain rfl : a_5 = a_204 := by have hk9 := hrr11_3 o0 ko0; rw [hfo_200, hfo_1] at hk9; exact (Option.some.inj hk9).symm
                obtain rfl : a_7 = a_206 := by have hk9 := hrr11_5 o0 ko0; rw [hfo_200, hfo_1] at hk9; exact (Option.some.inj hk9).symm
                obtain rfl : a_8 = a_207 := by have hk9 := hrr11_6 o0 ko0; rw [hfo_200, hfo_1] at hk9; exact (Option.some.inj hk9).symm
                obtain rfl : a_9 = a_208 := by have hk9 := hrr11_7 o0 ko0; rw [hfo_200, hfo_1] at hk9; exact (Option.some.inj hk9).symm
                obtain rfl : a_11 = a_210 := by have hk9 := hrr11_9 o0 ko0; rw [hfo_200, hfo_1] at hk9; exact (Option.some.inj hk9).symm
                obtain rfl : a_12 = a_211 := by have hk9 := hrr11_10 o0 ko0; rw [hfo_200, hfo_1] at hk9; exact (Option.some.inj hk9).symm
                obtain rfl : a_18 = a_217 := by have hk9 := hrr11_16 o0 ko0; rw [hfo_200, hfo_1] at hk9; exact (Option.some.inj hk9).symm
                obtain rfl : v_155 = v_202 := by have hk9 := hfc_182 o0 ko0; rw [hfo_200, hfo_153] at hk9; exact (Option.some.inj hk9).symm
                obtain rfl : v_162 = v_209 := by have hk9 := hfc_183 o0 ko0; rw [hfo_200, hfo_153] at hk9; exact (Option.some.inj hk9).symm
                have hqhpost_194 := hpost_194 v_166 v_213 (by rw [hfo_153]; rfl) (by rw [hfo_200]; rfl)
                obtain ⟨x_220, ex_220⟩ : ∃ y : Int32, y_147 + 1 = y := ⟨_, rfl⟩
                have hx_220 : x_220.toInt = y_147.toInt + 1 := by rw [← ex_220, ad_I (by rw [ti_1]; omega) (by rw [ti_1]; omega), ti_1]
                have bx_220 : (1 ≤ x_220.toInt ∧ x_220.toInt ≤ 8) := by constructor <;> omega
                refine lv_iinc (v := x_220) (lv' := [(3, .int x_220), (2, .int y_89), (1, .int x_24), (0, .ref o0)]) hx hb dX11_understand_56 hl (k := 0) rfl ex_220 (by decide) rfl (fun ls hl => ?_)
                refine lv_goto (tgt := 35) hx hb dX11_understand_59 (by decide) ?_
                exact ih_hloop_146 x_220 (by constructor <;> omega) f_180 hG _ _ hP hS hD hfr0 hfr11_8 hrr3_0 hrr3_3 hrr11_2 hrr11_3 hrr11_5 hrr11_6 hrr11_7 hrr11_9 hrr11_10 hrr11_16 hfo_196 hfo_197 hfo_198 hT_60 v_213 (by rw [hfo_200]; rfl) v_155 (by rw [hfo_200]; rfl) (by omega) (by omega) (by omega) (by omega) ls (lv_sub hl [0, 1, 2, 3] rfl)
          exact hloop_146 9 0 (by decide) f_91 hG _ _ hP hS hD hfr0 hfr11_8 hrr3_0 hrr3_3 hrr11_2 hrr11_3 hrr11_5 hrr11_6 hrr11_7 hrr11_9 hrr11_10 hrr11_16 hfo_92 hfo_93 hfo_114 hT_60 v_107 (by rw [hfo_94]; rfl) v_96 (by rw [hfo_94]; rfl) (by (try rw [ti_0]) <;> omega) (by (try rw [ti_0]) <;> omega) (by (try rw [ti_0]) <;> omega) (by (try rw [ti_0]) <;> omega) ls hl
    exact hloop_88 13 0 (by decide) f_25 hG _ _ hP hS hD hfr0 hfr11_8 hrr3_0 hrr3_3 hrr11_2 hrr11_3 hrr11_5 hrr11_6 hrr11_7 hrr11_9 hrr11_10 hrr11_16 hfo_61 hfo_63 hT_60 v_53 (by rw [hfo_40]; rfl) v_42 (by rw [hfo_40]; rfl) (by (try rw [ti_0]) <;> omega) (by (try rw [ti_0]) <;> omega) (by (try rw [ti_0]) <;> omega) (by (try rw [ti_0]) <;> omega) ls hl
  · skip
    rw [← Int32.toInt_inj, ti_m1] at c_80
    refine lv_iconst (v := (-1)) hx hb dX11_understand_15 (by decide) ?_
    exact W.iret (v := (-1)) hx hb hr (fun t ht hW => ⟨⟨(-1), f_25, rfl, ⟨hG, (by decide), hfr0, hfr11_8, hrr3_0, hrr3_3, hrr11_2, hrr11_3, hrr11_5, hrr11_6, hrr11_7, hrr11_9, hrr11_10, hrr11_16, (by intro w1 z1 e1 d1; rw [hfo_1] at e1; rw [hfo_40] at d1; obtain rfl := Option.some.inj e1; obtain rfl := Option.some.inj d1; (try rw [ti_m1]) <;> omega), (fun d9 h9 => by rw [hfo_40] at h9; obtain rfl := Option.some.inj h9; exact hT_60)⟩, by rw [ht]; exact hP, va_K.moved hW.alike hK, pl_in hD⟩, hS.F ht⟩) hS.2.2 dX11_understand_16
