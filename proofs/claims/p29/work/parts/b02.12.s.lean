set_option maxHeartbeats 8000000 in
set_option maxRecDepth 100000 in
theorem s_X2_readClass_k2 (l : Launch) (D : va_G) (cI cL cZ cR cG cH : ClassId) (Z : zT) (kd : Nat → Nat) (L : List Nat) (f : Nat → va_E) (hG : GI (okc cI cL cZ cR cG cH L kd) kd L f) (o0 : Nat) (mo0 : o0 ∈ L) (ko0 : kd o0 = 2) (hxtr0 : ∀ d9, fldR (f o0) 0 = some d9 → trel kd 207 566 568 573 204 f d9) : mPI l D cI cL cZ cR cG cH Z yX2_readClass cX2_readClass 4 (some .boolean) 1 22 [.ref o0] L f (fun (r : Int32) (f9 : Nat → va_E) => GI (okc cI cL cZ cR cG cH L kd) kd L f9 ∧ (0 ≤ r.toInt ∧ r.toInt ≤ 1) ∧ (∀ b, kd b ≠ 2 → kd b ≠ 567 → f9 b = f b) ∧ (∀ b, kd b = 2 → fldI (f9 b) 4 = fldI (f b) 4) ∧ (∀ b, kd b = 2 → fldI (f9 b) 7 = fldI (f b) 7) ∧ (∀ b, kd b = 2 → fldI (f9 b) 8 = fldI (f b) 8) ∧ (∀ b, kd b = 2 → fldR (f9 b) 0 = fldR (f b) 0) ∧ (∀ b, kd b = 2 → fldR (f9 b) 3 = fldR (f b) 3) ∧ (∀ (w5 z5 : Int32), fldI (f o0) 5 = some w5 → fldI (f9 o0) 5 = some z5 → w5.toInt ≤ z5.toInt) ∧ (∀ d9, fldR (f9 o0) 0 = some d9 → trel kd 207 566 568 573 204 f9 d9)) := by
  obtain ⟨dC, dI⟩ := D
  refine Met.ofW (cc := cX2_readClass) (maxL := 4) (ret := (some .boolean)) (by decide) rfl ?_
  intro p e s m args below meth c s₁ B hml hv
  obtain ⟨rfl, hP, hK, hD0, hN, hZ⟩ := hv
  have hx := B.exec
  have hb := B.bytes
  have hr := B.returns
  have hU : ∀ w ∈ wsU, w.before _ s = true := fun w h => atoms_spec (ws := wU yX2_readClass cX2_readClass 4 (some .boolean)) B.pre w (List.mem_cons_of_mem _ h)
  have hown : s.vm.findClass RX2 = some m.cls := findClass_of_methodNamed B.named
  have hlocks := B.notSynchronized
  have hD := pl_in hD0
  have hS : va_S (fun q => q ∈ L) s.heap s.heap [] := va_S.rf
  have hl := lv_entry ([.ref o0]) (n := 4) (Nat.le_of_ble_eq_true rfl)
  rw [lg_entry_eq]
  generalize (lg_sl ([.ref o0]) ++ List.replicate (4 - (lg_sl ([.ref o0])).length) Slot.unset).toArray = ls at hl ⊢
  have hl : lv_has ls 4 [(0, .ref o0)] := hl
  have hfr0 : ∀ b, kd b ≠ 2 → kd b ≠ 567 → f b = f b := fun _ _ _ => rfl
  have hfr2_4 : ∀ b, kd b = 2 → fldI (f b) 4 = fldI (f b) 4 := fun _ _ => rfl
  have hfr2_7 : ∀ b, kd b = 2 → fldI (f b) 7 = fldI (f b) 7 := fun _ _ => rfl
  have hfr2_8 : ∀ b, kd b = 2 → fldI (f b) 8 = fldI (f b) 8 := fun _ _ => rfl
  have hrr2_0 : ∀ b, kd b = 2 → fldR (f b) 0 = fldR (f b) 0 := fun _ _ => rfl
  have hrr2_3 : ∀ b, kd b = 2 → fldR (f b) 3 = fldR (f b) 3 := fun _ _ => rfl
  obtain ⟨a_2, v_3, v_4, a_5, v_6, v_7, v_8, v_9, v_10, v_11, hfo_1, ⟨ma_2, ka_2⟩, ⟨ma_5, ka_5⟩, bv_6, bv_7, bv_8, bv_9, bv_10⟩ := un_2 (hG _ mo0) ko0
  have bv_3 : ((-2147483648) ≤ v_3.toInt ∧ v_3.toInt ≤ 2147483647) := ⟨i32_lo _, i32_hi _⟩
  have bv_4 : ((-2147483648) ≤ v_4.toInt ∧ v_4.toInt ≤ 2147483647) := ⟨i32_lo _, i32_hi _⟩
  have bv_11 : ((-2147483648) ≤ v_11.toInt ∧ v_11.toInt ≤ 2147483647) := ⟨i32_lo _, i32_hi _⟩
  have hT0 := hxtr0 a_2 (by rw [hfo_1]; rfl)
  refine lv_aload_n hx hb dX2_readClass_0 rfl (lv_at hl 0 rfl) ?_
  refine tk_ViP (As := []) (rest := []) (n := 0) hx hb hml hown hU hN hZ (s_X2_peek_k2 l (dC, dI) cI cL cZ cR cG cH Z kd L f hG o0 mo0 ko0) wd_274 wd_275 wd_276 wd_33 wd_277 (by decide +kernel) ⟨Nat.le_of_ble_eq_true rfl, Nat.le_of_ble_eq_true rfl⟩ hK hP hD hS mo0 hfo_1 2 rfl rfl rfl hl.1 rfl (Nat.le_of_ble_eq_true rfl) dX2_readClass_1 ⟨Nat.le_of_ble_eq_true rfl, Nat.le_of_ble_eq_true rfl⟩ (fun x_12 f_13 H locs hw hP hD hS => ?_)
  obtain ⟨hG, bx_12, hkc_14, hfc_15, hfc_16, hfc_17, hrc_18, hrc_19, hpost_20, hxp_21⟩ := hw
  have hfr0 : ∀ b, kd b ≠ 2 → kd b ≠ 567 → f_13 b = f b := fun b q2 q567 => (hkc_14 b q2).trans (hfr0 b q2 q567)
  have hfr2_4 : ∀ b, kd b = 2 → fldI (f_13 b) 4 = fldI (f b) 4 := fun b kb => (hfc_15 b kb).trans (hfr2_4 b kb)
  have hfr2_7 : ∀ b, kd b = 2 → fldI (f_13 b) 7 = fldI (f b) 7 := fun b kb => (hfc_16 b kb).trans (hfr2_7 b kb)
  have hfr2_8 : ∀ b, kd b = 2 → fldI (f_13 b) 8 = fldI (f b) 8 := fun b kb => (hfc_17 b kb).trans (hfr2_8 b kb)
  have hrr2_0 : ∀ b, kd b = 2 → fldR (f_13 b) 0 = fldR (f b) 0 := fun b kb => (hrc_18 b kb).trans (hrr2_0 b kb)
  have hrr2_3 : ∀ b, kd b = 2 → fldR (f_13 b) 3 = fldR (f b) 3 := fun b kb => (hrc_19 b kb).trans (hrr2_3 b kb)
  have hT0 : trel kd 207 566 568 573 204 f_13 a_2 := hT0.keep (fun b q => hkc_14 b (by rw [q]; decide)) (fun b q => hkc_14 b (by rw [q]; decide)) (fun b q => hkc_14 b (by rw [q]; decide)) (fun b q => hkc_14 b (by rw [q]; decide)) (fun b q => congrArg (fun x => fldI x 1) (hkc_14 b (by rw [q]; decide)))
  obtain ⟨a_24, v_25, v_26, a_27, v_28, v_29, v_30, v_31, v_32, v_33, hfo_23, ⟨ma_24, ka_24⟩, ⟨ma_27, ka_27⟩, bv_28, bv_29, bv_30, bv_31, bv_32⟩ := un_2 (hG _ mo0) ko0
  have bv_25 : ((-2147483648) ≤ v_25.toInt ∧ v_25.toInt ≤ 2147483647) := ⟨i32_lo _, i32_hi _⟩
  have bv_26 : ((-2147483648) ≤ v_26.toInt ∧ v_26.toInt ≤ 2147483647) := ⟨i32_lo _, i32_hi _⟩
  have bv_33 : ((-2147483648) ≤ v_33.toInt ∧ v_33.toInt ≤ 2147483647) := ⟨i32_lo _, i32_hi _⟩
  obtain rfl : a_2 = a_24 := by have hk9 := hrr2_0 o0 ko0; rw [hfo_23, hfo_1] at hk9; exact (Option.some.inj hk9).symm
  obtain rfl : a_5 = a_27 := by have hk9 := hrr2_3 o0 ko0; rw [hfo_23, hfo_1] at hk9; exact (Option.some.inj hk9).symm
  obtain rfl : v_6 = v_28 := by have hk9 := hfc_15 o0 ko0; rw [hfo_23, hfo_1] at hk9; exact (Option.some.inj hk9).symm
  obtain rfl : v_9 = v_31 := by have hk9 := hfc_16 o0 ko0; rw [hfo_23, hfo_1] at hk9; exact (Option.some.inj hk9).symm
  obtain rfl : v_10 = v_32 := by have hk9 := hfc_17 o0 ko0; rw [hfo_23, hfo_1] at hk9; exact (Option.some.inj hk9).symm
  have hqhpost_20 := hpost_20 v_7 v_29 (by rw [hfo_1]; rfl) (by rw [hfo_23]; rfl)
  obtain ⟨g_35, hfo_34, hbg_35⟩ := un_533 (hG _ ma_5) ka_5
  have hpkx_12 := hxp_21 a_5 g_35 v_29 (by rw [hfo_23]; rfl) hfo_34 (by rw [hfo_23]; rfl)
  refine tk_SiP (As := [.int x_12]) (rest := []) (n := 1) hx hb hml hown hU hN hZ (s_X2_isClass l (dC, dI) cI cL cZ cR cG cH Z kd L f_13 hG x_12) wd_366 wd_367 wd_33 wd_368 (by decide +kernel) ⟨Nat.le_of_ble_eq_true rfl, Nat.le_of_ble_eq_true rfl⟩ hK hP hD hS rfl hl.1 rfl (Nat.le_of_ble_eq_true rfl) dX2_readClass_4 ⟨Nat.le_of_ble_eq_true rfl, Nat.le_of_ble_eq_true rfl⟩ (fun x_36 f_37 H locs hw hP hD hS => ?_)
  obtain ⟨rfl, bx_36, relx_36⟩ := hw
  refine lv_if_ne (tgt := 20) hx hb dX2_readClass_7 (by decide) (fun c_39 => ?_) (fun c_39 => ?_)
  · skip
    rw [← Int32.toInt_inj, ti_0] at c_39
    have hclc_40 : (0 ≤ v_29.toInt ∧ v_29.toInt ≤ 599) := by constructor <;> omega
    rcases hpkx_12 with hs9 | ex_12
    · exfalso; omega
    refine lv_aload_n hx hb dX2_readClass_20 rfl (lv_at hl 0 rfl) ?_
    refine tk_getP (D := (dC, dI)) (ci := 2) (v := .ref a_5) (C := RX2) (T := TX2) (N := 10) hx hb hU inlX2 hown hK hP mo0 hfo_23 rfl 3 (by decide) (hU _ wd_152) (fun _ h9 => h9) rfl dX2_readClass_21 ?_
    refine lv_aload_n hx hb dX2_readClass_24 rfl (lv_at hl 0 rfl) ?_
    refine tk_getP (D := (dC, dI)) (ci := 2) (v := .int v_29) (C := RX2) (T := TX2) (N := 10) hx hb hU inlX2 hown hK hP mo0 hfo_23 rfl 5 (by decide) (hU _ wd_256) (fun _ h9 => h9) rfl dX2_readClass_25 ?_
    refine tk_ildP hx hb hK hP 0 ma_5 hfo_34 rfl (vp_in_iff.mpr (by constructor <;> omega)) dX2_readClass_28 ?_
    refine tk_topi (y := x_12) ex_12.symm ?_
    refine lv_bipush (v := 65) hx hb dX2_readClass_29 (by decide) ?_
    refine lv_isub hx hb dX2_readClass_31 ?_
    refine lv_topi (fun x_41 ex_41 => ?_)
    have hx_41 : x_41.toInt = x_12.toInt - 65 := by rw [ex_41, sb_I (by rw [ti_65]; omega) (by rw [ti_65]; omega), ti_65]
    have bx_41 : (0 ≤ x_41.toInt ∧ x_41.toInt ≤ 5) := by constructor <;> omega
    refine lv_istore_n (lv' := [(1, .int x_41), (0, .ref o0)]) hx hb dX2_readClass_32 rfl hl (by decide) rfl (fun ls hl => ?_)
    refine lv_iconst (v := 0) hx hb dX2_readClass_33 (by decide) ?_
    refine lv_istore_n (lv' := [(2, .int 0), (1, .int x_41), (0, .ref o0)]) hx hb dX2_readClass_34 rfl hl (by decide) rfl (fun ls hl => ?_)
    refine lv_aload_n hx hb dX2_readClass_35 rfl (lv_at hl 2 rfl) ?_
    refine lv_dup hx hb dX2_readClass_36 rfl ?_
    refine tk_getP (D := (dC, dI)) (ci := 2) (v := .int v_29) (C := RX2) (T := TX2) (N := 10) hx hb hU inlX2 hown hK hP mo0 hfo_23 rfl 5 (by decide) (hU _ wd_256) (fun _ h9 => h9) rfl dX2_readClass_37 ?_
    refine lv_iconst (v := 1) hx hb dX2_readClass_40 (by decide) ?_
    refine lv_iadd hx hb dX2_readClass_41 ?_
    refine lv_topi (fun x_42 ex_42 => ?_)
    have hx_42 : x_42.toInt = v_29.toInt + 1 := by rw [ex_42, ad_I (by rw [ti_1]; omega) (by rw [ti_1]; omega), ti_1]
    have bx_42 : (1 ≤ x_42.toInt ∧ x_42.toInt ≤ 600) := by constructor <;> omega
    refine tk_putP (D := (dC, dI)) (ci := 2) (v := .int x_42) (ty := .int) (C := RX2) (T := TX2) (N := 10) hx hb hU inlX2 tyX2 tyX2_ok nmX2 hown hK hP hD hS mo0 hfo_23 rfl 5 (by decide) (hU _ wd_256) (fun _ h9 => h9) rfl (by decide +kernel) rfl rfl (Nat.le_of_ble_eq_true rfl) dX2_readClass_42 (fun H locs hP hD hS => ?_)
    obtain ⟨f_44, ef_44⟩ : ∃ y : Nat → va_E, y = va_up f_13 o0 (.inr (2, [.ref a_2, .int v_25, .int v_26, .ref a_5, .int v_6, .int x_42, .int v_30, .int v_9, .int v_10, .int v_33])) := ⟨_, rfl⟩
    have hP : va_P (dC, dI) vwCl (va_pl L f_44) H := by rw [ef_44]; exact hP
    have hD : va_D (fun q => q ∈ L) (va_pl L f_44) := by rw [ef_44]; exact hD
    have hG : GI (okc cI cL cZ cR cG cH L kd) kd L f_44 := by rw [ef_44]; exact hG.set o0 (mk_2 ko0 ⟨a_2, v_25, v_26, a_5, v_6, x_42, v_30, v_9, v_10, v_33, rfl, ⟨ma_2, ka_2⟩, ⟨ma_5, ka_5⟩, (by constructor <;> omega), (by constructor <;> omega), (by constructor <;> omega), (by constructor <;> omega), (by constructor <;> omega)⟩)
    have hfo_45 : f_44 a_5 = .inl (cI, 600, .inl g_35) := by rw [ef_44, up_ne (kd_ne ko0 ka_5 (by decide))]; exact hfo_34
    have hfr0 : ∀ b, kd b ≠ 2 → kd b ≠ 567 → f_44 b = f b := fun b q2 q567 => (congrFun ef_44 b).trans ((up_ne (fun e9 => q2 (by rw [e9]; exact ko0))).trans (hfr0 b q2 q567))
    have hfr2_4 : ∀ b, kd b = 2 → fldI (f_44 b) 4 = fldI (f b) 4 := fun b kb => ((congrArg (fun x => fldI x 4) (congrFun ef_44 b)).trans (fk_up (by rw [hfo_23]; rfl) b)).trans (hfr2_4 b kb)
    have hfr2_7 : ∀ b, kd b = 2 → fldI (f_44 b) 7 = fldI (f b) 7 := fun b kb => ((congrArg (fun x => fldI x 7) (congrFun ef_44 b)).trans (fk_up (by rw [hfo_23]; rfl) b)).trans (hfr2_7 b kb)
    have hfr2_8 : ∀ b, kd b = 2 → fldI (f_44 b) 8 = fldI (f b) 8 := fun b kb => ((congrArg (fun x => fldI x 8) (congrFun ef_44 b)).trans (fk_up (by rw [hfo_23]; rfl) b)).trans (hfr2_8 b kb)
    have hrr2_0 : ∀ b, kd b = 2 → fldR (f_44 b) 0 = fldR (f b) 0 := fun b kb => ((congrArg (fun x => fldR x 0) (congrFun ef_44 b)).trans (fr_up (by rw [hfo_23]; rfl) b)).trans (hrr2_0 b kb)
    have hrr2_3 : ∀ b, kd b = 2 → fldR (f_44 b) 3 = fldR (f b) 3 := fun b kb => ((congrArg (fun x => fldR x 3) (congrFun ef_44 b)).trans (fr_up (by rw [hfo_23]; rfl) b)).trans (hrr2_3 b kb)
    have hT0 : trel kd 207 566 568 573 204 f_44 a_2 := by rw [ef_44]; exact hT0.up ko0 (by decide) (by decide) (by decide) (by decide) (by decide)
    have hfo_46 : f_44 o0 = .inr (2, [.ref a_2, .int v_25, .int v_26, .ref a_5, .int v_6, .int x_42, .int v_30, .int v_9, .int v_10, .int v_33]) := by rw [ef_44]; exact up_self
    have hloop_85 : ∀ (n : Nat), ∀ (y_86 : Int32), ((-2147483648) ≤ y_86.toInt ∧ y_86.toInt ≤ 2147483647) → ∀ (f_88 : Nat → va_E), GI (okc cI cL cZ cR cG cH L kd) kd L f_88 → ∀ (H : Heap) (locs : List Loc), va_P (dC, dI) vwCl (va_pl L f_88) H → va_S (fun q => q ∈ L) s.heap H locs → va_D (fun q => q ∈ L) (va_pl L f_88) → (∀ b, kd b ≠ 2 → kd b ≠ 567 → f_88 b = f b) → (∀ b, kd b = 2 → fldI (f_88 b) 4 = fldI (f b) 4) → (∀ b, kd b = 2 → fldI (f_88 b) 7 = fldI (f b) 7) → (∀ b, kd b = 2 → fldI (f_88 b) 8 = fldI (f b) 8) → (∀ b, kd b = 2 → fldR (f_88 b) 0 = fldR (f b) 0) → (∀ b, kd b = 2 → fldR (f_88 b) 3 = fldR (f b) 3) → (f_88 a_5 = .inl (cI, 600, .inl g_35)) → trel kd 207 566 568 573 204 f_88 a_2 → ∀ (whloop_85_0_5 : Int32), fldI (f_88 o0) 5 = some whloop_85_0_5 → (v_7.toInt ≤ whloop_85_0_5.toInt) → (0 ≤ whloop_85_0_5.toInt ∧ whloop_85_0_5.toInt ≤ 600) → 600 - whloop_85_0_5.toInt < (n : Int) → ∀ (ls : Array Slot), lv_has ls 4 [(2, .int y_86), (1, .int x_41), (0, .ref o0)] → W p l e (headSpec (wU yX2_readClass cX2_readClass 4 (some .boolean)) { frames := 1, cells := 0, slots := 0, locals := 22 }).room s m [.ref o0].toArray below meth c H locs 0 0 (MQ below (va_Qi (fun (r : Int32) (f9 : Nat → va_E) => GI (okc cI cL cZ cR cG cH L kd) kd L f9 ∧ (0 ≤ r.toInt ∧ r.toInt ≤ 1) ∧ (∀ b, kd b ≠ 2 → kd b ≠ 567 → f9 b = f b) ∧ (∀ b, kd b = 2 → fldI (f9 b) 4 = fldI (f b) 4) ∧ (∀ b, kd b = 2 → fldI (f9 b) 7 = fldI (f b) 7) ∧ (∀ b, kd b = 2 → fldI (f9 b) 8 = fldI (f b) 8) ∧ (∀ b, kd b = 2 → fldR (f9 b) 0 = fldR (f b) 0) ∧ (∀ b, kd b = 2 → fldR (f9 b) 3 = fldR (f b) 3) ∧ (∀ (w5 z5 : Int32), fldI (f o0) 5 = some w5 → fldI (f9 o0) 5 = some z5 → w5.toInt ≤ z5.toInt) ∧ (∀ d9, fldR (f9 o0) 0 = some d9 → trel kd 207 566 568 573 204 f9 d9)) (qP (dC, dI) cI cL cZ cR cG cH L) (fun q => q ∈ L)) [.ref o0].toArray s 0 0 (fun q => q ∈ L)) (F0 m 45 ls []) := by
      intro n
      induction n with
      | zero => intro y_86 by_86 f_88 hG H locs hP hS hD hfr0 hfr2_4 hfr2_7 hfr2_8 hrr2_0 hrr2_3 hfo_89 hT0 whloop_85_0_5 hghloop_85_0_5 hrelhloop_85_0 hrelhloop_85_1 hmuhloop_85 ls hl; exfalso; omega
      | succ n ih_hloop_85 =>
        intro y_86 by_86 f_88 hG H locs hP hS hD hfr0 hfr2_4 hfr2_7 hfr2_8 hrr2_0 hrr2_3 hfo_89 hT0 whloop_85_0_5 hghloop_85_0_5 hrelhloop_85_0 hrelhloop_85_1 hmuhloop_85 ls hl
        obtain ⟨a_91, v_92, v_93, a_94, v_95, v_96, v_97, v_98, v_99, v_100, hfo_90, ⟨ma_91, ka_91⟩, ⟨ma_94, ka_94⟩, bv_95, bv_96, bv_97, bv_98, bv_99⟩ := un_2 (hG _ mo0) ko0
        have bv_92 : ((-2147483648) ≤ v_92.toInt ∧ v_92.toInt ≤ 2147483647) := ⟨i32_lo _, i32_hi _⟩
        have bv_93 : ((-2147483648) ≤ v_93.toInt ∧ v_93.toInt ≤ 2147483647) := ⟨i32_lo _, i32_hi _⟩
        have bv_100 : ((-2147483648) ≤ v_100.toInt ∧ v_100.toInt ≤ 2147483647) := ⟨i32_lo _, i32_hi _⟩
        obtain rfl : a_2 = a_91 := by have hk9 := hrr2_0 o0 ko0; rw [hfo_90, hfo_1] at hk9; exact (Option.some.inj hk9).symm
        obtain rfl : a_5 = a_94 := by have hk9 := hrr2_3 o0 ko0; rw [hfo_90, hfo_1] at hk9; exact (Option.some.inj hk9).symm
        obtain rfl : v_96 = whloop_85_0_5 := by rw [hfo_90] at hghloop_85_0_5; exact Option.some.inj hghloop_85_0_5
        refine lv_aload_n hx hb dX2_readClass_45 rfl (lv_at hl 2 rfl) ?_
        refine tk_getP (D := (dC, dI)) (ci := 2) (v := .int v_96) (C := RX2) (T := TX2) (N := 10) hx hb hU inlX2 hown hK hP mo0 hfo_90 rfl 5 (by decide) (hU _ wd_256) (fun _ h9 => h9) rfl dX2_readClass_46 ?_
        refine lv_aload_n hx hb dX2_readClass_49 rfl (lv_at hl 2 rfl) ?_
        refine tk_getP (D := (dC, dI)) (ci := 2) (v := .int v_95) (C := RX2) (T := TX2) (N := 10) hx hb hU inlX2 hown hK hP mo0 hfo_90 rfl 4 (by decide) (hU _ wd_251) (fun _ h9 => h9) rfl dX2_readClass_50 ?_
        refine lv_icmp_ge (tgt := 116) hx hb dX2_readClass_53 (by decide) (fun c_101 => ?_) (fun c_101 => ?_)
        · skip
          rw [Int32.le_iff_toInt_le] at c_101
          refine lv_aload_n hx hb dX2_readClass_116 rfl (lv_at hl 2 rfl) ?_
          refine tk_getP (D := (dC, dI)) (ci := 2) (v := .ref a_2) (C := RX2) (T := TX2) (N := 10) hx hb hU inlX2 hown hK hP mo0 hfo_90 rfl 0 (by decide) (hU _ wd_150) (fun _ h9 => h9) rfl dX2_readClass_117 ?_
          obtain ⟨a_103, v_104, a_105, a_106, a_107, a_108, v_109, a_110, a_111, a_112, a_113, a_114, v_115, a_116, a_117, a_118, hfo_102, ⟨ma_103, ka_103⟩, bv_104, ⟨ma_105, ka_105⟩, ⟨ma_106, ka_106⟩, ⟨ma_107, ka_107⟩, ⟨ma_108, ka_108⟩, bv_109, ⟨ma_110, ka_110⟩, ⟨ma_111, ka_111⟩, ⟨ma_112, ka_112⟩, ⟨ma_113, ka_113⟩, ⟨ma_114, ka_114⟩, bv_115, ⟨ma_116, ka_116⟩, ⟨ma_117, ka_117⟩, ⟨ma_118, ka_118⟩⟩ := un_207 (hG _ ma_2) ka_2
          refine tk_getP (D := (dC, dI)) (ci := 7) (v := .ref a_105) (C := RX7) (T := TX7) (N := 16) hx hb hU inlX7 hown hK hP ma_2 hfo_102 rfl 2 (by decide) (hU _ wd_365) (fun _ h9 => h9) rfl dX2_readClass_120 ?_
          refine lv_iload_n hx hb dX2_readClass_123 rfl (lv_at hl 1 rfl) ?_
          refine lv_iload_n hx hb dX2_readClass_124 rfl (lv_at hl 0 rfl) ?_
          obtain ⟨g_120, hfo_119, hbg_120⟩ := un_567 (hG _ ma_105) ka_105
          refine tk_istP hx hb hK hP hD hS 0 ma_105 hfo_119 rfl (vp_in_iff.mpr (by constructor <;> omega)) dX2_readClass_125 (fun H locs hP hD hS => ?_)
          obtain ⟨f_122, ef_122⟩ : ∃ y : Nat → va_E, y = va_up f_88 a_105 (.inl (cI, 6, .inl (upd g_120 (Int32.toNatClampNeg x_41) y_86))) := ⟨_, rfl⟩
          have hP : va_P (dC, dI) vwCl (va_pl L f_122) H := by rw [ef_122]; exact hP
          have hD : va_D (fun q => q ∈ L) (va_pl L f_122) := by rw [ef_122]; exact hD
          have hG : GI (okc cI cL cZ cR cG cH L kd) kd L f_122 := by rw [ef_122]; exact hG.set a_105 (mk_567 ka_105 ⟨_, rfl, okI_up hbg_120 ⟨i32_lo _, i32_hi _⟩ _⟩)
          have hfo_123 : f_122 a_5 = .inl (cI, 600, .inl g_35) := by rw [ef_122, up_ne (kd_ne ka_105 ka_5 (by decide))]; exact hfo_89
          have hfo_124 : f_122 o0 = .inr (2, [.ref a_2, .int v_92, .int v_93, .ref a_5, .int v_95, .int v_96, .int v_97, .int v_98, .int v_99, .int v_100]) := by rw [ef_122, up_ne (kd_ne ka_105 ko0 (by decide))]; exact hfo_90
          have hfo_125 : f_122 a_2 = .inr (7, [.ref a_103, .int v_104, .ref a_105, .ref a_106, .ref a_107, .ref a_108, .int v_109, .ref a_110, .ref a_111, .ref a_112, .ref a_113, .ref a_114, .int v_115, .ref a_116, .ref a_117, .ref a_118]) := by rw [ef_122, up_ne (kd_ne ka_105 ka_2 (by decide))]; exact hfo_102
          have hfr0 : ∀ b, kd b ≠ 2 → kd b ≠ 567 → f_122 b = f b := fun b q2 q567 => (congrFun ef_122 b).trans ((up_ne (fun e9 => q567 (by rw [e9]; exact ka_105))).trans (hfr0 b q2 q567))
          have hfr2_4 : ∀ b, kd b = 2 → fldI (f_122 b) 4 = fldI (f b) 4 := fun b kb => (congrArg (fun x => fldI x 4) ((congrFun ef_122 b).trans (up_ne (kd_ne ka_105 kb (by decide))))).trans (hfr2_4 b kb)
          have hfr2_7 : ∀ b, kd b = 2 → fldI (f_122 b) 7 = fldI (f b) 7 := fun b kb => (congrArg (fun x => fldI x 7) ((congrFun ef_122 b).trans (up_ne (kd_ne ka_105 kb (by decide))))).trans (hfr2_7 b kb)
          have hfr2_8 : ∀ b, kd b = 2 → fldI (f_122 b) 8 = fldI (f b) 8 := fun b kb => (congrArg (fun x => fldI x 8) ((congrFun ef_122 b).trans (up_ne (kd_ne ka_105 kb (by decide))))).trans (hfr2_8 b kb)
          have hrr2_0 : ∀ b, kd b = 2 → fldR (f_122 b) 0 = fldR (f b) 0 := fun b kb => (congrArg (fun x => fldR x 0) ((congrFun ef_122 b).trans (up_ne (kd_ne ka_105 kb (by decide))))).trans (hrr2_0 b kb)
          have hrr2_3 : ∀ b, kd b = 2 → fldR (f_122 b) 3 = fldR (f b) 3 := fun b kb => (congrArg (fun x => fldR x 3) ((congrFun ef_122 b).trans (up_ne (kd_ne ka_105 kb (by decide))))).trans (hrr2_3 b kb)
          have hT0 : trel kd 207 566 568 573 204 f_122 a_2 := by rw [ef_122]; exact hT0.up ka_105 (by decide) (by decide) (by decide) (by decide) (by decide)
          have hfo_126 : f_122 a_105 = .inl (cI, 6, .inl (upd g_120 (Int32.toNatClampNeg x_41) y_86)) := by rw [ef_122]; exact up_self
          refine lv_iload_n hx hb dX2_readClass_126 rfl (lv_at hl 0 rfl) ?_
          refine lv_if_ne (tgt := 142) hx hb dX2_readClass_127 (by decide) (fun c_127 => ?_) (fun c_127 => ?_)
          · skip
            rw [← Int32.toInt_inj, ti_0] at c_127
            refine lv_iconst (v := 1) hx hb dX2_readClass_142 (by decide) ?_
            refine lv_goto (tgt := 147) hx hb dX2_readClass_143 (by decide) ?_
            exact W.zret (v := 1) (ty := .boolean) hx hb hr rfl (fun t ht hW => ⟨⟨1, f_122, rfl, ⟨hG, (by decide), hfr0, hfr2_4, hfr2_7, hfr2_8, hrr2_0, hrr2_3, (by intro w5 z5 e5 d5; rw [hfo_1] at e5; rw [hfo_124] at d5; obtain rfl := Option.some.inj e5; obtain rfl := Option.some.inj d5; (try rw [ti_1]) <;> omega), (fun d9 h9 => by rw [hfo_124] at h9; obtain rfl := Option.some.inj h9; exact hT0)⟩, by rw [ht]; exact hP, va_K.moved hW.alike hK, pl_in hD⟩, hS.F ht⟩) hS.2.2 dX2_readClass_147
          · skip
            rw [← Int32.toInt_inj, ti_0] at c_127
            refine lv_aload_n hx hb dX2_readClass_130 rfl (lv_at hl 2 rfl) ?_
            refine lv_iconst (v := 1) hx hb dX2_readClass_131 (by decide) ?_
            refine lv_aload_n hx hb dX2_readClass_132 rfl (lv_at hl 2 rfl) ?_
            refine tk_getP (D := (dC, dI)) (ci := 2) (v := .int v_96) (C := RX2) (T := TX2) (N := 10) hx hb hU inlX2 hown hK hP mo0 hfo_124 rfl 5 (by decide) (hU _ wd_256) (fun _ h9 => h9) rfl dX2_readClass_133 ?_
            refine tk_ViP (As := [.int 1, .int v_96]) (rest := []) (n := 2) hx hb hml hown hU hN hZ (s_X2_fail_k2 l (dC, dI) cI cL cZ cR cG cH Z kd L f_122 hG o0 mo0 ko0 1 v_96) wd_349 wd_350 wd_351 wd_33 wd_352 (by decide +kernel) ⟨Nat.le_of_ble_eq_true rfl, Nat.le_of_ble_eq_true rfl⟩ hK hP hD hS mo0 hfo_124 2 rfl rfl rfl hl.1 rfl (Nat.le_of_ble_eq_true rfl) dX2_readClass_136 ⟨Nat.le_of_ble_eq_true rfl, Nat.le_of_ble_eq_true rfl⟩ (fun x_128 f_129 H locs hw hP hD hS => ?_)
            obtain ⟨hG, bx_128, hkc_130, hfc_131, hfc_132, hfc_133, hfc_134, hrc_135, hrc_136⟩ := hw
            have hfo_138 : f_129 a_5 = .inl (cI, 600, .inl g_35) := by rw [hkc_130 a_5 (by rw [ka_5]; decide)]; exact hfo_123
            have hfo_139 : f_129 a_2 = .inr (7, [.ref a_103, .int v_104, .ref a_105, .ref a_106, .ref a_107, .ref a_108, .int v_109, .ref a_110, .ref a_111, .ref a_112, .ref a_113, .ref a_114, .int v_115, .ref a_116, .ref a_117, .ref a_118]) := by rw [hkc_130 a_2 (by rw [ka_2]; decide)]; exact hfo_125
            have hfr0 : ∀ b, kd b ≠ 2 → kd b ≠ 567 → f_129 b = f b := fun b q2 q567 => (hkc_130 b q2).trans (hfr0 b q2 q567)
            have hfr2_4 : ∀ b, kd b = 2 → fldI (f_129 b) 4 = fldI (f b) 4 := fun b kb => (hfc_131 b kb).trans (hfr2_4 b kb)
            have hfr2_7 : ∀ b, kd b = 2 → fldI (f_129 b) 7 = fldI (f b) 7 := fun b kb => (hfc_133 b kb).trans (hfr2_7 b kb)
            have hfr2_8 : ∀ b, kd b = 2 → fldI (f_129 b) 8 = fldI (f b) 8 := fun b kb => (hfc_134 b kb).trans (hfr2_8 b kb)
            have hrr2_0 : ∀ b, kd b = 2 → fldR (f_129 b) 0 = fldR (f b) 0 := fun b kb => (hrc_135 b kb).trans (hrr2_0 b kb)
            have hrr2_3 : ∀ b, kd b = 2 → fldR (f_129 b) 3 = fldR (f b) 3 := fun b kb => (hrc_136 b kb).trans (hrr2_3 b kb)
            have hT0 : trel kd 207 566 568 573 204 f_129 a_2 := hT0.keep (fun b q => hkc_130 b (by rw [q]; decide)) (fun b q => hkc_130 b (by rw [q]; decide)) (fun b q => hkc_130 b (by rw [q]; decide)) (fun b q => hkc_130 b (by rw [q]; decide)) (fun b q => congrArg (fun x => fldI x 1) (hkc_130 b (by rw [q]; decide)))
            obtain ⟨a_141, v_142, v_143, a_144, v_145, v_146, v_147, v_148, v_149, v_150, hfo_140, ⟨ma_141, ka_141⟩, ⟨ma_144, ka_144⟩, bv_145, bv_146, bv_147, bv_148, bv_149⟩ := un_2 (hG _ mo0) ko0
            have bv_142 : ((-2147483648) ≤ v_142.toInt ∧ v_142.toInt ≤ 2147483647) := ⟨i32_lo _, i32_hi _⟩
            have bv_143 : ((-2147483648) ≤ v_143.toInt ∧ v_143.toInt ≤ 2147483647) := ⟨i32_lo _, i32_hi _⟩
            have bv_150 : ((-2147483648) ≤ v_150.toInt ∧ v_150.toInt ≤ 2147483647) := ⟨i32_lo _, i32_hi _⟩
            obtain rfl : a_2 = a_141 := by have hk9 := hrr2_0 o0 ko0; rw [hfo_140, hfo_1] at hk9; exact (Option.some.inj hk9).symm
            obtain rfl : a_5 = a_144 := by have hk9 := hrr2_3 o0 ko0; rw [hfo_140, hfo_1] at hk9; exact (Option.some.inj hk9).symm
            obtain rfl : v_95 = v_145 := by have hk9 := hfc_131 o0 ko0; rw [hfo_140, hfo_124] at hk9; exact (Option.some.inj hk9).symm
            obtain rfl : v_96 = v_146 := by have hk9 := hfc_132 o0 ko0; rw [hfo_140, hfo_124] at hk9; exact (Option.some.inj hk9).symm
            obtain rfl : v_98 = v_148 := by have hk9 := hfc_133 o0 ko0; rw [hfo_140, hfo_124] at hk9; exact (Option.some.inj hk9).symm
            obtain rfl : v_99 = v_149 := by have hk9 := hfc_134 o0 ko0; rw [hfo_140, hfo_124] at hk9; exact (Option.some.inj hk9).symm
            refine lv_if_eq (tgt := 146) hx hb dX2_readClass_139 (by decide) (fun c_151 => ?_) (fun c_151 => ?_)
            · skip
              rw [← Int32.toInt_inj, ti_0] at c_151
              refine lv_iconst (v := 0) hx hb dX2_readClass_146 (by decide) ?_
              exact W.zret (v := 0) (ty := .boolean) hx hb hr rfl (fun t ht hW => ⟨⟨0, f_129, rfl, ⟨hG, (by decide), hfr0, hfr2_4, hfr2_7, hfr2_8, hrr2_0, hrr2_3, (by intro w5 z5 e5 d5; rw [hfo_1] at e5; rw [hfo_140] at d5; obtain rfl := Option.some.inj e5; obtain rfl := Option.some.inj d5; (try rw [ti_0]) <;> omega), (fun d9 h9 => by rw [hfo_140] at h9; obtain rfl := Option.some.inj h9; exact hT0)⟩, by rw [ht]; exact hP, va_K.moved hW.alike hK, pl_in hD⟩, hS.F ht⟩) hS.2.2 dX2_readClass_147
            · skip
              rw [← Int32.toInt_inj, ti_0] at c_151
              exfalso
              omega
        · skip
          rw [Int32.le_iff_toInt_le] at c_101
          refine lv_aload_n hx hb dX2_readClass_56 rfl (lv_at hl 2 rfl) ?_
          refine tk_ViP (As := []) (rest := []) (n := 0) hx hb hml hown hU hN hZ (s_X2_peek_k2 l (dC, dI) cI cL cZ cR cG cH Z kd L f_88 hG o0 mo0 ko0) wd_274 wd_275 wd_276 wd_33 wd_277 (by decide +kernel) ⟨Nat.le_of_ble_eq_true rfl, Nat.le_of_ble_eq_true rfl⟩ hK hP hD hS mo0 hfo_90 2 rfl rfl rfl hl.1 rfl (Nat.le_of_ble_eq_true rfl) dX2_readClass_57 ⟨Nat.le_of_ble_eq_true rfl, Nat.le_of_ble_eq_true rfl⟩ (fun x_152 f_153 H locs hw hP hD hS => ?_)
          obtain ⟨hG, bx_152, hkc_154, hfc_155, hfc_156, hfc_157, hrc_158, hrc_159, hpost_160, hxp_161⟩ := hw
          have hfo_163 : f_153 a_5 = .inl (cI, 600, .inl g_35) := by rw [hkc_154 a_5 (by rw [ka_5]; decide)]; exact hfo_89
          have hfr0 : ∀ b, kd b ≠ 2 → kd b ≠ 567 → f_153 b = f b := fun b q2 q567 => (hkc_154 b q2).trans (hfr0 b q2 q567)
          have hfr2_4 : ∀ b, kd b = 2 → fldI (f_153 b) 4 = fldI (f b) 4 := fun b kb => (hfc_155 b kb).trans (hfr2_4 b kb)
          have hfr2_7 : ∀ b, kd b = 2 → fldI (f_153 b) 7 = fldI (f b) 7 := fun b kb => (hfc_156 b kb).trans (hfr2_7 b kb)
          have hfr2_8 : ∀ b, kd b = 2 → fldI (f_153 b) 8 = fldI (f b) 8 := fun b kb => (hfc_157 b kb).trans (hfr2_8 b kb)
          have hrr2_0 : ∀ b, kd b = 2 → fldR (f_153 b) 0 = fldR (f b) 0 := fun b kb => (hrc_158 b kb).trans (hrr2_0 b kb)
          have hrr2_3 : ∀ b, kd b = 2 → fldR (f_153 b) 3 = fldR (f b) 3 := fun b kb => (hrc_159 b kb).trans (hrr2_3 b kb)
          have hT0 : trel kd 207 566 568 573 204 f_153 a_2 := hT0.keep (fun b q => hkc_154 b (by rw [q]; decide)) (fun b q => hkc_154 b (by rw [q]; decide)) (fun b q => hkc_154 b (by rw [q]; decide)) (fun b q => hkc_154 b (by rw [q]; decide)) (fun b q => congrArg (fun x => fldI x 1) (hkc_154 b (by rw [q]; decide)))
          obtain ⟨a_165, v_166, v_167, a_168, v_169, v_170, v_171, v_172, v_173, v_174, hfo_164, ⟨ma_165, ka_165⟩, ⟨ma_168, ka_168⟩, bv_169, bv_170, bv_171, bv_172, bv_173⟩ := un_2 (hG _ mo0) ko0
          have bv_166 : ((-2147483648) ≤ v_166.toInt ∧ v_166.toInt ≤ 2147483647) := ⟨i32_lo _, i32_hi _⟩
          have bv_167 : ((-2147483648) ≤ v_167.toInt ∧ v_167.toInt ≤ 2147483647) := ⟨i32_lo _, i32_hi _⟩
          have bv_174 : ((-2147483648) ≤ v_174.toInt ∧ v_174.toInt ≤ 2147483647) := ⟨i32_lo _, i32_hi _⟩
          obtain rfl : a_2 = a_165 := by have hk9 := hrr2_0 o0 ko0; rw [hfo_164, hfo_1] at hk9; exact (Option.some.inj hk9).symm
          obtain rfl : a_5 = a_168 := by have hk9 := hrr2_3 o0 ko0; rw [hfo_164, hfo_1] at hk9; exact (Option.some.inj hk9).symm
          obtain rfl : v_95 = v_169 := by have hk9 := hfc_155 o0 ko0; rw [hfo_164, hfo_90] at hk9; exact (Option.some.inj hk9).symm
          obtain rfl : v_98 = v_172 := by have hk9 := hfc_156 o0 ko0; rw [hfo_164, hfo_90] at hk9; exact (Option.some.inj hk9).symm
          obtain rfl : v_99 = v_173 := by have hk9 := hfc_157 o0 ko0; rw [hfo_164, hfo_90] at hk9; exact (Option.some.inj hk9).symm
          have hqhpost_160 := hpost_160 v_96 v_170 (by rw [hfo_90]; rfl) (by rw [hfo_164]; rfl)
          have hpkx_152 := hxp_161 a_5 g_35 v_170 (by rw [hfo_164]; rfl) hfo_163 (by rw [hfo_164]; rfl)
          refine tk_SiP (As := [.int x_152]) (rest := []) (n := 1) hx hb hml hown hU hN hZ (s_X2_isSmall l (dC, dI) cI cL cZ cR cG cH Z kd L f_153 hG x_152) wd_284 wd_285 wd_33 wd_286 (by decide +kernel) ⟨Nat.le_of_ble_eq_true rfl, Nat.le_of_ble_eq_true rfl⟩ hK hP hD hS rfl hl.1 rfl (Nat.le_of_ble_eq_true rfl) dX2_readClass_60 ⟨Nat.le_of_ble_eq_true rfl, Nat.le_of_ble_eq_true rfl⟩ (fun x_175 f_176 H locs hw hP hD hS => ?_)
          obtain ⟨rfl, bx_175, relx_175⟩ := hw
          refine lv_if_eq (tgt := 116) hx hb dX2_readClass_63 (by decide) (fun c_178 => ?_) (fun c_178 => ?_)
          · skip
            rw [← Int32.toInt_inj, ti_0] at c_178
            refine lv_aload_n hx hb dX2_readClass_116 rfl (lv_at hl 2 rfl) ?_
            refine tk_getP (D := (dC, dI)) (ci := 2) (v := .ref a_2) (C := RX2) (T := TX2) (N := 10) hx hb hU inlX2 hown hK hP mo0 hfo_164 rfl 0 (by decide) (hU _ wd_150) (fun _ h9 => h9) rfl dX2_readClass_117 ?_
            obtain ⟨a_180, v_181, a_182, a_183, a_184, a_185, v_186, a_187, a_188, a_189, a_190, a_191, v_192, a_193, a_194, a_195, hfo_179, ⟨ma_180, ka_180⟩, bv_181, ⟨ma_182, ka_182⟩, ⟨ma_183, ka_183⟩, ⟨ma_184, ka_184⟩, ⟨ma_185, ka_185⟩, bv_186, ⟨ma_187, ka_187⟩, ⟨ma_188, ka_188⟩, ⟨ma_189, ka_189⟩, ⟨ma_190, ka_190⟩, ⟨ma_191, ka_191⟩, bv_192, ⟨ma_193, ka_193⟩, ⟨ma_194, ka_194⟩, ⟨ma_195, ka_195⟩⟩ := un_207 (hG _ ma_2) ka_2
            refine tk_getP (D := (dC, dI)) (ci := 7) (v := .ref a_182) (C := RX7) (T := TX7) (N := 16) hx hb hU inlX7 hown hK hP ma_2 hfo_179 rfl 2 (by decide) (hU _ wd_365) (fun _ h9 => h9) rfl dX2_readClass_120 ?_
            refine lv_iload_n hx hb dX2_readClass_123 rfl (lv_at hl 1 rfl) ?_
            refine lv_iload_n hx hb dX2_readClass_124 rfl (lv_at hl 0 rfl) ?_
            obtain ⟨g_197, hfo_196, hbg_197⟩ := un_567 (hG _ ma_182) ka_182
            refine tk_istP hx hb hK hP hD hS 0 ma_182 hfo_196 rfl (vp_in_iff.mpr (by constructor <;> omega)) dX2_readClass_125 (fun H locs hP hD hS => ?_)
            obtain ⟨f_199, ef_199⟩ : ∃ y : Nat → va_E, y = va_up f_153 a_182 (.inl (cI, 6, .inl (upd g_197 (Int32.toNatClampNeg x_41) y_86))) := ⟨_, rfl⟩
            have hP : va_P (dC, dI) vwCl (va_pl L f_199) H := by rw [ef_199]; exact hP
            have hD : va_D (fun q => q ∈ L) (va_pl L f_199) := by rw [ef_199]; exact hD
            have hG : GI (okc cI cL cZ cR cG cH L kd) kd L f_199 := by rw [ef_199]; exact hG.set a_182 (mk_567 ka_182 ⟨_, rfl, okI_up hbg_197 ⟨i32_lo _, i32_hi _⟩ _⟩)
            have hfo_200 : f_199 a_5 = .inl (cI, 600, .inl g_35) := by rw [ef_199, up_ne (kd_ne ka_182 ka_5 (by decide))]; exact hfo_163
            have hfo_201 : f_199 o0 = .inr (2, [.ref a_2, .int v_166, .int v_167, .ref a_5, .int v_95, .int v_170, .int v_171, .int v_98, .int v_99, .int v_174]) := by rw [ef_199, up_ne (kd_ne ka_182 ko0 (by decide))]; exact hfo_164
            have hfo_202 : f_199 a_2 = .inr (7, [.ref a_180, .int v_181, .ref a_182, .ref a_183, .ref a_184, .ref a_185, .int v_186, .ref a_187, .ref a_188, .ref a_189, .ref a_190, .ref a_191, .int v_192, .ref a_193, .ref a_194, .ref a_195]) := by rw [ef_199, up_ne (kd_ne ka_182 ka_2 (by decide))]; exact hfo_179
            have hfr0 : ∀ b, kd b ≠ 2 → kd b ≠ 567 → f_199 b = f b := fun b q2 q567 => (congrFun ef_199 b).trans ((up_ne (fun e9 => q567 (by rw [e9]; exact ka_182))).trans (hfr0 b q2 q567))
            have hfr2_4 : ∀ b, kd b = 2 → fldI (f_199 b) 4 = fldI (f b) 4 := fun b kb => (congrArg (fun x => fldI x 4) ((congrFun ef_199 b).trans (up_ne (kd_ne ka_182 kb (by decide))))).trans (hfr2_4 b kb)
            have hfr2_7 : ∀ b, kd b = 2 → fldI (f_199 b) 7 = fldI (f b) 7 := fun b kb => (congrArg (fun x => fldI x 7) ((congrFun ef_199 b).trans (up_ne (kd_ne ka_182 kb (by decide))))).trans (hfr2_7 b kb)
            have hfr2_8 : ∀ b, kd b = 2 → fldI (f_199 b) 8 = fldI (f b) 8 := fun b kb => (congrArg (fun x => fldI x 8) ((congrFun ef_199 b).trans (up_ne (kd_ne ka_182 kb (by decide))))).trans (hfr2_8 b kb)
            have hrr2_0 : ∀ b, kd b = 2 → fldR (f_199 b) 0 = fldR (f b) 0 := fun b kb => (congrArg (fun x => fldR x 0) ((congrFun ef_199 b).trans (up_ne (kd_ne ka_182 kb (by decide))))).trans (hrr2_0 b kb)
            have hrr2_3 : ∀ b, kd b = 2 → fldR (f_199 b) 3 = fldR (f b) 3 := fun b kb => (congrArg (fun x => fldR x 3) ((congrFun ef_199 b).trans (up_ne (kd_ne ka_182 kb (by decide))))).trans (hrr2_3 b kb)
            have hT0 : trel kd 207 566 568 573 204 f_199 a_2 := by rw [ef_199]; exact hT0.up ka_182 (by decide) (by decide) (by decide) (by decide) (by decide)
            have hfo_203 : f_199 a_182 = .inl (cI, 6, .inl (upd g_197 (Int32.toNatClampNeg x_41) y_86)) := by rw [ef_199]; exact up_self
            refine lv_iload_n hx hb dX2_readClass_126 rfl (lv_at hl 0 rfl) ?_
            refine lv_if_ne (tgt := 142) hx hb dX2_readClass_127 (by decide) (fun c_204 => ?_) (fun c_204 => ?_)
            · skip
              rw [← Int32.toInt_inj, ti_0] at c_204
              refine lv_iconst (v := 1) hx hb dX2_readClass_142 (by decide) ?_
              refine lv_goto (tgt := 147) hx hb dX2_readClass_143 (by decide) ?_
              exact W.zret (v := 1) (ty := .boolean) hx hb hr rfl (fun t ht hW => ⟨⟨1, f_199, rfl, ⟨hG, (by decide), hfr0, hfr2_4, hfr2_7, hfr2_8, hrr2_0, hrr2_3, (by intro w5 z5 e5 d5; rw [hfo_1] at e5; rw [hfo_201] at d5; obtain rfl := Option.some.inj e5; obtain rfl := Option.some.inj d5; (try rw [ti_1]) <;> omega), (fun d9 h9 => by rw [hfo_201] at h9; obtain rfl := Option.some.inj h9; exact hT0)⟩, by rw [ht]; exact hP, va_K.moved hW.alike hK, pl_in hD⟩, hS.F ht⟩) hS.2.2 dX2_readClass_147
            · skip
              rw [← Int32.toInt_inj, ti_0] at c_204
              refine lv_aload_n hx hb dX2_readClass_130 rfl (lv_at hl 2 rfl) ?_
              refine lv_iconst (v := 1) hx hb dX2_readClass_131 (by decide) ?_
              refine lv_aload_n hx hb dX2_readClass_132 rfl (lv_at hl 2 rfl) ?_
              refine tk_getP (D := (dC, dI)) (ci := 2) (v := .int v_170) (C := RX2) (T := TX2) (N := 10) hx hb hU inlX2 hown hK hP mo0 hfo_201 rfl 5 (by decide) (hU _ wd_256) (fun _ h9 => h9) rfl dX2_readClass_133 ?_
              refine tk_ViP (As := [.int 1, .int v_170]) (rest := []) (n := 2) hx hb hml hown hU hN hZ (s_X2_fail_k2 l (dC, dI) cI cL cZ cR cG cH Z kd L f_199 hG o0 mo0 ko0 1 v_170) wd_349 wd_350 wd_351 wd_33 wd_352 (by decide +kernel) ⟨Nat.le_of_ble_eq_true rfl, Nat.le_of_ble_eq_true rfl⟩ hK hP hD hS mo0 hfo_201 2 rfl rfl rfl hl.1 rfl (Nat.le_of_ble_eq_true rfl) dX2_readClass_136 ⟨Nat.le_of_ble_eq_true rfl, Nat.le_of_ble_eq_true rfl⟩ (fun x_205 f_206 H locs hw hP hD hS => ?_)
              obtain ⟨hG, bx_205, hkc_207, hfc_208, hfc_209, hfc_210, hfc_211, hrc_212, hrc_213⟩ := hw
              have hfo_215 : f_206 a_5 = .inl (cI, 600, .inl g_35) := by rw [hkc_207 a_5 (by rw [ka_5]; decide)]; exact hfo_200
              have hfo_216 : f_206 a_2 = .inr (7, [.ref a_180, .int v_181, .ref a_182, .ref a_183, .ref a_184, .ref a_185, .int v_186, .ref a_187, .ref a_188, .ref a_189, .ref a_190, .ref a_191, .int v_192, .ref a_193, .ref a_194, .ref a_195]) := by rw [hkc_207 a_2 (by rw [ka_2]; decide)]; exact hfo_202
              have hfr0 : ∀ b, kd b ≠ 2 → kd b ≠ 567 → f_206 b = f b := fun b q2 q567 => (hkc_207 b q2).trans (hfr0 b q2 q567)
              have hfr2_4 : ∀ b, kd b = 2 → fldI (f_206 b) 4 = fldI (f b) 4 := fun b kb => (hfc_208 b kb).trans (hfr2_4 b kb)
              have hfr2_7 : ∀ b, kd b = 2 → fldI (f_206 b) 7 = fldI (f b) 7 := fun b kb => (hfc_210 b kb).trans (hfr2_7 b kb)
              have hfr2_8 : ∀ b, kd b = 2 → fldI (f_206 b) 8 = fldI (f b) 8 := fun b kb => (hfc_211 b kb).trans (hfr2_8 b kb)
              have hrr2_0 : ∀ b, kd b = 2 → fldR (f_206 b) 0 = fldR (f b) 0 := fun b kb => (hrc_212 b kb).trans (hrr2_0 b kb)
              have hrr2_3 : ∀ b, kd b = 2 → fldR (f_206 b) 3 = fldR (f b) 3 := fun b kb => (hrc_213 b kb).trans (hrr2_3 b kb)
              have hT0 : trel kd 207 566 568 573 204 f_206 a_2 := hT0.keep (fun b q => hkc_207 b (by rw [q]; decide)) (fun b q => hkc_207 b (by rw [q]; decide)) (fun b q => hkc_207 b (by rw [q]; decide)) (fun b q => hkc_207 b (by rw [q]; decide)) (fun b q => congrArg (fun x => fldI x 1) (hkc_207 b (by rw [q]; decide)))
              obtain ⟨a_218, v_219, v_220, a_221, v_222, v_223, v_224, v_225, v_226, v_227, hfo_217, ⟨ma_218, ka_218⟩, ⟨ma_221, ka_221⟩, bv_222, bv_223, bv_224, bv_225, bv_226⟩ := un_2 (hG _ mo0) ko0
              have bv_219 : ((-2147483648) ≤ v_219.toInt ∧ v_219.toInt ≤ 2147483647) := ⟨i32_lo _, i32_hi _⟩
              have bv_220 : ((-2147483648) ≤ v_220.toInt ∧ v_220.toInt ≤ 2147483647) := ⟨i32_lo _, i32_hi _⟩
              have bv_227 : ((-2147483648) ≤ v_227.toInt ∧ v_227.toInt ≤ 2147483647) := ⟨i32_lo _, i32_hi _⟩
              obtain rfl : a_2 = a_218 := by have hk9 := hrr2_0 o0 ko0; rw [hfo_217, hfo_1] at hk9; exact (Option.some.inj hk9).symm
              obtain rfl : a_5 = a_221 := by have hk9 := hrr2_3 o0 ko0; rw [hfo_217, hfo_1] at hk9; exact (Option.some.inj hk9).symm
              obtain rfl : v_95 = v_222 := by have hk9 := hfc_208 o0 ko0; rw [hfo_217, hfo_201] at hk9; exact (Option.some.inj hk9).symm
              obtain rfl : v_170 = v_223 := by have hk9 := hfc_209 o0 ko0; rw [hfo_217, hfo_201] at hk9; exact (Option.some.inj hk9).symm
              obtain rfl : v_98 = v_225 := by have hk9 := hfc_210 o0 ko0; rw [hfo_217, hfo_201] at hk9; exact (Option.some.inj hk9).symm
              obtain rfl : v_99 = v_226 := by have hk9 := hfc_211 o0 ko0; rw [hfo_217, hfo_201] at hk9; exact (Option.some.inj hk9).symm
              refine lv_if_eq (tgt := 146) hx hb dX2_readClass_139 (by decide) (fun c_228 => ?_) (fun c_228 => ?_)
              · skip
                rw [← Int32.toInt_inj, ti_0] at c_228
                refine lv_iconst (v := 0) hx hb dX2_readClass_146 (by decide) ?_
                exact W.zret (v := 0) (ty := .boolean) hx hb hr rfl (fun t ht hW => ⟨⟨0, f_206, rfl, ⟨hG, (by decide), hfr0, hfr2_4, hfr2_7, hfr2_8, hrr2_0, hrr2_3, (by intro w5 z5 e5 d5; rw [hfo_1] at e5; rw [hfo_217] at d5; obtain rfl := Option.some.inj e5; obtain rfl := Option.some.inj d5; (try rw [ti_0]) <;> omega), (fun d9 h9 => by rw [hfo_217] at h9; obtain rfl := Option.some.inj h9; exact hT0)⟩, by rw [ht]; exact hP, va_K.moved hW.alike hK, pl_in hD⟩, hS.F ht⟩) hS.2.2 dX2_readClass_147
              · skip
                rw [← Int32.toInt_inj, ti_0] at c_228
                exfalso
                omega
          · skip
            rw [← Int32.toInt_inj, ti_0] at c_178
            have hclc_229 : (0 ≤ v_170.toInt ∧ v_170.toInt ≤ 599) := by constructor <;> omega
            rcases hpkx_152 with hs9 | ex_152
            · exfalso; omega
            refine lv_aload_n hx hb dX2_readClass_66 rfl (lv_at hl 2 rfl) ?_
            refine tk_getP (D := (dC, dI)) (ci := 2) (v := .ref a_2) (C := RX2) (T := TX2) (N := 10) hx hb hU inlX2 hown hK hP mo0 hfo_164 rfl 0 (by decide) (hU _ wd_150) (fun _ h9 => h9) rfl dX2_readClass_67 ?_
            refine lv_aload_n hx hb dX2_readClass_70 rfl (lv_at hl 2 rfl) ?_
            refine tk_getP (D := (dC, dI)) (ci := 2) (v := .ref a_5) (C := RX2) (T := TX2) (N := 10) hx hb hU inlX2 hown hK hP mo0 hfo_164 rfl 3 (by decide) (hU _ wd_152) (fun _ h9 => h9) rfl dX2_readClass_71 ?_
            refine lv_aload_n hx hb dX2_readClass_74 rfl (lv_at hl 2 rfl) ?_
            refine tk_getP (D := (dC, dI)) (ci := 2) (v := .int v_170) (C := RX2) (T := TX2) (N := 10) hx hb hU inlX2 hown hK hP mo0 hfo_164 rfl 5 (by decide) (hU _ wd_256) (fun _ h9 => h9) rfl dX2_readClass_75 ?_
            refine tk_ildP hx hb hK hP 0 ma_5 hfo_163 rfl (vp_in_iff.mpr (by constructor <;> omega)) dX2_readClass_78 ?_
            refine tk_topi (y := x_152) ex_152.symm ?_
            obtain ⟨a_231, v_232, a_233, a_234, a_235, a_236, v_237, a_238, a_239, a_240, a_241, a_242, v_243, a_244, a_245, a_246, hfo_230, ⟨ma_231, ka_231⟩, bv_232, ⟨ma_233, ka_233⟩, ⟨ma_234, ka_234⟩, ⟨ma_235, ka_235⟩, ⟨ma_236, ka_236⟩, bv_237, ⟨ma_238, ka_238⟩, ⟨ma_239, ka_239⟩, ⟨ma_240, ka_240⟩, ⟨ma_241, ka_241⟩, ⟨ma_242, ka_242⟩, bv_243, ⟨ma_244, ka_244⟩, ⟨ma_245, ka_245⟩, ⟨ma_246, ka_246⟩⟩ := un_207 (hG _ ma_2) ka_2
            refine tk_ViP (As := [.int x_152]) (rest := []) (n := 1) hx hb hml hown hU hN hZ (s_X7_signOf_k207_t l (dC, dI) cI cL cZ cR cG cH Z kd L f_153 hG a_2 ma_2 ka_2 x_152 hT0) wd_345 wd_346 wd_347 wd_28 wd_348 (by decide +kernel) ⟨Nat.le_of_ble_eq_true rfl, Nat.le_of_ble_eq_true rfl⟩ hK hP hD hS ma_2 hfo_230 7 rfl rfl rfl hl.1 rfl (Nat.le_of_ble_eq_true rfl) dX2_readClass_79 ⟨Nat.le_of_ble_eq_true rfl, Nat.le_of_ble_eq_true rfl⟩ (fun x_247 f_248 H locs hw hP hD hS => ?_)
            obtain ⟨rfl, bx_247, hxp_249⟩ := hw
            have hsox_247 := hxp_249 v_232 (by rw [hfo_230]; rfl)
            refine lv_istore_n (lv' := [(3, .int x_247), (2, .int y_86), (1, .int x_41), (0, .ref o0)]) hx hb dX2_readClass_82 rfl hl (by decide) rfl (fun ls hl => ?_)
            refine lv_iload_n hx hb dX2_readClass_83 rfl (lv_at hl 0 rfl) ?_
            refine lv_if_ne (tgt := 97) hx hb dX2_readClass_84 (by decide) (fun c_251 => ?_) (fun c_251 => ?_)
            · skip
              rw [← Int32.toInt_inj, ti_0] at c_251
              refine lv_iload_n hx hb dX2_readClass_97 rfl (lv_at hl 1 rfl) ?_
              refine lv_iconst (v := 1) hx hb dX2_readClass_98 (by decide) ?_
              refine lv_iload_n hx hb dX2_readClass_99 rfl (lv_at hl 0 rfl) ?_
              refine lv_ishl hx hb dX2_readClass_100 ?_
              refine lv_topi (fun x_252 ex_252 => ?_)
              have bx_252 : (1 ≤ x_252.toInt ∧ x_252.toInt ≤ 256) := by rw [ex_252]; exact sh_8 (by constructor <;> omega)
              refine lv_ior hx hb dX2_readClass_101 ?_
              refine lv_topi (fun x_253 ex_253 => ?_)
              have bx_253 : ((-2147483648) ≤ x_253.toInt ∧ x_253.toInt ≤ 2147483647) := ⟨i32_lo _, i32_hi _⟩
              refine lv_istore_n (lv' := [(2, .int x_253), (3, .int x_247), (1, .int x_41), (0, .ref o0)]) hx hb dX2_readClass_102 rfl hl (by decide) rfl (fun ls hl => ?_)
              refine lv_aload_n hx hb dX2_readClass_103 rfl (lv_at hl 3 rfl) ?_
              refine lv_dup hx hb dX2_readClass_104 rfl ?_
              refine tk_getP (D := (dC, dI)) (ci := 2) (v := .int v_170) (C := RX2) (T := TX2) (N := 10) hx hb hU inlX2 hown hK hP mo0 hfo_164 rfl 5 (by decide) (hU _ wd_256) (fun _ h9 => h9) rfl dX2_readClass_105 ?_
              refine lv_iconst (v := 1) hx hb dX2_readClass_108 (by decide) ?_
              refine lv_iadd hx hb dX2_readClass_109 ?_
              refine lv_topi (fun x_254 ex_254 => ?_)
              have hx_254 : x_254.toInt = v_170.toInt + 1 := by rw [ex_254, ad_I (by rw [ti_1]; omega) (by rw [ti_1]; omega), ti_1]
              have bx_254 : (1 ≤ x_254.toInt ∧ x_254.toInt ≤ 600) := by constructor <;> omega
              refine tk_putP (D := (dC, dI)) (ci := 2) (v := .int x_254) (ty := .int) (C := RX2) (T := TX2) (N := 10) hx hb hU inlX2 tyX2 tyX2_ok nmX2 hown hK hP hD hS mo0 hfo_164 rfl 5 (by decide) (hU _ wd_256) (fun _ h9 => h9) rfl (by decide +kernel) rfl rfl (Nat.le_of_ble_eq_true rfl) dX2_readClass_110 (fun H locs hP hD hS => ?_)
              obtain ⟨f_256, ef_256⟩ : ∃ y : Nat → va_E, y = va_up f_153 o0 (.inr (2, [.ref a_2, .int v_166, .int v_167, .ref a_5, .int v_95, .int x_254, .int v_171, .int v_98, .int v_99, .int v_174])) := ⟨_, rfl⟩
              have hP : va_P (dC, dI) vwCl (va_pl L f_256) H := by rw [ef_256]; exact hP
              have hD : va_D (fun q => q ∈ L) (va_pl L f_256) := by rw [ef_256]; exact hD
              have hG : GI (okc cI cL cZ cR cG cH L kd) kd L f_256 := by rw [ef_256]; exact hG.set o0 (mk_2 ko0 ⟨a_2, v_166, v_167, a_5, v_95, x_254, v_171, v_98, v_99, v_174, rfl, ⟨ma_2, ka_2⟩, ⟨ma_5, ka_5⟩, (by constructor <;> omega), (by constructor <;> omega), (by constructor <;> omega), (by constructor <;> omega), (by constructor <;> omega)⟩)
              have hfo_257 : f_256 a_5 = .inl (cI, 600, .inl g_35) := by rw [ef_256, up_ne (kd_ne ko0 ka_5 (by decide))]; exact hfo_163
              have hfo_258 : f_256 a_2 = .inr (7, [.ref a_231, .int v_232, .ref a_233, .ref a_234, .ref a_235, .ref a_236, .int v_237, .ref a_238, .ref a_239, .ref a_240, .ref a_241, .ref a_242, .int v_243, .ref a_244, .ref a_245, .ref a_246]) := by rw [ef_256, up_ne (kd_ne ko0 ka_2 (by decide))]; exact hfo_230
              have hfr0 : ∀ b, kd b ≠ 2 → kd b ≠ 567 → f_256 b = f b := fun b q2 q567 => (congrFun ef_256 b).trans ((up_ne (fun e9 => q2 (by rw [e9]; exact ko0))).trans (hfr0 b q2 q567))
              have hfr2_4 : ∀ b, kd b = 2 → fldI (f_256 b) 4 = fldI (f b) 4 := fun b kb => ((congrArg (fun x => fldI x 4) (congrFun ef_256 b)).trans (fk_up (by rw [hfo_164]; rfl) b)).trans (hfr2_4 b kb)
              have hfr2_7 : ∀ b, kd b = 2 → fldI (f_256 b) 7 = fldI (f b) 7 := fun b kb => ((congrArg (fun x => fldI x 7) (congrFun ef_256 b)).trans (fk_up (by rw [hfo_164]; rfl) b)).trans (hfr2_7 b kb)
              have hfr2_8 : ∀ b, kd b = 2 → fldI (f_256 b) 8 = fldI (f b) 8 := fun b kb => ((congrArg (fun x => fldI x 8) (congrFun ef_256 b)).trans (fk_up (by rw [hfo_164]; rfl) b)).trans (hfr2_8 b kb)
              have hrr2_0 : ∀ b, kd b = 2 → fldR (f_256 b) 0 = fldR (f b) 0 := fun b kb => ((congrArg (fun x => fldR x 0) (congrFun ef_256 b)).trans (fr_up (by rw [hfo_164]; rfl) b)).trans (hrr2_0 b kb)
              have hrr2_3 : ∀ b, kd b = 2 → fldR (f_256 b) 3 = fldR (f b) 3 := fun b kb => ((congrArg (fun x => fldR x 3) (congrFun ef_256 b)).trans (fr_up (by rw [hfo_164]; rfl) b)).trans (hrr2_3 b kb)
              have hT0 : trel kd 207 566 568 573 204 f_256 a_2 := by rw [ef_256]; exact hT0.up ko0 (by decide) (by decide) (by decide) (by decide) (by decide)
              have hfo_259 : f_256 o0 = .inr (2, [.ref a_2, .int v_166, .int v_167, .ref a_5, .int v_95, .int x_254, .int v_171, .int v_98, .int v_99, .int v_174]) := by rw [ef_256]; exact up_self
              refine lv_goto (tgt := 45) hx hb dX2_readClass_113 (by decide) ?_
              exact ih_hloop_85 x_253 (by constructor <;> omega) f_256 hG _ _ hP hS hD hfr0 hfr2_4 hfr2_7 hfr2_8 hrr2_0 hrr2_3 hfo_257 hT0 x_254 (by rw [hfo_259]; rfl) (by omega) (by omega) (by omega) ls (lv_sub hl [0, 2, 3] rfl)
            · skip
              rw [← Int32.toInt_inj, ti_0] at c_251
              refine lv_aload_n hx hb dX2_readClass_87 rfl (lv_at hl 3 rfl) ?_
              refine lv_iconst (v := 2) hx hb dX2_readClass_88 (by decide) ?_
              refine lv_aload_n hx hb dX2_readClass_89 rfl (lv_at hl 3 rfl) ?_
              refine tk_getP (D := (dC, dI)) (ci := 2) (v := .int v_170) (C := RX2) (T := TX2) (N := 10) hx hb hU inlX2 hown hK hP mo0 hfo_164 rfl 5 (by decide) (hU _ wd_256) (fun _ h9 => h9) rfl dX2_readClass_90 ?_
              refine tk_ViP (As := [.int 2, .int v_170]) (rest := []) (n := 2) hx hb hml hown hU hN hZ (s_X2_fail_k2 l (dC, dI) cI cL cZ cR cG cH Z kd L f_153 hG o0 mo0 ko0 2 v_170) wd_349 wd_350 wd_351 wd_33 wd_352 (by decide +kernel) ⟨Nat.le_of_ble_eq_true rfl, Nat.le_of_ble_eq_true rfl⟩ hK hP hD hS mo0 hfo_164 2 rfl rfl rfl hl.1 rfl (Nat.le_of_ble_eq_true rfl) dX2_readClass_93 ⟨Nat.le_of_ble_eq_true rfl, Nat.le_of_ble_eq_true rfl⟩ (fun x_260 f_261 H locs hw hP hD hS => ?_)
              obtain ⟨hG, bx_260, hkc_262, hfc_263, hfc_264, hfc_265, hfc_266, hrc_267, hrc_268⟩ := hw
              have hfo_270 : f_261 a_5 = .inl (cI, 600, .inl g_35) := by rw [hkc_262 a_5 (by rw [ka_5]; decide)]; exact hfo_163
              have hfo_271 : f_261 a_2 = .inr (7, [.ref a_231, .int v_232, .ref a_233, .ref a_234, .ref a_235, .ref a_236, .int v_237, .ref a_238, .ref a_239, .ref a_240, .ref a_241, .ref a_242, .int v_243, .ref a_244, .ref a_245, .ref a_246]) := by rw [hkc_262 a_2 (by rw [ka_2]; decide)]; exact hfo_230
              have hfr0 : ∀ b, kd b ≠ 2 → kd b ≠ 567 → f_261 b = f b := fun b q2 q567 => (hkc_262 b q2).trans (hfr0 b q2 q567)
              have hfr2_4 : ∀ b, kd b = 2 → fldI (f_261 b) 4 = fldI (f b) 4 := fun b kb => (hfc_263 b kb).trans (hfr2_4 b kb)
              have hfr2_7 : ∀ b, kd b = 2 → fldI (f_261 b) 7 = fldI (f b) 7 := fun b kb => (hfc_265 b kb).trans (hfr2_7 b kb)
              have hfr2_8 : ∀ b, kd b = 2 → fldI (f_261 b) 8 = fldI (f b) 8 := fun b kb => (hfc_266 b kb).trans (hfr2_8 b kb)
              have hrr2_0 : ∀ b, kd b = 2 → fldR (f_261 b) 0 = fldR (f b) 0 := fun b kb => (hrc_267 b kb).trans (hrr2_0 b kb)
              have hrr2_3 : ∀ b, kd b = 2 → fldR (f_261 b) 3 = fldR (f b) 3 := fun b kb => (hrc_268 b kb).trans (hrr2_3 b kb)
              have hT0 : trel kd 207 566 568 573 204 f_261 a_2 := hT0.keep (fun b q => hkc_262 b (by rw [q]; decide)) (fun b q => hkc_262 b (by rw [q]; decide)) (fun b q => hkc_262 b (by rw [q]; decide)) (fun b q => hkc_262 b (by rw [q]; decide)) (fun b q => congrArg (fun x => fldI x 1) (hkc_262 b (by rw [q]; decide)))
              obtain ⟨a_273, v_274, v_275, a_276, v_277, v_278, v_279, v_280, v_281, v_282, hfo_272, ⟨ma_273, ka_273⟩, ⟨ma_276, ka_276⟩, bv_277, bv_278, bv_279, bv_280, bv_281⟩ := un_2 (hG _ mo0) ko0
              have bv_274 : ((-2147483648) ≤ v_274.toInt ∧ v_274.toInt ≤ 2147483647) := ⟨i32_lo _, i32_hi _⟩
              have bv_275 : ((-2147483648) ≤ v_275.toInt ∧ v_275.toInt ≤ 2147483647) := ⟨i32_lo _, i32_hi _⟩
              have bv_282 : ((-2147483648) ≤ v_282.toInt ∧ v_282.toInt ≤ 2147483647) := ⟨i32_lo _, i32_hi _⟩
              obtain rfl : a_2 = a_273 := by have hk9 := hrr2_0 o0 ko0; rw [hfo_272, hfo_1] at hk9; exact (Option.some.inj hk9).symm
              obtain rfl : a_5 = a_276 := by have hk9 := hrr2_3 o0 ko0; rw [hfo_272, hfo_1] at hk9; exact (Option.some.inj hk9).symm
              obtain rfl : v_95 = v_277 := by have hk9 := hfc_263 o0 ko0; rw [hfo_272, hfo_164] at hk9; exact (Option.some.inj hk9).symm
              obtain rfl : v_170 = v_278 := by have hk9 := hfc_264 o0 ko0; rw [hfo_272, hfo_164] at hk9; exact (Option.some.inj hk9).symm
              obtain rfl : v_98 = v_280 := by have hk9 := hfc_265 o0 ko0; rw [hfo_272, hfo_164] at hk9; exact (Option.some.inj hk9).symm
              obtain rfl : v_99 = v_281 := by have hk9 := hfc_266 o0 ko0; rw [hfo_272, hfo_164] at hk9; exact (Option.some.inj hk9).symm
              exact W.zret (v := x_260) (ty := .boolean) hx hb hr (zb_n (by constructor <;> omega)) (fun t ht hW => ⟨⟨x_260, f_261, rfl, ⟨hG, (by constructor <;> omega), hfr0, hfr2_4, hfr2_7, hfr2_8, hrr2_0, hrr2_3, (by intro w5 z5 e5 d5; rw [hfo_1] at e5; rw [hfo_272] at d5; obtain rfl := Option.some.inj e5; obtain rfl := Option.some.inj d5; omega), (fun d9 h9 => by rw [hfo_272] at h9; obtain rfl := Option.some.inj h9; exact hT0)⟩, by rw [ht]; exact hP, va_K.moved hW.alike hK, pl_in hD⟩, hS.F ht⟩) hS.2.2 dX2_readClass_96
    exact hloop_85 601 0 (by decide) f_44 hG _ _ hP hS hD hfr0 hfr2_4 hfr2_7 hfr2_8 hrr2_0 hrr2_3 hfo_45 hT0 x_42 (by rw [hfo_46]; rfl) (by (try rw [ti_0]) <;> omega) (by (try rw [ti_0]) <;> omega) (by (try rw [ti_0]) <;> omega) ls hl
  · skip
    rw [← Int32.toInt_inj, ti_0] at c_39
    refine lv_aload_n hx hb dX2_readClass_10 rfl (lv_at hl 0 rfl) ?_
    refine lv_iconst (v := 1) hx hb dX2_readClass_11 (by decide) ?_
    refine lv_aload_n hx hb dX2_readClass_12 rfl (lv_at hl 0 rfl) ?_
    refine tk_getP (D := (dC, dI)) (ci := 2) (v := .int v_29) (C := RX2) (T := TX2) (N := 10) hx hb hU inlX2 hown hK hP mo0 hfo_23 rfl 5 (by decide) (hU _ wd_256) (fun _ h9 => h9) rfl dX2_readClass_13 ?_
    refine tk_ViP (As := [.int 1, .int v_29]) (rest := []) (n := 2) hx hb hml hown hU hN hZ (s_X2_fail_k2 l (dC, dI) cI cL cZ cR cG cH Z kd L f_13 hG o0 mo0 ko0 1 v_29) wd_349 wd_350 wd_351 wd_33 wd_352 (by decide +kernel) ⟨Nat.le_of_ble_eq_true rfl, Nat.le_of_ble_eq_true rfl⟩ hK hP hD hS mo0 hfo_23 2 rfl rfl rfl hl.1 rfl (Nat.le_of_ble_eq_true rfl) dX2_readClass_16 ⟨Nat.le_of_ble_eq_true rfl, Nat.le_of_ble_eq_true rfl⟩ (fun x_283 f_284 H locs hw hP hD hS => ?_)
    obtain ⟨hG, bx_283, hkc_285, hfc_286, hfc_287, hfc_288, hfc_289, hrc_290, hrc_291⟩ := hw
    have hfo_293 : f_284 a_5 = .inl (cI, 600, .inl g_35) := by rw [hkc_285 a_5 (by rw [ka_5]; decide)]; exact hfo_34
    have hfr0 : ∀ b, kd b ≠ 2 → kd b ≠ 567 → f_284 b = f b := fun b q2 q567 => (hkc_285 b q2).trans (hfr0 b q2 q567)
    have hfr2_4 : ∀ b, kd b = 2 → fldI (f_284 b) 4 = fldI (f b) 4 := fun b kb => (hfc_286 b kb).trans (hfr2_4 b kb)
    have hfr2_7 : ∀ b, kd b = 2 → fldI (f_284 b) 7 = fldI (f b) 7 := fun b kb => (hfc_288 b kb).trans (hfr2_7 b kb)
    have hfr2_8 : ∀ b, kd b = 2 → fldI (f_284 b) 8 = fldI (f b) 8 := fun b kb => (hfc_289 b kb).trans (hfr2_8 b kb)
    have hrr2_0 : ∀ b, kd b = 2 → fldR (f_284 b) 0 = fldR (f b) 0 := fun b kb => (hrc_290 b kb).trans (hrr2_0 b kb)
    have hrr2_3 : ∀ b, kd b = 2 → fldR (f_284 b) 3 = fldR (f b) 3 := fun b kb => (hrc_291 b kb).trans (hrr2_3 b kb)
    have hT0 : trel kd 207 566 568 573 204 f_284 a_2 := hT0.keep (fun b q => hkc_285 b (by rw [q]; decide)) (fun b q => hkc_285 b (by rw [q]; decide)) (fun b q => hkc_285 b (by rw [q]; decide)) (fun b q => hkc_285 b (by rw [q]; decide)) (fun b q => congrArg (fun x => fldI x 1) (hkc_285 b (by rw [q]; decide)))
    obtain ⟨a_295, v_296, v_297, a_298, v_299, v_300, v_301, v_302, v_303, v_304, hfo_294, ⟨ma_295, ka_295⟩, ⟨ma_298, ka_298⟩, bv_299, bv_300, bv_301, bv_302, bv_303⟩ := un_2 (hG _ mo0) ko0
    have bv_296 : ((-2147483648) ≤ v_296.toInt ∧ v_296.toInt ≤ 2147483647) := ⟨i32_lo _, i32_hi _⟩
    have bv_297 : ((-2147483648) ≤ v_297.toInt ∧ v_297.toInt ≤ 2147483647) := ⟨i32_lo _, i32_hi _⟩
    have bv_304 : ((-2147483648) ≤ v_304.toInt ∧ v_304.toInt ≤ 2147483647) := ⟨i32_lo _, i32_hi _⟩
    obtain rfl : a_2 = a_295 := by have hk9 := hrr2_0 o0 ko0; rw [hfo_294, hfo_1] at hk9; exact (Option.some.inj hk9).symm
    obtain rfl : a_5 = a_298 := by have hk9 := hrr2_3 o0 ko0; rw [hfo_294, hfo_1] at hk9; exact (Option.some.inj hk9).symm
    obtain rfl : v_6 = v_299 := by have hk9 := hfc_286 o0 ko0; rw [hfo_294, hfo_23] at hk9; exact (Option.some.inj hk9).symm
    obtain rfl : v_29 = v_300 := by have hk9 := hfc_287 o0 ko0; rw [hfo_294, hfo_23] at hk9; exact (Option.some.inj hk9).symm
    obtain rfl : v_9 = v_302 := by have hk9 := hfc_288 o0 ko0; rw [hfo_294, hfo_23] at hk9; exact (Option.some.inj hk9).symm
    obtain rfl : v_10 = v_303 := by have hk9 := hfc_289 o0 ko0; rw [hfo_294, hfo_23] at hk9; exact (Option.some.inj hk9).symm
    exact W.zret (v := x_283) (ty := .boolean) hx hb hr (zb_n (by constructor <;> omega)) (fun t ht hW => ⟨⟨x_283, f_284, rfl, ⟨hG, (by constructor <;> omega), hfr0, hfr2_4, hfr2_7, hfr2_8, hrr2_0, hrr2_3, (by intro w5 z5 e5 d5; rw [hfo_1] at e5; rw [hfo_294] at d5; obtain rfl := Option.some.inj e5; obtain rfl := Option.some.inj d5; omega), (fun d9 h9 => by rw [hfo_294] at h9; obtain rfl := Option.some.inj h9; exact hT0)⟩, by rw [ht]; exact hP, va_K.moved hW.alike hK, pl_in hD⟩, hS.F ht⟩) hS.2.2 dX2_readClass_19
set_option maxHeartbeats 8000000 in
set_option maxRecDepth 100000 in
theorem s_X2_readS_k2 (l : Launch) (D : va_G) (cI cL cZ cR cG cH : ClassId) (Z : zT) (kd : Nat → Nat) (L : List Nat) (f : Nat → va_E) (hG : GI (okc cI cL cZ cR cG cH L kd) kd L f) (o0 : Nat) (mo0 : o0 ∈ L) (ko0 : kd o0 = 2) (hxtr0 : ∀ d9, fldR (f o0) 0 = some d9 → trel kd 207 566 568 573 204 f d9) : mPI l D cI cL cZ cR cG cH Z yX2_readS cX2_readS 2 (some .boolean) 1 22 [.ref o0] L f (fun (r : Int32) (f9 : Nat → va_E) => GI (okc cI cL cZ cR cG cH L kd) kd L f9 ∧ (0 ≤ r.toInt ∧ r.toInt ≤ 1) ∧ (∀ b, kd b ≠ 2 → f9 b = f b) ∧ (∀ b, kd b = 2 → fldI (f9 b) 4 = fldI (f b) 4) ∧ (∀ b, kd b = 2 → fldI (f9 b) 7 = fldI (f b) 7) ∧ (∀ b, kd b = 2 → fldI (f9 b) 8 = fldI (f b) 8) ∧ (∀ b, kd b = 2 → fldR (f9 b) 0 = fldR (f b) 0) ∧ (∀ b, kd b = 2 → fldR (f9 b) 3 = fldR (f b) 3) ∧ (∀ (w5 z5 : Int32), fldI (f o0) 5 = some w5 → fldI (f9 o0) 5 = some z5 → w5.toInt ≤ z5.toInt) ∧ (∀ d9 n9 z9, fldR (f9 o0) 0 = some d9 → fldI (f9 d9) 1 = some n9 → fldI (f9 o0) 6 = some z9 → r.toInt = 0 ∨ z9.toInt ≤ n9.toInt) ∧ (∀ d9, fldR (f9 o0) 0 = some d9 → trel kd 207 566 568 573 204 f9 d9)) := by
  obtain ⟨dC, dI⟩ := D
  refine Met.ofW (cc := cX2_readS) (maxL := 2) (ret := (some .boolean)) (by decide) rfl ?_
  intro p e s m args below meth c s₁ B hml hv
  obtain ⟨rfl, hP, hK, hD0, hN, hZ⟩ := hv
  have hx := B.exec
  have hb := B.bytes
  have hr := B.returns
  have hU : ∀ w ∈ wsU, w.before _ s = true := fun w h => atoms_spec (ws := wU yX2_readS cX2_readS 2 (some .boolean)) B.pre w (List.mem_cons_of_mem _ h)
  have hown : s.vm.findClass RX2 = some m.cls := findClass_of_methodNamed B.named
  have hlocks := B.notSynchronized
  have hD := pl_in hD0
  have hS : va_S (fun q => q ∈ L) s.heap s.heap [] := va_S.rf
  have hl := lv_entry ([.ref o0]) (n := 2) (Nat.le_of_ble_eq_true rfl)
  rw [lg_entry_eq]
  generalize (lg_sl ([.ref o0]) ++ List.replicate (2 - (lg_sl ([.ref o0])).length) Slot.unset).toArray = ls at hl ⊢
  have hl : lv_has ls 2 [(0, .ref o0)] := hl
  have hfr0 : ∀ b, kd b ≠ 2 → f b = f b := fun _ _ => rfl
  have hfr2_4 : ∀ b, kd b = 2 → fldI (f b) 4 = fldI (f b) 4 := fun _ _ => rfl
  have hfr2_7 : ∀ b, kd b = 2 → fldI (f b) 7 = fldI (f b) 7 := fun _ _ => rfl
  have hfr2_8 : ∀ b, kd b = 2 → fldI (f b) 8 = fldI (f b) 8 := fun _ _ => rfl
  have hrr2_0 : ∀ b, kd b = 2 → fldR (f b) 0 = fldR (f b) 0 := fun _ _ => rfl
  have hrr2_3 : ∀ b, kd b = 2 → fldR (f b) 3 = fldR (f b) 3 := fun _ _ => rfl
  obtain ⟨a_2, v_3, v_4, a_5, v_6, v_7, v_8, v_9, v_10, v_11, hfo_1, ⟨ma_2, ka_2⟩, ⟨ma_5, ka_5⟩, bv_6, bv_7, bv_8, bv_9, bv_10⟩ := un_2 (hG _ mo0) ko0
  have bv_3 : ((-2147483648) ≤ v_3.toInt ∧ v_3.toInt ≤ 2147483647) := ⟨i32_lo _, i32_hi _⟩
  have bv_4 : ((-2147483648) ≤ v_4.toInt ∧ v_4.toInt ≤ 2147483647) := ⟨i32_lo _, i32_hi _⟩
  have bv_11 : ((-2147483648) ≤ v_11.toInt ∧ v_11.toInt ≤ 2147483647) := ⟨i32_lo _, i32_hi _⟩
  have hT0 := hxtr0 a_2 (by rw [hfo_1]; rfl)
  refine lv_aload_n hx hb dX2_readS_0 rfl (lv_at hl 0 rfl) ?_
  refine tk_ViP (As := []) (rest := []) (n := 0) hx hb hml hown hU hN hZ (s_X2_peek_k2 l (dC, dI) cI cL cZ cR cG cH Z kd L f hG o0 mo0 ko0) wd_274 wd_275 wd_276 wd_33 wd_277 (by decide +kernel) ⟨Nat.le_of_ble_eq_true rfl, Nat.le_of_ble_eq_true rfl⟩ hK hP hD hS mo0 hfo_1 2 rfl rfl rfl hl.1 rfl (Nat.le_of_ble_eq_true rfl) dX2_readS_1 ⟨Nat.le_of_ble_eq_true rfl, Nat.le_of_ble_eq_true rfl⟩ (fun x_12 f_13 H locs hw hP hD hS => ?_)
  obtain ⟨hG, bx_12, hkc_14, hfc_15, hfc_16, hfc_17, hrc_18, hrc_19, hpost_20, hxp_21⟩ := hw
  have hfr0 : ∀ b, kd b ≠ 2 → f_13 b = f b := fun b q2 => (hkc_14 b q2).trans (hfr0 b q2)
  have hfr2_4 : ∀ b, kd b = 2 → fldI (f_13 b) 4 = fldI (f b) 4 := fun b kb => (hfc_15 b kb).trans (hfr2_4 b kb)
  have hfr2_7 : ∀ b, kd b = 2 → fldI (f_13 b) 7 = fldI (f b) 7 := fun b kb => (hfc_16 b kb).trans (hfr2_7 b kb)
  have hfr2_8 : ∀ b, kd b = 2 → fldI (f_13 b) 8 = fldI (f b) 8 := fun b kb => (hfc_17 b kb).trans (hfr2_8 b kb)
  have hrr2_0 : ∀ b, kd b = 2 → fldR (f_13 b) 0 = fldR (f b) 0 := fun b kb => (hrc_18 b kb).trans (hrr2_0 b kb)
  have hrr2_3 : ∀ b, kd b = 2 → fldR (f_13 b) 3 = fldR (f b) 3 := fun b kb => (hrc_19 b kb).trans (hrr2_3 b kb)
  have hT0 : trel kd 207 566 568 573 204 f_13 a_2 := hT0.keep (fun b q => hkc_14 b (by rw [q]; decide)) (fun b q => hkc_14 b (by rw [q]; decide)) (fun b q => hkc_14 b (by rw [q]; decide)) (fun b q => hkc_14 b (by rw [q]; decide)) (fun b q => congrArg (fun x => fldI x 1) (hkc_14 b (by rw [q]; decide)))
  obtain ⟨a_24, v_25, v_26, a_27, v_28, v_29, v_30, v_31, v_32, v_33, hfo_23, ⟨ma_24, ka_24⟩, ⟨ma_27, ka_27⟩, bv_28, bv_29, bv_30, bv_31, bv_32⟩ := un_2 (hG _ mo0) ko0
  have bv_25 : ((-2147483648) ≤ v_25.toInt ∧ v_25.toInt ≤ 2147483647) := ⟨i32_lo _, i32_hi _⟩
  have bv_26 : ((-2147483648) ≤ v_26.toInt ∧ v_26.toInt ≤ 2147483647) := ⟨i32_lo _, i32_hi _⟩
  have bv_33 : ((-2147483648) ≤ v_33.toInt ∧ v_33.toInt ≤ 2147483647) := ⟨i32_lo _, i32_hi _⟩
  obtain rfl : a_2 = a_24 := by have hk9 := hrr2_0 o0 ko0; rw [hfo_23, hfo_1] at hk9; exact (Option.some.inj hk9).symm
  obtain rfl : a_5 = a_27 := by have hk9 := hrr2_3 o0 ko0; rw [hfo_23, hfo_1] at hk9; exact (Option.some.inj hk9).symm
  obtain rfl : v_6 = v_28 := by have hk9 := hfc_15 o0 ko0; rw [hfo_23, hfo_1] at hk9; exact (Option.some.inj hk9).symm
  obtain rfl : v_9 = v_31 := by have hk9 := hfc_16 o0 ko0; rw [hfo_23, hfo_1] at hk9; exact (Option.some.inj hk9).symm
  obtain rfl : v_10 = v_32 := by have hk9 := hfc_17 o0 ko0; rw [hfo_23, hfo_1] at hk9; exact (Option.some.inj hk9).symm
  have hqhpost_20 := hpost_20 v_7 v_29 (by rw [hfo_1]; rfl) (by rw [hfo_23]; rfl)
  obtain ⟨g_35, hfo_34, hbg_35⟩ := un_533 (hG _ ma_5) ka_5
  have hpkx_12 := hxp_21 a_5 g_35 v_29 (by rw [hfo_23]; rfl) hfo_34 (by rw [hfo_23]; rfl)
  refine lv_istore_n (lv' := [(1, .int x_12), (0, .ref o0)]) hx hb dX2_readS_4 rfl hl (by decide) rfl (fun ls hl => ?_)
  refine lv_iload_n hx hb dX2_readS_5 rfl (lv_at hl 0 rfl) ?_
  refine tk_SiP (As := [.int x_12]) (rest := []) (n := 1) hx hb hml hown hU hN hZ (s_X2_isSmall l (dC, dI) cI cL cZ cR cG cH Z kd L f_13 hG x_12) wd_284 wd_285 wd_33 wd_286 (by decide +kernel) ⟨Nat.le_of_ble_eq_true rfl, Nat.le_of_ble_eq_true rfl⟩ hK hP hD hS rfl hl.1 rfl (Nat.le_of_ble_eq_true rfl) dX2_readS_6 ⟨Nat.le_of_ble_eq_true rfl, Nat.le_of_ble_eq_true rfl⟩ (fun x_36 f_37 H locs hw hP hD hS => ?_)
  obtain ⟨rfl, bx_36, relx_36⟩ := hw
  refine lv_if_ne (tgt := 28) hx hb dX2_readS_9 (by decide) (fun c_39 => ?_) (fun c_39 => ?_)
  · skip
    rw [← Int32.toInt_inj, ti_0] at c_39
    refine lv_aload_n hx hb dX2_readS_28 rfl (lv_at hl 1 rfl) ?_
    refine lv_aload_n hx hb dX2_readS_29 rfl (lv_at hl 1 rfl) ?_
    refine tk_getP (D := (dC, dI)) (ci := 2) (v := .ref a_2) (C := RX2) (T := TX2) (N := 10) hx hb hU inlX2 hown hK hP mo0 hfo_23 rfl 0 (by decide) (hU _ wd_150) (fun _ h9 => h9) rfl dX2_readS_30 ?_
    refine lv_iload_n hx hb dX2_readS_33 rfl (lv_at hl 0 rfl) ?_
    obtain ⟨a_41, v_42, a_43, a_44, a_45, a_46, v_47, a_48, a_49, a_50, a_51, a_52, v_53, a_54, a_55, a_56, hfo_40, ⟨ma_41, ka_41⟩, bv_42, ⟨ma_43, ka_43⟩, ⟨ma_44, ka_44⟩, ⟨ma_45, ka_45⟩, ⟨ma_46, ka_46⟩, bv_47, ⟨ma_48, ka_48⟩, ⟨ma_49, ka_49⟩, ⟨ma_50, ka_50⟩, ⟨ma_51, ka_51⟩, ⟨ma_52, ka_52⟩, bv_53, ⟨ma_54, ka_54⟩, ⟨ma_55, ka_55⟩, ⟨ma_56, ka_56⟩⟩ := un_207 (hG _ ma_2) ka_2
    refine tk_ViP (As := [.int x_12]) (rest := [.ref o0]) (n := 1) hx hb hml hown hU hN hZ (s_X7_signOf_k207_t l (dC, dI) cI cL cZ cR cG cH Z kd L f_13 hG a_2 ma_2 ka_2 x_12 hT0) wd_345 wd_346 wd_347 wd_28 wd_348 (by decide +kernel) ⟨Nat.le_of_ble_eq_true rfl, Nat.le_of_ble_eq_true rfl⟩ hK hP hD hS ma_2 hfo_40 7 rfl rfl rfl hl.1 rfl (Nat.le_of_ble_eq_true rfl) dX2_readS_34 ⟨Nat.le_of_ble_eq_true rfl, Nat.le_of_ble_eq_true rfl⟩ (fun x_57 f_58 H locs hw hP hD hS => ?_)
    obtain ⟨rfl, bx_57, hxp_59⟩ := hw
    have hsox_57 := hxp_59 v_42 (by rw [hfo_40]; rfl)
    refine tk_putP (D := (dC, dI)) (ci := 2) (v := .int x_57) (ty := .int) (C := RX2) (T := TX2) (N := 10) hx hb hU inlX2 tyX2 tyX2_ok nmX2 hown hK hP hD hS mo0 hfo_23 rfl 6 (by decide) (hU _ wd_373) (fun _ h9 => h9) rfl (by decide +kernel) rfl rfl (Nat.le_of_ble_eq_true rfl) dX2_readS_37 (fun H locs hP hD hS => ?_)
    obtain ⟨f_62, ef_62⟩ : ∃ y : Nat → va_E, y = va_up f_13 o0 (.inr (2, [.ref a_2, .int v_25, .int v_26, .ref a_5, .int v_6, .int v_29, .int x_57, .int v_9, .int v_10, .int v_33])) := ⟨_, rfl⟩
    have hP : va_P (dC, dI) vwCl (va_pl L f_62) H := by rw [ef_62]; exact hP
    have hD : va_D (fun q => q ∈ L) (va_pl L f_62) := by rw [ef_62]; exact hD
    have hG : GI (okc cI cL cZ cR cG cH L kd) kd L f_62 := by rw [ef_62]; exact hG.set o0 (mk_2 ko0 ⟨a_2, v_25, v_26, a_5, v_6, v_29, x_57, v_9, v_10, v_33, rfl, ⟨ma_2, ka_2⟩, ⟨ma_5, ka_5⟩, (by constructor <;> omega), (by constructor <;> omega), (by constructor <;> omega), (by constructor <;> omega), (by constructor <;> omega)⟩)
    have hfo_63 : f_62 a_5 = .inl (cI, 600, .inl g_35) := by rw [ef_62, up_ne (kd_ne ko0 ka_5 (by decide))]; exact hfo_34
    have hfo_64 : f_62 a_2 = .inr (7, [.ref a_41, .int v_42, .ref a_43, .ref a_44, .ref a_45, .ref a_46, .int v_47, .ref a_48, .ref a_49, .ref a_50, .ref a_51, .ref a_52, .int v_53, .ref a_54, .ref a_55, .ref a_56]) := by rw [ef_62, up_ne (kd_ne ko0 ka_2 (by decide))]; exact hfo_40
    have hfr0 : ∀ b, kd b ≠ 2 → f_62 b = f b := fun b q2 => (congrFun ef_62 b).trans ((up_ne (fun e9 => q2 (by rw [e9]; exact ko0))).trans (hfr0 b q2))
    have hfr2_4 : ∀ b, kd b = 2 → fldI (f_62 b) 4 = fldI (f b) 4 := fun b kb => ((congrArg (fun x => fldI x 4) (congrFun ef_62 b)).trans (fk_up (by rw [hfo_23]; rfl) b)).trans (hfr2_4 b kb)
    have hfr2_7 : ∀ b, kd b = 2 → fldI (f_62 b) 7 = fldI (f b) 7 := fun b kb => ((congrArg (fun x => fldI x 7) (congrFun ef_62 b)).trans (fk_up (by rw [hfo_23]; rfl) b)).trans (hfr2_7 b kb)
    have hfr2_8 : ∀ b, kd b = 2 → fldI (f_62 b) 8 = fldI (f b) 8 := fun b kb => ((congrArg (fun x => fldI x 8) (congrFun ef_62 b)).trans (fk_up (by rw [hfo_23]; rfl) b)).trans (hfr2_8 b kb)
    have hrr2_0 : ∀ b, kd b = 2 → fldR (f_62 b) 0 = fldR (f b) 0 := fun b kb => ((congrArg (fun x => fldR x 0) (congrFun ef_62 b)).trans (fr_up (by rw [hfo_23]; rfl) b)).trans (hrr2_0 b kb)
    have hrr2_3 : ∀ b, kd b = 2 → fldR (f_62 b) 3 = fldR (f b) 3 := fun b kb => ((congrArg (fun x => fldR x 3) (congrFun ef_62 b)).trans (fr_up (by rw [hfo_23]; rfl) b)).trans (hrr2_3 b kb)
    have hT0 : trel kd 207 566 568 573 204 f_62 a_2 := by rw [ef_62]; exact hT0.up ko0 (by decide) (by decide) (by decide) (by decide) (by decide)
    have hfo_65 : f_62 o0 = .inr (2, [.ref a_2, .int v_25, .int v_26, .ref a_5, .int v_6, .int v_29, .int x_57, .int v_9, .int v_10, .int v_33]) := by rw [ef_62]; exact up_self
    refine lv_aload_n hx hb dX2_readS_40 rfl (lv_at hl 1 rfl) ?_
    refine tk_getP (D := (dC, dI)) (ci := 2) (v := .int x_57) (C := RX2) (T := TX2) (N := 10) hx hb hU inlX2 hown hK hP mo0 hfo_65 rfl 6 (by decide) (hU _ wd_373) (fun _ h9 => h9) rfl dX2_readS_41 ?_
    refine lv_if_ne (tgt := 63) hx hb dX2_readS_44 (by decide) (fun c_66 => ?_) (fun c_66 => ?_)
    · skip
      rw [← Int32.toInt_inj, ti_0] at c_66
      have hclc_67 : (0 ≤ v_29.toInt ∧ v_29.toInt ≤ 599) := by constructor <;> omega
      refine lv_aload_n hx hb dX2_readS_63 rfl (lv_at hl 1 rfl) ?_
      refine lv_dup hx hb dX2_readS_64 rfl ?_
      refine tk_getP (D := (dC, dI)) (ci := 2) (v := .int v_29) (C := RX2) (T := TX2) (N := 10) hx hb hU inlX2 hown hK hP mo0 hfo_65 rfl 5 (by decide) (hU _ wd_256) (fun _ h9 => h9) rfl dX2_readS_65 ?_
      refine lv_iconst (v := 1) hx hb dX2_readS_68 (by decide) ?_
      refine lv_iadd hx hb dX2_readS_69 ?_
      refine lv_topi (fun x_68 ex_68 => ?_)
      have hx_68 : x_68.toInt = v_29.toInt + 1 := by rw [ex_68, ad_I (by rw [ti_1]; omega) (by rw [ti_1]; omega), ti_1]
      have bx_68 : (1 ≤ x_68.toInt ∧ x_68.toInt ≤ 600) := by constructor <;> omega
      refine tk_putP (D := (dC, dI)) (ci := 2) (v := .int x_68) (ty := .int) (C := RX2) (T := TX2) (N := 10) hx hb hU inlX2 tyX2 tyX2_ok nmX2 hown hK hP hD hS mo0 hfo_65 rfl 5 (by decide) (hU _ wd_256) (fun _ h9 => h9) rfl (by decide +kernel) rfl rfl (Nat.le_of_ble_eq_true rfl) dX2_readS_70 (fun H locs hP hD hS => ?_)
      obtain ⟨f_70, ef_70⟩ : ∃ y : Nat → va_E, y = va_up f_62 o0 (.inr (2, [.ref a_2, .int v_25, .int v_26, .ref a_5, .int v_6, .int x_68, .int x_57, .int v_9, .int v_10, .int v_33])) := ⟨_, rfl⟩
      have hP : va_P (dC, dI) vwCl (va_pl L f_70) H := by rw [ef_70]; exact hP
      have hD : va_D (fun q => q ∈ L) (va_pl L f_70) := by rw [ef_70]; exact hD
      have hG : GI (okc cI cL cZ cR cG cH L kd) kd L f_70 := by rw [ef_70]; exact hG.set o0 (mk_2 ko0 ⟨a_2, v_25, v_26, a_5, v_6, x_68, x_57, v_9, v_10, v_33, rfl, ⟨ma_2, ka_2⟩, ⟨ma_5, ka_5⟩, (by constructor <;> omega), (by constructor <;> omega), (by constructor <;> omega), (by constructor <;> omega), (by constructor <;> omega)⟩)
      have hfo_71 : f_70 a_5 = .inl (cI, 600, .inl g_35) := by rw [ef_70, up_ne (kd_ne ko0 ka_5 (by decide))]; exact hfo_63
      have hfo_72 : f_70 a_2 = .inr (7, [.ref a_41, .int v_42, .ref a_43, .ref a_44, .ref a_45, .ref a_46, .int v_47, .ref a_48, .ref a_49, .ref a_50, .ref a_51, .ref a_52, .int v_53, .ref a_54, .ref a_55, .ref a_56]) := by rw [ef_70, up_ne (kd_ne ko0 ka_2 (by decide))]; exact hfo_64
      have hfr0 : ∀ b, kd b ≠ 2 → f_70 b = f b := fun b q2 => (congrFun ef_70 b).trans ((up_ne (fun e9 => q2 (by rw [e9]; exact ko0))).trans (hfr0 b q2))
      have hfr2_4 : ∀ b, kd b = 2 → fldI (f_70 b) 4 = fldI (f b) 4 := fun b kb => ((congrArg (fun x => fldI x 4) (congrFun ef_70 b)).trans (fk_up (by rw [hfo_65]; rfl) b)).trans (hfr2_4 b kb)
      have hfr2_7 : ∀ b, kd b = 2 → fldI (f_70 b) 7 = fldI (f b) 7 := fun b kb => ((congrArg (fun x => fldI x 7) (congrFun ef_70 b)).trans (fk_up (by rw [hfo_65]; rfl) b)).trans (hfr2_7 b kb)
      have hfr2_8 : ∀ b, kd b = 2 → fldI (f_70 b) 8 = fldI (f b) 8 := fun b kb => ((congrArg (fun x => fldI x 8) (congrFun ef_70 b)).trans (fk_up (by rw [hfo_65]; rfl) b)).trans (hfr2_8 b kb)
      have hrr2_0 : ∀ b, kd b = 2 → fldR (f_70 b) 0 = fldR (f b) 0 := fun b kb => ((congrArg (fun x => fldR x 0) (congrFun ef_70 b)).trans (fr_up (by rw [hfo_65]; rfl) b)).trans (hrr2_0 b kb)
      have hrr2_3 : ∀ b, kd b = 2 → fldR (f_70 b) 3 = fldR (f b) 3 := fun b kb => ((congrArg (fun x => fldR x 3) (congrFun ef_70 b)).trans (fr_up (by rw [hfo_65]; rfl) b)).trans (hrr2_3 b kb)
      have hT0 : trel kd 207 566 568 573 204 f_70 a_2 := by rw [ef_70]; exact hT0.up ko0 (by decide) (by decide) (by decide) (by decide) (by decide)
      have hfo_73 : f_70 o0 = .inr (2, [.ref a_2, .int v_25, .int v_26, .ref a_5, .int v_6, .int x_68, .int x_57, .int v_9, .int v_10, .int v_33]) := by rw [ef_70]; exact up_self
      refine lv_iconst (v := 1) hx hb dX2_readS_73 (by decide) ?_
      exact W.zret (v := 1) (ty := .boolean) hx hb hr rfl (fun t ht hW => ⟨⟨1, f_70, rfl, ⟨hG, (by decide), hfr0, hfr2_4, hfr2_7, hfr2_8, hrr2_0, hrr2_3, (by intro w5 z5 e5 d5; rw [hfo_1] at e5; rw [hfo_73] at d5; obtain rfl := Option.some.inj e5; obtain rfl := Option.some.inj d5; (try rw [ti_1]) <;> omega), (fun d9 n9 z9 h1 h2 h3 => Or.inr (by rw [hfo_73] at h1 h3; obtain rfl := Option.some.inj h1; obtain rfl := Option.some.inj h3; rw [hfo_72] at h2; obtain rfl := Option.some.inj h2; omega)), (fun d9 h9 => by rw [hfo_73] at h9; obtain rfl := Option.some.inj h9; exact hT0)⟩, by rw [ht]; exact hP, va_K.moved hW.alike hK, pl_in hD⟩, hS.F ht⟩) hS.2.2 dX2_readS_74
    · skip
      rw [← Int32.toInt_inj, ti_0] at c_66
      refine lv_iload_n hx hb dX2_readS_47 rfl (lv_at hl 0 rfl) ?_
      refine lv_bipush (v := 48) hx hb dX2_readS_48 (by decide) ?_
      refine lv_icmp_eq (tgt := 63) hx hb dX2_readS_50 (by decide) (fun c_74 => ?_) (fun c_74 => ?_)
      · skip
        rw [← Int32.toInt_inj, ti_48] at c_74
        exfalso
        omega
      · skip
        rw [← Int32.toInt_inj, ti_48] at c_74
        refine lv_aload_n hx hb dX2_readS_53 rfl (lv_at hl 1 rfl) ?_
        refine lv_iconst (v := 2) hx hb dX2_readS_54 (by decide) ?_
        refine lv_aload_n hx hb dX2_readS_55 rfl (lv_at hl 1 rfl) ?_
        refine tk_getP (D := (dC, dI)) (ci := 2) (v := .int v_29) (C := RX2) (T := TX2) (N := 10) hx hb hU inlX2 hown hK hP mo0 hfo_65 rfl 5 (by decide) (hU _ wd_256) (fun _ h9 => h9) rfl dX2_readS_56 ?_
        refine tk_ViP (As := [.int 2, .int v_29]) (rest := []) (n := 2) hx hb hml hown hU hN hZ (s_X2_fail_k2 l (dC, dI) cI cL cZ cR cG cH Z kd L f_62 hG o0 mo0 ko0 2 v_29) wd_349 wd_350 wd_351 wd_33 wd_352 (by decide +kernel) ⟨Nat.le_of_ble_eq_true rfl, Nat.le_of_ble_eq_true rfl⟩ hK hP hD hS mo0 hfo_65 2 rfl rfl rfl hl.1 rfl (Nat.le_of_ble_eq_true rfl) dX2_readS_59 ⟨Nat.le_of_ble_eq_true rfl, Nat.le_of_ble_eq_true rfl⟩ (fun x_75 f_76 H locs hw hP hD hS => ?_)
        obtain ⟨hG, bx_75, hkc_77, hfc_78, hfc_79, hfc_80, hfc_81, hrc_82, hrc_83⟩ := hw
        have hfo_85 : f_76 a_5 = .inl (cI, 600, .inl g_35) := by rw [hkc_77 a_5 (by rw [ka_5]; decide)]; exact hfo_63
        have hfo_86 : f_76 a_2 = .inr (7, [.ref a_41, .int v_42, .ref a_43, .ref a_44, .ref a_45, .ref a_46, .int v_47, .ref a_48, .ref a_49, .ref a_50, .ref a_51, .ref a_52, .int v_53, .ref a_54, .ref a_55, .ref a_56]) := by rw [hkc_77 a_2 (by rw [ka_2]; decide)]; exact hfo_64
        have hfr0 : ∀ b, kd b ≠ 2 → f_76 b = f b := fun b q2 => (hkc_77 b q2).trans (hfr0 b q2)
        have hfr2_4 : ∀ b, kd b = 2 → fldI (f_76 b) 4 = fldI (f b) 4 := fun b kb => (hfc_78 b kb).trans (hfr2_4 b kb)
        have hfr2_7 : ∀ b, kd b = 2 → fldI (f_76 b) 7 = fldI (f b) 7 := fun b kb => (hfc_80 b kb).trans (hfr2_7 b kb)
        have hfr2_8 : ∀ b, kd b = 2 → fldI (f_76 b) 8 = fldI (f b) 8 := fun b kb => (hfc_81 b kb).trans (hfr2_8 b kb)
        have hrr2_0 : ∀ b, kd b = 2 → fldR (f_76 b) 0 = fldR (f b) 0 := fun b kb => (hrc_82 b kb).trans (hrr2_0 b kb)
        have hrr2_3 : ∀ b, kd b = 2 → fldR (f_76 b) 3 = fldR (f b) 3 := fun b kb => (hrc_83 b kb).trans (hrr2_3 b kb)
        have hT0 : trel kd 207 566 568 573 204 f_76 a_2 := hT0.keep (fun b q => hkc_77 b (by rw [q]; decide)) (fun b q => hkc_77 b (by rw [q]; decide)) (fun b q => hkc_77 b (by rw [q]; decide)) (fun b q => hkc_77 b (by rw [q]; decide)) (fun b q => congrArg (fun x => fldI x 1) (hkc_77 b (by rw [q]; decide)))
        obtain ⟨a_88, v_89, v_90, a_91, v_92, v_93, v_94, v_95, v_96, v_97, hfo_87, ⟨ma_88, ka_88⟩, ⟨ma_91, ka_91⟩, bv_92, bv_93, bv_94, bv_95, bv_96⟩ := un_2 (hG _ mo0) ko0
        have bv_89 : ((-2147483648) ≤ v_89.toInt ∧ v_89.toInt ≤ 2147483647) := ⟨i32_lo _, i32_hi _⟩
        have bv_90 : ((-2147483648) ≤ v_90.toInt ∧ v_90.toInt ≤ 2147483647) := ⟨i32_lo _, i32_hi _⟩
        have bv_97 : ((-2147483648) ≤ v_97.toInt ∧ v_97.toInt ≤ 2147483647) := ⟨i32_lo _, i32_hi _⟩
        obtain rfl : a_2 = a_88 := by have hk9 := hrr2_0 o0 ko0; rw [hfo_87, hfo_1] at hk9; exact (Option.some.inj hk9).symm
        obtain rfl : a_5 = a_91 := by have hk9 := hrr2_3 o0 ko0; rw [hfo_87, hfo_1] at hk9; exact (Option.some.inj hk9).symm
        obtain rfl : v_6 = v_92 := by have hk9 := hfc_78 o0 ko0; rw [hfo_87, hfo_65] at hk9; exact (Option.some.inj hk9).symm
        obtain rfl : v_29 = v_93 := by have hk9 := hfc_79 o0 ko0; rw [hfo_87, hfo_65] at hk9; exact (Option.some.inj hk9).symm
        obtain rfl : v_9 = v_95 := by have hk9 := hfc_80 o0 ko0; rw [hfo_87, hfo_65] at hk9; exact (Option.some.inj hk9).symm
        obtain rfl : v_10 = v_96 := by have hk9 := hfc_81 o0 ko0; rw [hfo_87, hfo_65] at hk9; exact (Option.some.inj hk9).symm
        exact W.zret (v := x_75) (ty := .boolean) hx hb hr (zb_n (by constructor <;> omega)) (fun t ht hW => ⟨⟨x_75, f_76, rfl, ⟨hG, (by constructor <;> omega), hfr0, hfr2_4, hfr2_7, hfr2_8, hrr2_0, hrr2_3, (by intro w5 z5 e5 d5; rw [hfo_1] at e5; rw [hfo_87] at d5; obtain rfl := Option.some.inj e5; obtain rfl := Option.some.inj d5; omega), (fun _ _ _ _ _ _ => Or.inl (by omega)), (fun d9 h9 => by rw [hfo_87] at h9; obtain rfl := Option.some.inj h9; exact hT0)⟩, by rw [ht]; exact hP, va_K.moved hW.alike hK, pl_in hD⟩, hS.F ht⟩) hS.2.2 dX2_readS_62
  · skip
    rw [← Int32.toInt_inj, ti_0] at c_39
    refine lv_iload_n hx hb dX2_readS_12 rfl (lv_at hl 0 rfl) ?_
    refine lv_bipush (v := 48) hx hb dX2_readS_13 (by decide) ?_
    refine lv_icmp_eq (tgt := 28) hx hb dX2_readS_15 (by decide) (fun c_98 => ?_) (fun c_98 => ?_)
    · skip
      rw [← Int32.toInt_inj, ti_48] at c_98
      refine lv_aload_n hx hb dX2_readS_28 rfl (lv_at hl 1 rfl) ?_
      refine lv_aload_n hx hb dX2_readS_29 rfl (lv_at hl 1 rfl) ?_
      refine tk_getP (D := (dC, dI)) (ci := 2) (v := .ref a_2) (C := RX2) (T := TX2) (N := 10) hx hb hU inlX2 hown hK hP mo0 hfo_23 rfl 0 (by decide) (hU _ wd_150) (fun _ h9 => h9) rfl dX2_readS_30 ?_
      refine lv_iload_n hx hb dX2_readS_33 rfl (lv_at hl 0 rfl) ?_
      obtain ⟨a_100, v_101, a_102, a_103, a_104, a_105, v_106, a_107, a_108, a_109, a_110, a_111, v_112, a_113, a_114, a_115, hfo_99, ⟨ma_100, ka_100⟩, bv_101, ⟨ma_102, ka_102⟩, ⟨ma_103, ka_103⟩, ⟨ma_104, ka_104⟩, ⟨ma_105, ka_105⟩, bv_106, ⟨ma_107, ka_107⟩, ⟨ma_108, ka_108⟩, ⟨ma_109, ka_109⟩, ⟨ma_110, ka_110⟩, ⟨ma_111, ka_111⟩, bv_112, ⟨ma_113, ka_113⟩, ⟨ma_114, ka_114⟩, ⟨ma_115, ka_115⟩⟩ := un_207 (hG _ ma_2) ka_2
      refine tk_ViP (As := [.int x_12]) (rest := [.ref o0]) (n := 1) hx hb hml hown hU hN hZ (s_X7_signOf_k207_t l (dC, dI) cI cL cZ cR cG cH Z kd L f_13 hG a_2 ma_2 ka_2 x_12 hT0) wd_345 wd_346 wd_347 wd_28 wd_348 (by decide +kernel) ⟨Nat.le_of_ble_eq_true rfl, Nat.le_of_ble_eq_true rfl⟩ hK hP hD hS ma_2 hfo_99 7 rfl rfl rfl hl.1 rfl (Nat.le_of_ble_eq_true rfl) dX2_readS_34 ⟨Nat.le_of_ble_eq_true rfl, Nat.le_of_ble_eq_true rfl⟩ (fun x_116 f_117 H locs hw hP hD hS => ?_)
      obtain ⟨rfl, bx_116, hxp_118⟩ := hw
      have hsox_116 := hxp_118 v_101 (by rw [hfo_99]; rfl)
      refine tk_putP (D := (dC, dI)) (ci := 2) (v := .int x_116) (ty := .int) (C := RX2) (T := TX2) (N := 10) hx hb hU inlX2 tyX2 tyX2_ok nmX2 hown hK hP hD hS mo0 hfo_23 rfl 6 (by decide) (hU _ wd_373) (fun _ h9 => h9) rfl (by decide +kernel) rfl rfl (Nat.le_of_ble_eq_true rfl) dX2_readS_37 (fun H locs hP hD hS => ?_)
      obtain ⟨f_121, ef_121⟩ : ∃ y : Nat → va_E, y = va_up f_13 o0 (.inr (2, [.ref a_2, .int v_25, .int v_26, .ref a_5, .int v_6, .int v_29, .int x_116, .int v_9, .int v_10, .int v_33])) := ⟨_, rfl⟩
      have hP : va_P (dC, dI) vwCl (va_pl L f_121) H := by rw [ef_121]; exact hP
      have hD : va_D (fun q => q ∈ L) (va_pl L f_121) := by rw [ef_121]; exact hD
      have hG : GI (okc cI cL cZ cR cG cH L kd) kd L f_121 := by rw [ef_121]; exact hG.set o0 (mk_2 ko0 ⟨a_2, v_25, v_26, a_5, v_6, v_29, x_116, v_9, v_10, v_33, rfl, ⟨ma_2, ka_2⟩, ⟨ma_5, ka_5⟩, (by constructor <;> omega), (by constructor <;> omega), (by constructor <;> omega), (by constructor <;> omega), (by constructor <;> omega)⟩)
      have hfo_122 : f_121 a_5 = .inl (cI, 600, .inl g_35) := by rw [ef_121, up_ne (kd_ne ko0 ka_5 (by decide))]; exact hfo_34
      have hfo_123 : f_121 a_2 = .inr (7, [.ref a_100, .int v_101, .ref a_102, .ref a_103, .ref a_104, .ref a_105, .int v_106, .ref a_107, .ref a_108, .ref a_109, .ref a_110, .ref a_111, .int v_112, .ref a_113, .ref a_114, .ref a_115]) := by rw [ef_121, up_ne (kd_ne ko0 ka_2 (by decide))]; exact hfo_99
      have hfr0 : ∀ b, kd b ≠ 2 → f_121 b = f b := fun b q2 => (congrFun ef_121 b).trans ((up_ne (fun e9 => q2 (by rw [e9]; exact ko0))).trans (hfr0 b q2))
      have hfr2_4 : ∀ b, kd b = 2 → fldI (f_121 b) 4 = fldI (f b) 4 := fun b kb => ((congrArg (fun x => fldI x 4) (congrFun ef_121 b)).trans (fk_up (by rw [hfo_23]; rfl) b)).trans (hfr2_4 b kb)
      have hfr2_7 : ∀ b, kd b = 2 → fldI (f_121 b) 7 = fldI (f b) 7 := fun b kb => ((congrArg (fun x => fldI x 7) (congrFun ef_121 b)).trans (fk_up (by rw [hfo_23]; rfl) b)).trans (hfr2_7 b kb)
      have hfr2_8 : ∀ b, kd b = 2 → fldI (f_121 b) 8 = fldI (f b) 8 := fun b kb => ((congrArg (fun x => fldI x 8) (congrFun ef_121 b)).trans (fk_up (by rw [hfo_23]; rfl) b)).trans (hfr2_8 b kb)
      have hrr2_0 : ∀ b, kd b = 2 → fldR (f_121 b) 0 = fldR (f b) 0 := fun b kb => ((congrArg (fun x => fldR x 0) (congrFun ef_121 b)).trans (fr_up (by rw [hfo_23]; rfl) b)).trans (hrr2_0 b kb)
      have hrr2_3 : ∀ b, kd b = 2 → fldR (f_121 b) 3 = fldR (f b) 3 := fun b kb => ((congrArg (fun x => fldR x 3) (congrFun ef_121 b)).trans (fr_up (by rw [hfo_23]; rfl) b)).trans (hrr2_3 b kb)
      have hT0 : trel kd 207 566 568 573 204 f_121 a_2 := by rw [ef_121]; exact hT0.up ko0 (by decide) (by decide) (by decide) (by decide) (by decide)
      have hfo_124 : f_121 o0 = .inr (2, [.ref a_2, .int v_25, .int v_26, .ref a_5, .int v_6, .int v_29, .int x_116, .int v_9, .int v_10, .int v_33]) := by rw [ef_121]; exact up_self
      refine lv_aload_n hx hb dX2_readS_40 rfl (lv_at hl 1 rfl) ?_
      refine tk_getP (D := (dC, dI)) (ci := 2) (v := .int x_116) (C := RX2) (T := TX2) (N := 10) hx hb hU inlX2 hown hK hP mo0 hfo_124 rfl 6 (by decide) (hU _ wd_373) (fun _ h9 => h9) rfl dX2_readS_41 ?_
      refine lv_if_ne (tgt := 63) hx hb dX2_readS_44 (by decide) (fun c_125 => ?_) (fun c_125 => ?_)
      · skip
        rw [← Int32.toInt_inj, ti_0] at c_125
        have hclc_126 : (0 ≤ v_29.toInt ∧ v_29.toInt ≤ 599) := by constructor <;> omega
        refine lv_aload_n hx hb dX2_readS_63 rfl (lv_at hl 1 rfl) ?_
        refine lv_dup hx hb dX2_readS_64 rfl ?_
        refine tk_getP (D := (dC, dI)) (ci := 2) (v := .int v_29) (C := RX2) (T := TX2) (N := 10) hx hb hU inlX2 hown hK hP mo0 hfo_124 rfl 5 (by decide) (hU _ wd_256) (fun _ h9 => h9) rfl dX2_readS_65 ?_
        refine lv_iconst (v := 1) hx hb dX2_readS_68 (by decide) ?_
        refine lv_iadd hx hb dX2_readS_69 ?_
        refine lv_topi (fun x_127 ex_127 => ?_)
        have hx_127 : x_127.toInt = v_29.toInt + 1 := by rw [ex_127, ad_I (by rw [ti_1]; omega) (by rw [ti_1]; omega), ti_1]
        have bx_127 : (1 ≤ x_127.toInt ∧ x_127.toInt ≤ 600) := by constructor <;> omega
        refine tk_putP (D := (dC, dI)) (ci := 2) (v := .int x_127) (ty := .int) (C := RX2) (T := TX2) (N := 10) hx hb hU inlX2 tyX2 tyX2_ok nmX2 hown hK hP hD hS mo0 hfo_124 rfl 5 (by decide) (hU _ wd_256) (fun _ h9 => h9) rfl (by decide +kernel) rfl rfl (Nat.le_of_ble_eq_true rfl) dX2_readS_70 (fun H locs hP hD hS => ?_)
        obtain ⟨f_129, ef_129⟩ : ∃ y : Nat → va_E, y = va_up f_121 o0 (.inr (2, [.ref a_2, .int v_25, .int v_26, .ref a_5, .int v_6, .int x_127, .int x_116, .int v_9, .int v_10, .int v_33])) := ⟨_, rfl⟩
        have hP : va_P (dC, dI) vwCl (va_pl L f_129) H := by rw [ef_129]; exact hP
        have hD : va_D (fun q => q ∈ L) (va_pl L f_129) := by rw [ef_129]; exact hD
        have hG : GI (okc cI cL cZ cR cG cH L kd) kd L f_129 := by rw [ef_129]; exact hG.set o0 (mk_2 ko0 ⟨a_2, v_25, v_26, a_5, v_6, x_127, x_116, v_9, v_10, v_33, rfl, ⟨ma_2, ka_2⟩, ⟨ma_5, ka_5⟩, (by constructor <;> omega), (by constructor <;> omega), (by constructor <;> omega), (by constructor <;> omega), (by constructor <;> omega)⟩)
        have hfo_130 : f_129 a_5 = .inl (cI, 600, .inl g_35) := by rw [ef_129, up_ne (kd_ne ko0 ka_5 (by decide))]; exact hfo_122
        have hfo_131 : f_129 a_2 = .inr (7, [.ref a_100, .int v_101, .ref a_102, .ref a_103, .ref a_104, .ref a_105, .int v_106, .ref a_107, .ref a_108, .ref a_109, .ref a_110, .ref a_111, .int v_112, .ref a_113, .ref a_114, .ref a_115]) := by rw [ef_129, up_ne (kd_ne ko0 ka_2 (by decide))]; exact hfo_123
        have hfr0 : ∀ b, kd b ≠ 2 → f_129 b = f b := fun b q2 => (congrFun ef_129 b).trans ((up_ne (fun e9 => q2 (by rw [e9]; exact ko0))).trans (hfr0 b q2))
        have hfr2_4 : ∀ b, kd b = 2 → fldI (f_129 b) 4 = fldI (f b) 4 := fun b kb => ((congrArg (fun x => fldI x 4) (congrFun ef_129 b)).trans (fk_up (by rw [hfo_124]; rfl) b)).trans (hfr2_4 b kb)
        have hfr2_7 : ∀ b, kd b = 2 → fldI (f_129 b) 7 = fldI (f b) 7 := fun b kb => ((congrArg (fun x => fldI x 7) (congrFun ef_129 b)).trans (fk_up (by rw [hfo_124]; rfl) b)).trans (hfr2_7 b kb)
        have hfr2_8 : ∀ b, kd b = 2 → fldI (f_129 b) 8 = fldI (f b) 8 := fun b kb => ((congrArg (fun x => fldI x 8) (congrFun ef_129 b)).trans (fk_up (by rw [hfo_124]; rfl) b)).trans (hfr2_8 b kb)
        have hrr2_0 : ∀ b, kd b = 2 → fldR (f_129 b) 0 = fldR (f b) 0 := fun b kb => ((congrArg (fun x => fldR x 0) (congrFun ef_129 b)).trans (fr_up (by rw [hfo_124]; rfl) b)).trans (hrr2_0 b kb)
        have hrr2_3 : ∀ b, kd b = 2 → fldR (f_129 b) 3 = fldR (f b) 3 := fun b kb => ((congrArg (fun x => fldR x 3) (congrFun ef_129 b)).trans (fr_up (by rw [hfo_124]; rfl) b)).trans (hrr2_3 b kb)
        have hT0 : trel kd 207 566 568 573 204 f_129 a_2 := by rw [ef_129]; exact hT0.up ko0 (by decide) (by decide) (by decide) (by decide) (by decide)
        have hfo_132 : f_129 o0 = .inr (2, [.ref a_2, .int v_25, .int v_26, .ref a_5, .int v_6, .int x_127, .int x_116, .int v_9, .int v_10, .int v_33]) := by rw [ef_129]; exact up_self
        refine lv_iconst (v := 1) hx hb dX2_readS_73 (by decide) ?_
        exact W.zret (v := 1) (ty := .boolean) hx hb hr rfl (fun t ht hW => ⟨⟨1, f_129, rfl, ⟨hG, (by decide), hfr0, hfr2_4, hfr2_7, hfr2_8, hrr2_0, hrr2_3, (by intro w5 z5 e5 d5; rw [hfo_1] at e5; rw [hfo_132] at d5; obtain rfl := Option.some.inj e5; obtain rfl := Option.some.inj d5; (try rw [ti_1]) <;> omega), (fun d9 n9 z9 h1 h2 h3 => Or.inr (by rw [hfo_132] at h1 h3; obtain rfl := Option.some.inj h1; obtain rfl := Option.some.inj h3; rw [hfo_131] at h2; obtain rfl := Option.some.inj h2; omega)), (fun d9 h9 => by rw [hfo_132] at h9; obtain rfl := Option.some.inj h9; exact hT0)⟩, by rw [ht]; exact hP, va_K.moved hW.alike hK, pl_in hD⟩, hS.F ht⟩) hS.2.2 dX2_readS_74
      · skip
        rw [← Int32.toInt_inj, ti_0] at c_125
        refine lv_iload_n hx hb dX2_readS_47 rfl (lv_at hl 0 rfl) ?_
        refine lv_bipush (v := 48) hx hb dX2_readS_48 (by decide) ?_
        refine lv_icmp_eq (tgt := 63) hx hb dX2_readS_50 (by decide) (fun c_133 => ?_) (fun c_133 => ?_)
        · skip
          rw [← Int32.toInt_inj, ti_48] at c_133
          have hclc_134 : (0 ≤ v_29.toInt ∧ v_29.toInt ≤ 599) := by constructor <;> omega
          refine lv_aload_n hx hb dX2_readS_63 rfl (lv_at hl 1 rfl) ?_
          refine lv_dup hx hb dX2_readS_64 rfl ?_
          refine tk_getP (D := (dC, dI)) (ci := 2) (v := .int v_29) (C := RX2) (T := TX2) (N := 10) hx hb hU inlX2 hown hK hP mo0 hfo_124 rfl 5 (by decide) (hU _ wd_256) (fun _ h9 => h9) rfl dX2_readS_65 ?_
          refine lv_iconst (v := 1) hx hb dX2_readS_68 (by decide) ?_
          refine lv_iadd hx hb dX2_readS_69 ?_
          refine lv_topi (fun x_135 ex_135 => ?_)
          have hx_135 : x_135.toInt = v_29.toInt + 1 := by rw [ex_135, ad_I (by rw [ti_1]; omega) (by rw [ti_1]; omega), ti_1]
          have bx_135 : (1 ≤ x_135.toInt ∧ x_135.toInt ≤ 600) := by constructor <;> omega
          refine tk_putP (D := (dC, dI)) (ci := 2) (v := .int x_135) (ty := .int) (C := RX2) (T := TX2) (N := 10) hx hb hU inlX2 tyX2 tyX2_ok nmX2 hown hK hP hD hS mo0 hfo_124 rfl 5 (by decide) (hU _ wd_256) (fun _ h9 => h9) rfl (by decide +kernel) rfl rfl (Nat.le_of_ble_eq_true rfl) dX2_readS_70 (fun H locs hP hD hS => ?_)
          obtain ⟨f_137, ef_137⟩ : ∃ y : Nat → va_E, y = va_up f_121 o0 (.inr (2, [.ref a_2, .int v_25, .int v_26, .ref a_5, .int v_6, .int x_135, .int x_116, .int v_9, .int v_10, .int v_33])) := ⟨_, rfl⟩
          have hP : va_P (dC, dI) vwCl (va_pl L f_137) H := by rw [ef_137]; exact hP
          have hD : va_D (fun q => q ∈ L) (va_pl L f_137) := by rw [ef_137]; exact hD
          have hG : GI (okc cI cL cZ cR cG cH L kd) kd L f_137 := by rw [ef_137]; exact hG.set o0 (mk_2 ko0 ⟨a_2, v_25, v_26, a_5, v_6, x_135, x_116, v_9, v_10, v_33, rfl, ⟨ma_2, ka_2⟩, ⟨ma_5, ka_5⟩, (by constructor <;> omega), (by constructor <;> omega), (by constructor <;> omega), (by constructor <;> omega), (by constructor <;> omega)⟩)
          have hfo_138 : f_137 a_5 = .inl (cI, 600, .inl g_35) := by rw [ef_137, up_ne (kd_ne ko0 ka_5 (by decide))]; exact hfo_122
          have hfo_139 : f_137 a_2 = .inr (7, [.ref a_100, .int v_101, .ref a_102, .ref a_103, .ref a_104, .ref a_105, .int v_106, .ref a_107, .ref a_108, .ref a_109, .ref a_110, .ref a_111, .int v_112, .ref a_113, .ref a_114, .ref a_115]) := by rw [ef_137, up_ne (kd_ne ko0 ka_2 (by decide))]; exact hfo_123
          have hfr0 : ∀ b, kd b ≠ 2 → f_137 b = f b := fun b q2 => (congrFun ef_137 b).trans ((up_ne (fun e9 => q2 (by rw [e9]; exact ko0))).trans (hfr0 b q2))
          have hfr2_4 : ∀ b, kd b = 2 → fldI (f_137 b) 4 = fldI (f b) 4 := fun b kb => ((congrArg (fun x => fldI x 4) (congrFun ef_137 b)).trans (fk_up (by rw [hfo_124]; rfl) b)).trans (hfr2_4 b kb)
          have hfr2_7 : ∀ b, kd b = 2 → fldI (f_137 b) 7 = fldI (f b) 7 := fun b kb => ((congrArg (fun x => fldI x 7) (congrFun ef_137 b)).trans (fk_up (by rw [hfo_124]; rfl) b)).trans (hfr2_7 b kb)
          have hfr2_8 : ∀ b, kd b = 2 → fldI (f_137 b) 8 = fldI (f b) 8 := fun b kb => ((congrArg (fun x => fldI x 8) (congrFun ef_137 b)).trans (fk_up (by rw [hfo_124]; rfl) b)).trans (hfr2_8 b kb)
          have hrr2_0 : ∀ b, kd b = 2 → fldR (f_137 b) 0 = fldR (f b) 0 := fun b kb => ((congrArg (fun x => fldR x 0) (congrFun ef_137 b)).trans (fr_up (by rw [hfo_124]; rfl) b)).trans (hrr2_0 b kb)
          have hrr2_3 : ∀ b, kd b = 2 → fldR (f_137 b) 3 = fldR (f b) 3 := fun b kb => ((congrArg (fun x => fldR x 3) (congrFun ef_137 b)).trans (fr_up (by rw [hfo_124]; rfl) b)).trans (hrr2_3 b kb)
          have hT0 : trel kd 207 566 568 573 204 f_137 a_2 := by rw [ef_137]; exact hT0.up ko0 (by decide) (by decide) (by decide) (by decide) (by decide)
          have hfo_140 : f_137 o0 = .inr (2, [.ref a_2, .int v_25, .int v_26, .ref a_5, .int v_6, .int x_135, .int x_116, .int v_9, .int v_10, .int v_33]) := by rw [ef_137]; exact up_self
          refine lv_iconst (v := 1) hx hb dX2_readS_73 (by decide) ?_
          exact W.zret (v := 1) (ty := .boolean) hx hb hr rfl (fun t ht hW => ⟨⟨1, f_137, rfl, ⟨hG, (by decide), hfr0, hfr2_4, hfr2_7, hfr2_8, hrr2_0, hrr2_3, (by intro w5 z5 e5 d5; rw [hfo_1] at e5; rw [hfo_140] at d5; obtain rfl := Option.some.inj e5; obtain rfl := Option.some.inj d5; (try rw [ti_1]) <;> omega), (fun d9 n9 z9 h1 h2 h3 => Or.inr (by rw [hfo_140] at h1 h3; obtain rfl := Option.some.inj h1; obtain rfl := Option.some.inj h3; rw [hfo_139] at h2; obtain rfl := Option.some.inj h2; omega)), (fun d9 h9 => by rw [hfo_140] at h9; obtain rfl := Option.some.inj h9; exact hT0)⟩, by rw [ht]; exact hP, va_K.moved hW.alike hK, pl_in hD⟩, hS.F ht⟩) hS.2.2 dX2_readS_74
        · skip
          rw [← Int32.toInt_inj, ti_48] at c_133
          exfalso
          omega
    · skip
      rw [← Int32.toInt_inj, ti_48] at c_98
      refine lv_aload_n hx hb dX2_readS_18 rfl (lv_at hl 1 rfl) ?_
      refine lv_iconst (v := 1) hx hb dX2_readS_19 (by decide) ?_
      refine lv_aload_n hx hb dX2_readS_20 rfl (lv_at hl 1 rfl) ?_
      refine tk_getP (D := (dC, dI)) (ci := 2) (v := .int v_29) (C := RX2) (T := TX2) (N := 10) hx hb hU inlX2 hown hK hP mo0 hfo_23 rfl 5 (by decide) (hU _ wd_256) (fun _ h9 => h9) rfl dX2_readS_21 ?_
      refine tk_ViP (As := [.int 1, .int v_29]) (rest := []) (n := 2) hx hb hml hown hU hN hZ (s_X2_fail_k2 l (dC, dI) cI cL cZ cR cG cH Z kd L f_13 hG o0 mo0 ko0 1 v_29) wd_349 wd_350 wd_351 wd_33 wd_352 (by decide +kernel) ⟨Nat.le_of_ble_eq_true rfl, Nat.le_of_ble_eq_true rfl⟩ hK hP hD hS mo0 hfo_23 2 rfl rfl rfl hl.1 rfl (Nat.le_of_ble_eq_true rfl) dX2_readS_24 ⟨Nat.le_of_ble_eq_true rfl, Nat.le_of_ble_eq_true rfl⟩ (fun x_141 f_142 H locs hw hP hD hS => ?_)
      obtain ⟨hG, bx_141, hkc_143, hfc_144, hfc_145, hfc_146, hfc_147, hrc_148, hrc_149⟩ := hw
      have hfo_151 : f_142 a_5 = .inl (cI, 600, .inl g_35) := by rw [hkc_143 a_5 (by rw [ka_5]; decide)]; exact hfo_34
      have hfr0 : ∀ b, kd b ≠ 2 → f_142 b = f b := fun b q2 => (hkc_143 b q2).trans (hfr0 b q2)
      have hfr2_4 : ∀ b, kd b = 2 → fldI (f_142 b) 4 = fldI (f b) 4 := fun b kb => (hfc_144 b kb).trans (hfr2_4 b kb)
      have hfr2_7 : ∀ b, kd b = 2 → fldI (f_142 b) 7 = fldI (f b) 7 := fun b kb => (hfc_146 b kb).trans (hfr2_7 b kb)
      have hfr2_8 : ∀ b, kd b = 2 → fldI (f_142 b) 8 = fldI (f b) 8 := fun b kb => (hfc_147 b kb).trans (hfr2_8 b kb)
      have hrr2_0 : ∀ b, kd b = 2 → fldR (f_142 b) 0 = fldR (f b) 0 := fun b kb => (hrc_148 b kb).trans (hrr2_0 b kb)
      have hrr2_3 : ∀ b, kd b = 2 → fldR (f_142 b) 3 = fldR (f b) 3 := fun b kb => (hrc_149 b kb).trans (hrr2_3 b kb)
      have hT0 : trel kd 207 566 568 573 204 f_142 a_2 := hT0.keep (fun b q => hkc_143 b (by rw [q]; decide)) (fun b q => hkc_143 b (by rw [q]; decide)) (fun b q => hkc_143 b (by rw [q]; decide)) (fun b q => hkc_143 b (by rw [q]; decide)) (fun b q => congrArg (fun x => fldI x 1) (hkc_143 b (by rw [q]; decide)))
      obtain ⟨a_153, v_154, v_155, a_156, v_157, v_158, v_159, v_160, v_161, v_162, hfo_152, ⟨ma_153, ka_153⟩, ⟨ma_156, ka_156⟩, bv_157, bv_158, bv_159, bv_160, bv_161⟩ := un_2 (hG _ mo0) ko0
      have bv_154 : ((-2147483648) ≤ v_154.toInt ∧ v_154.toInt ≤ 2147483647) := ⟨i32_lo _, i32_hi _⟩
      have bv_155 : ((-2147483648) ≤ v_155.toInt ∧ v_155.toInt ≤ 2147483647) := ⟨i32_lo _, i32_hi _⟩
      have bv_162 : ((-2147483648) ≤ v_162.toInt ∧ v_162.toInt ≤ 2147483647) := ⟨i32_lo _, i32_hi _⟩
      obtain rfl : a_2 = a_153 := by have hk9 := hrr2_0 o0 ko0; rw [hfo_152, hfo_1] at hk9; exact (Option.some.inj hk9).symm
      obtain rfl : a_5 = a_156 := by have hk9 := hrr2_3 o0 ko0; rw [hfo_152, hfo_1] at hk9; exact (Option.some.inj hk9).symm
      obtain rfl : v_6 = v_157 := by have hk9 := hfc_144 o0 ko0; rw [hfo_152, hfo_23] at hk9; exact (Option.some.inj hk9).symm
      obtain rfl : v_29 = v_158 := by have hk9 := hfc_145 o0 ko0; rw [hfo_152, hfo_23] at hk9; exact (Option.some.inj hk9).symm
      obtain rfl : v_9 = v_160 := by have hk9 := hfc_146 o0 ko0; rw [hfo_152, hfo_23] at hk9; exact (Option.some.inj hk9).symm
      obtain rfl : v_10 = v_161 := by have hk9 := hfc_147 o0 ko0; rw [hfo_152, hfo_23] at hk9; exact (Option.some.inj hk9).symm
      exact W.zret (v := x_141) (ty := .boolean) hx hb hr (zb_n (by constructor <;> omega)) (fun t ht hW => ⟨⟨x_141, f_142, rfl, ⟨hG, (by constructor <;> omega), hfr0, hfr2_4, hfr2_7, hfr2_8, hrr2_0, hrr2_3, (by intro w5 z5 e5 d5; rw [hfo_1] at e5; rw [hfo_152] at d5; obtain rfl := Option.some.inj e5; obtain rfl := Option.some.inj d5; omega), (fun _ _ _ _ _ _ => Or.inl (by omega)), (fun d9 h9 => by rw [hfo_152] at h9; obtain rfl := Option.some.inj h9; exact hT0)⟩, by rw [ht]; exact hP, va_K.moved hW.alike hK, pl_in hD⟩, hS.F ht⟩) hS.2.2 dX2_readS_27
