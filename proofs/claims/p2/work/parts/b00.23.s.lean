set_option maxHeartbeats 8000000 in
set_option maxRecDepth 100000 in
theorem s_X8_advance_k8_k4 (l : Launch) (D : va_G) (cI cL cZ cR cG cH : ClassId) (Z : zT) (kd : Nat → Nat) (L : List Nat) (f : Nat → va_E) (hG : GI (okc cI cL cZ cR cG cH L kd) kd L f) (o0 : Nat) (mo0 : o0 ∈ L) (ko0 : kd o0 = 8) (o1 : Nat) (mo1 : o1 ∈ L) (ko1 : kd o1 = 4) (p2 : Int32) (bp2 : (0 ≤ p2.toInt ∧ p2.toInt ≤ 71)) (p3 : Int32) (bp3 : (0 ≤ p3.toInt ∧ p3.toInt ≤ 19)) : mPI l D cI cL cZ cR cG cH Z yX8_advance cX8_advance 10 (some .boolean) 1 27 [.ref o0, .ref o1, .int p2, .int p3] L f (fun (r : Int32) (f9 : Nat → va_E) => GI (okc cI cL cZ cR cG cH L kd) kd L f9 ∧ (0 ≤ r.toInt ∧ r.toInt ≤ 1) ∧ (∀ b, kd b ≠ 517 → kd b ≠ 518 → kd b ≠ 519 → f9 b = f b)) := by
  obtain ⟨dC, dI⟩ := D
  refine Met.ofW (cc := cX8_advance) (maxL := 10) (ret := (some .boolean)) (by decide) rfl ?_
  intro p e s m args below meth c s₁ B hml hv
  obtain ⟨rfl, hP, hK, hD0, hN, hZ⟩ := hv
  have hx := B.exec
  have hb := B.bytes
  have hr := B.returns
  have hU : ∀ w ∈ wsU, w.before _ s = true := fun w h => atoms_spec (ws := wU yX8_advance cX8_advance 10 (some .boolean)) B.pre w (List.mem_cons_of_mem _ h)
  have hown : s.vm.findClass RX8 = some m.cls := findClass_of_methodNamed B.named
  have hlocks := B.notSynchronized
  have hD := pl_in hD0
  have hS : va_S (fun q => q ∈ L) s.heap s.heap [] := va_S.rf
  have hl := lv_entry ([.ref o0, .ref o1, .int p2, .int p3]) (n := 10) (Nat.le_of_ble_eq_true rfl)
  rw [lg_entry_eq]
  generalize (lg_sl ([.ref o0, .ref o1, .int p2, .int p3]) ++ List.replicate (10 - (lg_sl ([.ref o0, .ref o1, .int p2, .int p3])).length) Slot.unset).toArray = ls at hl ⊢
  have hl : lv_has ls 10 [(0, .ref o0), (1, .ref o1), (2, .int p2), (3, .int p3)] := hl
  have hfr0 : ∀ b, kd b ≠ 517 → kd b ≠ 518 → kd b ≠ 519 → f b = f b := fun _ _ _ _ => rfl
  refine lv_iload_n hx hb dX8_advance_0 rfl (lv_at hl 2 rfl) ?_
  refine lv_bipush (v := 8) hx hb dX8_advance_1 (by decide) ?_
  refine lv_iadd hx hb dX8_advance_3 ?_
  refine lv_topi (fun x_1 ex_1 => ?_)
  have hx_1 : x_1.toInt = p2.toInt + 8 := by rw [ex_1, ad_I (by rw [ti_8]; omega) (by rw [ti_8]; omega), ti_8]
  have bx_1 : (8 ≤ x_1.toInt ∧ x_1.toInt ≤ 79) := by constructor <;> omega
  refine lv_istore (lv' := [(4, .int x_1), (0, .ref o0), (1, .ref o1), (2, .int p2), (3, .int p3)]) hx hb dX8_advance_4 hl (by decide) rfl (fun ls hl => ?_)
  refine lv_aload_n hx hb dX8_advance_6 rfl (lv_at hl 2 rfl) ?_
  obtain ⟨v_3, v_4, v_5, v_6, a_7, a_8, a_9, a_10, v_11, v_12, v_13, hfo_2, bv_3, bv_4, bv_5, bv_6, ⟨ma_7, ka_7⟩, ⟨ma_8, ka_8⟩, ⟨ma_9, ka_9⟩, ⟨ma_10, ka_10⟩⟩ := un_4 (hG _ mo1) ko1
  have bv_11 : ((-2147483648) ≤ v_11.toInt ∧ v_11.toInt ≤ 2147483647) := ⟨i32_lo _, i32_hi _⟩
  have bv_12 : ((-2147483648) ≤ v_12.toInt ∧ v_12.toInt ≤ 2147483647) := ⟨i32_lo _, i32_hi _⟩
  have bv_13 : ((-2147483648) ≤ v_13.toInt ∧ v_13.toInt ≤ 2147483647) := ⟨i32_lo _, i32_hi _⟩
  refine tk_getP (D := (dC, dI)) (ci := 4) (v := .ref a_9) (C := RX4) (T := TX4) (N := 11) hx hb hU inlX4 hown hK hP mo1 hfo_2 rfl 6 (by decide) (hU _ wd_831) (fun _ h9 => h9) rfl dX8_advance_7 ?_
  refine lv_iload_n hx hb dX8_advance_10 rfl (lv_at hl 4 rfl) ?_
  obtain ⟨g_15, hfo_14, hbg_15⟩ := un_502 (hG _ ma_9) ka_9
  refine tk_ildP hx hb hK hP 0 ma_9 hfo_14 rfl (vp_in_iff.mpr (by constructor <;> omega)) dX8_advance_11 ?_
  refine lv_topi (fun x_16 ex_16 => ?_)
  have bx_16 : (0 ≤ x_16.toInt ∧ x_16.toInt ≤ 2) := by rw [ex_16]; exact hbg_15 _
  refine lv_istore (lv' := [(5, .int x_16), (4, .int x_1), (0, .ref o0), (1, .ref o1), (2, .int p2), (3, .int p3)]) hx hb dX8_advance_12 hl (by decide) rfl (fun ls hl => ?_)
  refine lv_iload hx hb dX8_advance_14 (lv_at hl 0 rfl) ?_
  have hcut_19 : ∀ (y_17 : Int32), ((-2147483648) ≤ y_17.toInt ∧ y_17.toInt ≤ 2147483647) → ∀ (H : Heap) (locs : List Loc), va_P (dC, dI) vwCl (va_pl L f) H → va_S (fun q => q ∈ L) s.heap H locs → ∀ (ls : Array Slot), lv_has ls 10 [(5, .int x_16), (4, .int x_1), (0, .ref o0), (1, .ref o1), (2, .int p2), (3, .int p3)] → W p l e (headSpec (wU yX8_advance cX8_advance 10 (some .boolean)) { frames := 1, cells := 0, slots := 0, locals := 27 }).room s m [.ref o0, .ref o1, .int p2, .int p3].toArray below meth c H locs 0 0 (MQ below (va_Qi (fun (r : Int32) (f9 : Nat → va_E) => GI (okc cI cL cZ cR cG cH L kd) kd L f9 ∧ (0 ≤ r.toInt ∧ r.toInt ≤ 1) ∧ (∀ b, kd b ≠ 517 → kd b ≠ 518 → kd b ≠ 519 → f9 b = f b)) (qP (dC, dI) cI cL cZ cR cG cH L) (fun q => q ∈ L)) [.ref o0, .ref o1, .int p2, .int p3].toArray s 0 0 (fun q => q ∈ L)) (F0 m 37 ls [.int y_17]) := by
    intro y_17 by_17 H locs hP hS ls hl
    refine lv_istore (lv' := [(6, .int y_17), (5, .int x_16), (4, .int x_1), (0, .ref o0), (1, .ref o1), (2, .int p2), (3, .int p3)]) hx hb dX8_advance_37 hl (by decide) rfl (fun ls hl => ?_)
    refine lv_aload_n hx hb dX8_advance_39 rfl (lv_at hl 4 rfl) ?_
    refine tk_getP (D := (dC, dI)) (ci := 4) (v := .ref a_8) (C := RX4) (T := TX4) (N := 11) hx hb hU inlX4 hown hK hP mo1 hfo_2 rfl 5 (by decide) (hU _ wd_841) (fun _ h9 => h9) rfl dX8_advance_40 ?_
    refine lv_aload_n hx hb dX8_advance_43 rfl (lv_at hl 3 rfl) ?_
    obtain ⟨a_21, a_22, a_23, a_24, a_25, hfo_20, ⟨ma_21, ka_21⟩, ⟨ma_22, ka_22⟩, ⟨ma_23, ka_23⟩, ⟨ma_24, ka_24⟩, ⟨ma_25, ka_25⟩⟩ := un_8 (hG _ mo0) ko0
    refine tk_getP (D := (dC, dI)) (ci := 8) (v := .ref a_22) (C := RX8) (T := TX8) (N := 5) hx hb hU inlX8 hown hK hP mo0 hfo_20 rfl 1 (by decide) (hU _ wd_121) (fun _ h9 => h9) rfl dX8_advance_44 ?_
    refine lv_iload_n hx hb dX8_advance_47 rfl (lv_at hl 5 rfl) ?_
    obtain ⟨g_27, hfo_26, hbg_27⟩ := un_517 (hG _ ma_22) ka_22
    refine tk_ildP hx hb hK hP 0 ma_22 hfo_26 rfl (vp_in_iff.mpr (by constructor <;> omega)) dX8_advance_48 ?_
    refine lv_topi (fun x_28 ex_28 => ?_)
    have bx_28 : ((-2147483648) ≤ x_28.toInt ∧ x_28.toInt ≤ 2147483647) := ⟨i32_lo _, i32_hi _⟩
    refine lv_iload_n hx hb dX8_advance_49 rfl (lv_at hl 6 rfl) ?_
    obtain ⟨a_30, a_31, a_32, v_33, v_34, v_35, hfo_29, ⟨ma_30, ka_30⟩, ⟨ma_31, ka_31⟩, ⟨ma_32, ka_32⟩⟩ := un_5 (hG _ ma_8) ka_8
    have bv_33 : ((-2147483648) ≤ v_33.toInt ∧ v_33.toInt ≤ 2147483647) := ⟨i32_lo _, i32_hi _⟩
    have bv_34 : ((-2147483648) ≤ v_34.toInt ∧ v_34.toInt ≤ 2147483647) := ⟨i32_lo _, i32_hi _⟩
    have bv_35 : ((-2147483648) ≤ v_35.toInt ∧ v_35.toInt ≤ 2147483647) := ⟨i32_lo _, i32_hi _⟩
    refine tk_ViP (As := [.int x_28, .int p3]) (rest := []) (n := 2) hx hb hml hown hU hN hZ (s_X5_step_k5 l (dC, dI) cI cL cZ cR cG cH Z kd L f hG a_8 ma_8 ka_8 x_28 p3 (by constructor <;> omega)) wd_832 wd_833 wd_834 wd_102 wd_835 (by decide +kernel) ⟨Nat.le_of_ble_eq_true rfl, Nat.le_of_ble_eq_true rfl⟩ hK hP hD hS ma_8 hfo_29 5 rfl rfl rfl hl.1 rfl (Nat.le_of_ble_eq_true rfl) dX8_advance_50 ⟨Nat.le_of_ble_eq_true rfl, Nat.le_of_ble_eq_true rfl⟩ (fun x_36 f_37 H locs hw hP hD hS => ?_)
    obtain ⟨rfl, bx_36⟩ := hw
    refine lv_istore (lv' := [(7, .int x_36), (6, .int y_17), (5, .int x_16), (4, .int x_1), (0, .ref o0), (1, .ref o1), (2, .int p2), (3, .int p3)]) hx hb dX8_advance_53 hl (by decide) rfl (fun ls hl => ?_)
    refine lv_iload hx hb dX8_advance_55 (lv_at hl 2 rfl) ?_
    refine lv_iconst (v := 2) hx hb dX8_advance_57 (by decide) ?_
    have hcut_40 : ∀ (y_39 : Int32), ((-2147483648) ≤ y_39.toInt ∧ y_39.toInt ≤ 2147483647) → ∀ (ls : Array Slot), lv_has ls 10 [(7, .int y_39), (6, .int y_17), (5, .int x_16), (4, .int x_1), (0, .ref o0), (1, .ref o1), (2, .int p2), (3, .int p3)] → W p l e (headSpec (wU yX8_advance cX8_advance 10 (some .boolean)) { frames := 1, cells := 0, slots := 0, locals := 27 }).room s m [.ref o0, .ref o1, .int p2, .int p3].toArray below meth c H locs 0 0 (MQ below (va_Qi (fun (r : Int32) (f9 : Nat → va_E) => GI (okc cI cL cZ cR cG cH L kd) kd L f9 ∧ (0 ≤ r.toInt ∧ r.toInt ≤ 1) ∧ (∀ b, kd b ≠ 517 → kd b ≠ 518 → kd b ≠ 519 → f9 b = f b)) (qP (dC, dI) cI cL cZ cR cG cH L) (fun q => q ∈ L)) [.ref o0, .ref o1, .int p2, .int p3].toArray s 0 0 (fun q => q ∈ L)) (F0 m 68 ls []) := by
      intro y_39 by_39 ls hl
      refine lv_aload_n hx hb dX8_advance_68 rfl (lv_at hl 4 rfl) ?_
      refine tk_getP (D := (dC, dI)) (ci := 8) (v := .ref a_22) (C := RX8) (T := TX8) (N := 5) hx hb hU inlX8 hown hK hP mo0 hfo_20 rfl 1 (by decide) (hU _ wd_121) (fun _ h9 => h9) rfl dX8_advance_69 ?_
      refine lv_iload hx hb dX8_advance_72 (lv_at hl 3 rfl) ?_
      refine lv_iload hx hb dX8_advance_74 (lv_at hl 0 rfl) ?_
      refine tk_istP hx hb hK hP hD hS 0 ma_22 hfo_26 rfl (vp_in_iff.mpr (by constructor <;> omega)) dX8_advance_76 (fun H locs hP hD hS => ?_)
      obtain ⟨f_42, ef_42⟩ : ∃ y : Nat → va_E, y = va_up f a_22 (.inl (cI, 80, .inl (upd g_27 (Int32.toNatClampNeg x_1) y_39))) := ⟨_, rfl⟩
      have hP : va_P (dC, dI) vwCl (va_pl L f_42) H := by rw [ef_42]; exact hP
      have hD : va_D (fun q => q ∈ L) (va_pl L f_42) := by rw [ef_42]; exact hD
      have hG : GI (okc cI cL cZ cR cG cH L kd) kd L f_42 := by rw [ef_42]; exact hG.set a_22 (mk_517 ka_22 ⟨_, rfl, okI_up hbg_27 ⟨i32_lo _, i32_hi _⟩ _⟩)
      have hfo_43 : f_42 o1 = .inr (4, [.int v_3, .int v_4, .int v_5, .int v_6, .ref a_7, .ref a_8, .ref a_9, .ref a_10, .int v_11, .int v_12, .int v_13]) := by rw [ef_42, up_ne (kd_ne ka_22 ko1 (by decide))]; exact hfo_2
      have hfo_44 : f_42 a_9 = .inl (cI, 20, .inl g_15) := by rw [ef_42, up_ne (kd_ne ka_22 ka_9 (by decide))]; exact hfo_14
      have hfo_45 : f_42 o0 = .inr (8, [.ref a_21, .ref a_22, .ref a_23, .ref a_24, .ref a_25]) := by rw [ef_42, up_ne (kd_ne ka_22 ko0 (by decide))]; exact hfo_20
      have hfo_46 : f_42 a_8 = .inr (5, [.ref a_30, .ref a_31, .ref a_32, .int v_33, .int v_34, .int v_35]) := by rw [ef_42, up_ne (kd_ne ka_22 ka_8 (by decide))]; exact hfo_29
      have hfr0 : ∀ b, kd b ≠ 517 → kd b ≠ 518 → kd b ≠ 519 → f_42 b = f b := fun b q517 q518 q519 => (congrFun ef_42 b).trans ((up_ne (fun e9 => q517 (by rw [e9]; exact ka_22))).trans (hfr0 b q517 q518 q519))
      have hfo_47 : f_42 a_22 = .inl (cI, 80, .inl (upd g_27 (Int32.toNatClampNeg x_1) y_39)) := by rw [ef_42]; exact up_self
      refine lv_iload hx hb dX8_advance_77 (lv_at hl 0 rfl) ?_
      refine lv_aload_n hx hb dX8_advance_79 rfl (lv_at hl 5 rfl) ?_
      refine tk_getP (D := (dC, dI)) (ci := 4) (v := .int v_13) (C := RX4) (T := TX4) (N := 11) hx hb hU inlX4 hown hK hP mo1 hfo_43 rfl 10 (by decide) (hU _ wd_842) (fun _ h9 => h9) rfl dX8_advance_80 ?_
      refine lv_iand hx hb dX8_advance_83 ?_
      refine lv_topi (fun x_48 ex_48 => ?_)
      have bx_48 : ((-2147483648) ≤ x_48.toInt ∧ x_48.toInt ≤ 2147483647) := ⟨i32_lo _, i32_hi _⟩
      have hcut_50 : ∀ (y_49 : Int32), (0 ≤ y_49.toInt ∧ y_49.toInt ≤ 1) → ∀ (ls : Array Slot), lv_has ls 10 [(7, .int y_39), (6, .int y_17), (5, .int x_16), (4, .int x_1), (0, .ref o0), (1, .ref o1), (2, .int p2), (3, .int p3)] → W p l e (headSpec (wU yX8_advance cX8_advance 10 (some .boolean)) { frames := 1, cells := 0, slots := 0, locals := 27 }).room s m [.ref o0, .ref o1, .int p2, .int p3].toArray below meth c H locs 0 0 (MQ below (va_Qi (fun (r : Int32) (f9 : Nat → va_E) => GI (okc cI cL cZ cR cG cH L kd) kd L f9 ∧ (0 ≤ r.toInt ∧ r.toInt ≤ 1) ∧ (∀ b, kd b ≠ 517 → kd b ≠ 518 → kd b ≠ 519 → f9 b = f b)) (qP (dC, dI) cI cL cZ cR cG cH L) (fun q => q ∈ L)) [.ref o0, .ref o1, .int p2, .int p3].toArray s 0 0 (fun q => q ∈ L)) (F0 m 92 ls [.int y_49]) := by
        intro y_49 by_49 ls hl
        refine lv_istore (lv' := [(8, .int y_49), (7, .int y_39), (6, .int y_17), (5, .int x_16), (4, .int x_1), (0, .ref o0), (1, .ref o1), (2, .int p2), (3, .int p3)]) hx hb dX8_advance_92 hl (by decide) rfl (fun ls hl => ?_)
        refine lv_iconst (v := 0) hx hb dX8_advance_94 (by decide) ?_
        refine lv_istore (lv' := [(9, .int 0), (8, .int y_49), (7, .int y_39), (6, .int y_17), (5, .int x_16), (4, .int x_1), (0, .ref o0), (1, .ref o1), (2, .int p2), (3, .int p3)]) hx hb dX8_advance_95 hl (by decide) rfl (fun ls hl => ?_)
        have hloop_78 : ∀ (n : Nat), ∀ (y_79 : Int32), (0 ≤ y_79.toInt ∧ y_79.toInt ≤ 10) → ∀ (y_80 : Int32), (0 ≤ y_80.toInt ∧ y_80.toInt ≤ 1) → ∀ (f_82 : Nat → va_E), GI (okc cI cL cZ cR cG cH L kd) kd L f_82 → ∀ (H : Heap) (locs : List Loc), va_P (dC, dI) vwCl (va_pl L f_82) H → va_S (fun q => q ∈ L) s.heap H locs → va_D (fun q => q ∈ L) (va_pl L f_82) → (∀ b, kd b ≠ 517 → kd b ≠ 518 → kd b ≠ 519 → f_82 b = f b) → (f_82 o1 = .inr (4, [.int v_3, .int v_4, .int v_5, .int v_6, .ref a_7, .ref a_8, .ref a_9, .ref a_10, .int v_11, .int v_12, .int v_13])) → (f_82 a_9 = .inl (cI, 20, .inl g_15)) → (f_82 o0 = .inr (8, [.ref a_21, .ref a_22, .ref a_23, .ref a_24, .ref a_25])) → (f_82 a_8 = .inr (5, [.ref a_30, .ref a_31, .ref a_32, .int v_33, .int v_34, .int v_35])) → 10 - y_79.toInt < (n : Int) → ∀ (ls : Array Slot), lv_has ls 10 [(9, .int y_79), (8, .int y_80), (7, .int y_39), (6, .int y_17), (5, .int x_16), (4, .int x_1), (0, .ref o0), (1, .ref o1), (2, .int p2), (3, .int p3)] → W p l e (headSpec (wU yX8_advance cX8_advance 10 (some .boolean)) { frames := 1, cells := 0, slots := 0, locals := 27 }).room s m [.ref o0, .ref o1, .int p2, .int p3].toArray below meth c H locs 0 0 (MQ below (va_Qi (fun (r : Int32) (f9 : Nat → va_E) => GI (okc cI cL cZ cR cG cH L kd) kd L f9 ∧ (0 ≤ r.toInt ∧ r.toInt ≤ 1) ∧ (∀ b, kd b ≠ 517 → kd b ≠ 518 → kd b ≠ 519 → f9 b = f b)) (qP (dC, dI) cI cL cZ cR cG cH L) (fun q => q ∈ L)) [.ref o0, .ref o1, .int p2, .int p3].toArray s 0 0 (fun q => q ∈ L)) (F0 m 97 ls []) := by
          intro n
          induction n with
          | zero => intro y_79 by_79 y_80 by_80 f_82 hG H locs hP hS hD hfr0 hfo_83 hfo_84 hfo_85 hfo_86 hmuhloop_78 ls hl; exfalso; omega
          | succ n ih_hloop_78 =>
            intro y_79 by_79 y_80 by_80 f_82 hG H locs hP hS hD hfr0 hfo_83 hfo_84 hfo_85 hfo_86 hmuhloop_78 ls hl
            refine lv_iload hx hb dX8_advance_97 (lv_at hl 0 rfl) ?_
            refine lv_aload_n hx hb dX8_advance_99 rfl (lv_at hl 6 rfl) ?_
            refine tk_getP (D := (dC, dI)) (ci := 8) (v := .ref a_23) (C := RX8) (T := TX8) (N := 5) hx hb hU inlX8 hown hK hP mo0 hfo_85 rfl 2 (by decide) (hU _ wd_122) (fun _ h9 => h9) rfl dX8_advance_100 ?_
            refine lv_iload_n hx hb dX8_advance_103 rfl (lv_at hl 8 rfl) ?_
            obtain ⟨g_88, hfo_87, hbg_88⟩ := un_518 (hG _ ma_23) ka_23
            refine tk_ildP hx hb hK hP 0 ma_23 hfo_87 rfl (vp_in_iff.mpr (by constructor <;> omega)) dX8_advance_104 ?_
            refine lv_topi (fun x_89 ex_89 => ?_)
            have bx_89 : (0 ≤ x_89.toInt ∧ x_89.toInt ≤ 10) := by rw [ex_89]; exact hbg_88 _
            have hcut_90 : ∀ (ls : Array Slot), lv_has ls 10 [(9, .int y_79), (8, .int y_80), (7, .int y_39), (6, .int y_17), (5, .int x_16), (4, .int x_1), (0, .ref o0), (1, .ref o1), (2, .int p2), (3, .int p3)] → W p l e (headSpec (wU yX8_advance cX8_advance 10 (some .boolean)) { frames := 1, cells := 0, slots := 0, locals := 27 }).room s m [.ref o0, .ref o1, .int p2, .int p3].toArray below meth c H locs 0 0 (MQ below (va_Qi (fun (r : Int32) (f9 : Nat → va_E) => GI (okc cI cL cZ cR cG cH L kd) kd L f9 ∧ (0 ≤ r.toInt ∧ r.toInt ≤ 1) ∧ (∀ b, kd b ≠ 517 → kd b ≠ 518 → kd b ≠ 519 → f9 b = f b)) (qP (dC, dI) cI cL cZ cR cG cH L) (fun q => q ∈ L)) [.ref o0, .ref o1, .int p2, .int p3].toArray s 0 0 (fun q => q ∈ L)) (F0 m 156 ls []) := by
              intro ls hl
              refine lv_iload hx hb dX8_advance_156 (lv_at hl 4 rfl) ?_
              refine lv_iconst (v := 1) hx hb dX8_advance_158 (by decide) ?_
              have hcut_98 : ∀ (y_91 : Int32), (0 ≤ y_91.toInt ∧ y_91.toInt ≤ 1) → ∀ (f_93 : Nat → va_E), GI (okc cI cL cZ cR cG cH L kd) kd L f_93 → ∀ (H : Heap) (locs : List Loc), va_P (dC, dI) vwCl (va_pl L f_93) H → va_S (fun q => q ∈ L) s.heap H locs → va_D (fun q => q ∈ L) (va_pl L f_93) → (∀ b, kd b ≠ 517 → kd b ≠ 518 → kd b ≠ 519 → f_93 b = f b) → (f_93 o1 = .inr (4, [.int v_3, .int v_4, .int v_5, .int v_6, .ref a_7, .ref a_8, .ref a_9, .ref a_10, .int v_11, .int v_12, .int v_13])) → (f_93 a_9 = .inl (cI, 20, .inl g_15)) → (f_93 o0 = .inr (8, [.ref a_21, .ref a_22, .ref a_23, .ref a_24, .ref a_25])) → (f_93 a_8 = .inr (5, [.ref a_30, .ref a_31, .ref a_32, .int v_33, .int v_34, .int v_35])) → ∀ (ls : Array Slot), lv_has ls 10 [(9, .int y_79), (8, .int y_91), (7, .int y_39), (6, .int y_17), (5, .int x_16), (4, .int x_1), (0, .ref o0), (1, .ref o1), (2, .int p2), (3, .int p3)] → W p l e (headSpec (wU yX8_advance cX8_advance 10 (some .boolean)) { frames := 1, cells := 0, slots := 0, locals := 27 }).room s m [.ref o0, .ref o1, .int p2, .int p3].toArray below meth c H locs 0 0 (MQ below (va_Qi (fun (r : Int32) (f9 : Nat → va_E) => GI (okc cI cL cZ cR cG cH L kd) kd L f9 ∧ (0 ≤ r.toInt ∧ r.toInt ≤ 1) ∧ (∀ b, kd b ≠ 517 → kd b ≠ 518 → kd b ≠ 519 → f9 b = f b)) (qP (dC, dI) cI cL cZ cR cG cH L) (fun q => q ∈ L)) [.ref o0, .ref o1, .int p2, .int p3].toArray s 0 0 (fun q => q ∈ L)) (F0 m 186 ls []) := by
                intro y_91 by_91 f_93 hG H locs hP hS hD hfr0 hfo_94 hfo_95 hfo_96 hfo_97 ls hl
                refine lv_iload hx hb dX8_advance_186 (lv_at hl 1 rfl) ?_
                exact W.zret (v := y_91) (ty := .boolean) hx hb hr (zb_n (by constructor <;> omega)) (fun t ht hW => ⟨⟨y_91, f_93, rfl, ⟨hG, (by constructor <;> omega), hfr0⟩, by rw [ht]; exact hP, va_K.moved hW.alike hK, pl_in hD⟩, hS.F ht⟩) hS.2.2 dX8_advance_188
              refine lv_icmp_ne (tgt := 186) hx hb dX8_advance_159 (by decide) (fun c_99 => ?_) (fun c_99 => ?_)
              · skip
                rw [← Int32.toInt_inj, ti_1] at c_99
                exact hcut_98 y_80 (by constructor <;> omega) f_82 hG _ _ hP hS hD hfr0 hfo_83 hfo_84 hfo_85 hfo_86 ls (lv_sub hl [0, 1, 2, 3, 4, 5, 6, 7, 8, 9] rfl)
              · skip
                rw [← Int32.toInt_inj, ti_1] at c_99
                refine lv_iload hx hb dX8_advance_162 (lv_at hl 1 rfl) ?_
                refine lv_if_ne (tgt := 186) hx hb dX8_advance_164 (by decide) (fun c_100 => ?_) (fun c_100 => ?_)
                · skip
                  rw [← Int32.toInt_inj, ti_0] at c_100
                  exact hcut_98 y_80 (by constructor <;> omega) f_82 hG _ _ hP hS hD hfr0 hfo_83 hfo_84 hfo_85 hfo_86 ls (lv_sub hl [0, 1, 2, 3, 4, 5, 6, 7, 8, 9] rfl)
                · skip
                  rw [← Int32.toInt_inj, ti_0] at c_100
                  refine lv_aload_n hx hb dX8_advance_167 rfl (lv_at hl 6 rfl) ?_
                  refine lv_aload_n hx hb dX8_advance_168 rfl (lv_at hl 7 rfl) ?_
                  refine lv_iload hx hb dX8_advance_169 (lv_at hl 5 rfl) ?_
                  refine lv_iload hx hb dX8_advance_171 (lv_at hl 3 rfl) ?_
                  refine tk_ViP (As := [.ref o1, .int x_1, .int y_17]) (rest := []) (n := 3) hx hb hml hown hU hN hZ (s_X8_owe_k8_k4 l (dC, dI) cI cL cZ cR cG cH Z kd L f_82 hG o0 mo0 ko0 o1 mo1 ko1 x_1 (by constructor <;> omega) y_17) wd_846 wd_847 wd_848 wd_55 wd_849 (by decide +kernel) ⟨Nat.le_of_ble_eq_true rfl, Nat.le_of_ble_eq_true rfl⟩ hK hP hD hS mo0 hfo_85 8 rfl rfl rfl hl.1 rfl (Nat.le_of_ble_eq_true rfl) dX8_advance_173 ⟨Nat.le_of_ble_eq_true rfl, Nat.le_of_ble_eq_true rfl⟩ (fun x_101 f_102 H locs hw hP hD hS => ?_)
                  obtain ⟨hG, bx_101, hkc_103⟩ := hw
                  have hfo_105 : f_102 o1 = .inr (4, [.int v_3, .int v_4, .int v_5, .int v_6, .ref a_7, .ref a_8, .ref a_9, .ref a_10, .int v_11, .int v_12, .int v_13]) := by rw [hkc_103 o1 (by rw [ko1]; decide) (by rw [ko1]; decide)]; exact hfo_83
                  have hfo_106 : f_102 a_9 = .inl (cI, 20, .inl g_15) := by rw [hkc_103 a_9 (by rw [ka_9]; decide) (by rw [ka_9]; decide)]; exact hfo_84
                  have hfo_107 : f_102 o0 = .inr (8, [.ref a_21, .ref a_22, .ref a_23, .ref a_24, .ref a_25]) := by rw [hkc_103 o0 (by rw [ko0]; decide) (by rw [ko0]; decide)]; exact hfo_85
                  have hfo_108 : f_102 a_8 = .inr (5, [.ref a_30, .ref a_31, .ref a_32, .int v_33, .int v_34, .int v_35]) := by rw [hkc_103 a_8 (by rw [ka_8]; decide) (by rw [ka_8]; decide)]; exact hfo_86
                  have hfr0 : ∀ b, kd b ≠ 517 → kd b ≠ 518 → kd b ≠ 519 → f_102 b = f b := fun b q517 q518 q519 => (hkc_103 b q518 q519).trans (hfr0 b q517 q518 q519)
                  have hcut_110 : ∀ (y_109 : Int32), (0 ≤ y_109.toInt ∧ y_109.toInt ≤ 1) → ∀ (ls : Array Slot), lv_has ls 10 [(9, .int y_79), (8, .int y_80), (7, .int y_39), (6, .int y_17), (5, .int x_16), (4, .int x_1), (0, .ref o0), (1, .ref o1), (2, .int p2), (3, .int p3)] → W p l e (headSpec (wU yX8_advance cX8_advance 10 (some .boolean)) { frames := 1, cells := 0, slots := 0, locals := 27 }).room s m [.ref o0, .ref o1, .int p2, .int p3].toArray below meth c H locs 0 0 (MQ below (va_Qi (fun (r : Int32) (f9 : Nat → va_E) => GI (okc cI cL cZ cR cG cH L kd) kd L f9 ∧ (0 ≤ r.toInt ∧ r.toInt ≤ 1) ∧ (∀ b, kd b ≠ 517 → kd b ≠ 518 → kd b ≠ 519 → f9 b = f b)) (qP (dC, dI) cI cL cZ cR cG cH L) (fun q => q ∈ L)) [.ref o0, .ref o1, .int p2, .int p3].toArray s 0 0 (fun q => q ∈ L)) (F0 m 184 ls [.int y_109]) := by
                    intro y_109 by_109 ls hl
                    refine lv_istore (lv' := [(8, .int y_109), (9, .int y_79), (7, .int y_39), (6, .int y_17), (5, .int x_16), (4, .int x_1), (0, .ref o0), (1, .ref o1), (2, .int p2), (3, .int p3)]) hx hb dX8_advance_184 hl (by decide) rfl (fun ls hl => ?_)
                    exact hcut_98 y_109 (by constructor <;> omega) f_102 hG _ _ hP hS hD hfr0 hfo_105 hfo_106 hfo_107 hfo_108 ls (lv_sub hl [1, 0, 2, 3, 4, 5, 6, 7, 8, 9] rfl)
                  refine lv_if_ne (tgt := 183) hx hb dX8_advance_176 (by decide) (fun c_111 => ?_) (fun c_111 => ?_)
                  · skip
                    rw [← Int32.toInt_inj, ti_0] at c_111
                    refine lv_iconst (v := 0) hx hb dX8_advance_183 (by decide) ?_
                    exact hcut_110 0 (by decide) ls (lv_sub hl [0, 1, 2, 3, 4, 5, 6, 7, 8, 9] rfl)
                  · skip
                    rw [← Int32.toInt_inj, ti_0] at c_111
                    refine lv_iconst (v := 1) hx hb dX8_advance_179 (by decide) ?_
                    refine lv_goto (tgt := 184) hx hb dX8_advance_180 (by decide) ?_
                    exact hcut_110 1 (by decide) ls (lv_sub hl [0, 1, 2, 3, 4, 5, 6, 7, 8, 9] rfl)
            refine lv_icmp_ge (tgt := 156) hx hb dX8_advance_105 (by decide) (fun c_112 => ?_) (fun c_112 => ?_)
            · skip
              rw [Int32.le_iff_toInt_le] at c_112
              exact hcut_90 ls (lv_sub hl [0, 1, 2, 3, 4, 5, 6, 7, 8, 9] rfl)
            · skip
              rw [Int32.le_iff_toInt_le] at c_112
              refine lv_iload hx hb dX8_advance_108 (lv_at hl 1 rfl) ?_
              refine lv_if_ne (tgt := 156) hx hb dX8_advance_110 (by decide) (fun c_113 => ?_) (fun c_113 => ?_)
              · skip
                rw [← Int32.toInt_inj, ti_0] at c_113
                exact hcut_90 ls (lv_sub hl [0, 1, 2, 3, 4, 5, 6, 7, 8, 9] rfl)
              · skip
                rw [← Int32.toInt_inj, ti_0] at c_113
                refine lv_aload_n hx hb dX8_advance_113 rfl (lv_at hl 6 rfl) ?_
                refine lv_aload_n hx hb dX8_advance_114 rfl (lv_at hl 7 rfl) ?_
                refine lv_iload hx hb dX8_advance_115 (lv_at hl 5 rfl) ?_
                refine lv_aload_n hx hb dX8_advance_117 rfl (lv_at hl 7 rfl) ?_
                refine tk_getP (D := (dC, dI)) (ci := 4) (v := .ref a_8) (C := RX4) (T := TX4) (N := 11) hx hb hU inlX4 hown hK hP mo1 hfo_83 rfl 5 (by decide) (hU _ wd_841) (fun _ h9 => h9) rfl dX8_advance_118 ?_
                refine lv_aload_n hx hb dX8_advance_121 rfl (lv_at hl 6 rfl) ?_
                refine tk_getP (D := (dC, dI)) (ci := 8) (v := .ref a_24) (C := RX8) (T := TX8) (N := 5) hx hb hU inlX8 hown hK hP mo0 hfo_85 rfl 3 (by decide) (hU _ wd_123) (fun _ h9 => h9) rfl dX8_advance_122 ?_
                refine lv_iload_n hx hb dX8_advance_125 rfl (lv_at hl 8 rfl) ?_
                refine lv_bipush (v := 10) hx hb dX8_advance_126 (by decide) ?_
                refine lv_imul hx hb dX8_advance_128 ?_
                refine lv_topi (fun x_114 ex_114 => ?_)
                have hx_114 : x_114.toInt = p2.toInt * 10 := by rw [ex_114, ml_I (by rw [ti_10]; omega) (by rw [ti_10]; omega), ti_10]
                have bx_114 : (0 ≤ x_114.toInt ∧ x_114.toInt ≤ 710) := by constructor <;> omega
                refine lv_iload hx hb dX8_advance_129 (lv_at hl 0 rfl) ?_
                refine lv_iadd hx hb dX8_advance_131 ?_
                refine lv_topi (fun x_115 ex_115 => ?_)
                have hx_115 : x_115.toInt = x_114.toInt + y_79.toInt := by rw [ex_115, ad_I (by omega) (by omega)]
                have bx_115 : (0 ≤ x_115.toInt ∧ x_115.toInt ≤ 719) := by constructor <;> omega
                obtain ⟨g_117, hfo_116, hbg_117⟩ := un_519 (hG _ ma_24) ka_24
                refine tk_ildP hx hb hK hP 0 ma_24 hfo_116 rfl (vp_in_iff.mpr (by constructor <;> omega)) dX8_advance_132 ?_
                refine lv_topi (fun x_118 ex_118 => ?_)
                have bx_118 : ((-2147483648) ≤ x_118.toInt ∧ x_118.toInt ≤ 2147483647) := ⟨i32_lo _, i32_hi _⟩
                refine lv_iload_n hx hb dX8_advance_133 rfl (lv_at hl 9 rfl) ?_
                refine tk_ViP (As := [.int x_118, .int p3]) (rest := [.int x_1, .ref o1, .ref o0]) (n := 2) hx hb hml hown hU hN hZ (s_X5_step_k5 l (dC, dI) cI cL cZ cR cG cH Z kd L f_82 hG a_8 ma_8 ka_8 x_118 p3 (by constructor <;> omega)) wd_832 wd_833 wd_834 wd_102 wd_835 (by decide +kernel) ⟨Nat.le_of_ble_eq_true rfl, Nat.le_of_ble_eq_true rfl⟩ hK hP hD hS ma_8 hfo_86 5 rfl rfl rfl hl.1 rfl (Nat.le_of_ble_eq_true rfl) dX8_advance_134 ⟨Nat.le_of_ble_eq_true rfl, Nat.le_of_ble_eq_true rfl⟩ (fun x_119 f_120 H locs hw hP hD hS => ?_)
                obtain ⟨rfl, bx_119⟩ := hw
                refine tk_ViP (As := [.ref o1, .int x_1, .int x_119]) (rest := []) (n := 3) hx hb hml hown hU hN hZ (s_X8_owe_k8_k4 l (dC, dI) cI cL cZ cR cG cH Z kd L f_82 hG o0 mo0 ko0 o1 mo1 ko1 x_1 (by constructor <;> omega) x_119) wd_846 wd_847 wd_848 wd_55 wd_849 (by decide +kernel) ⟨Nat.le_of_ble_eq_true rfl, Nat.le_of_ble_eq_true rfl⟩ hK hP hD hS mo0 hfo_85 8 rfl rfl rfl hl.1 rfl (Nat.le_of_ble_eq_true rfl) dX8_advance_137 ⟨Nat.le_of_ble_eq_true rfl, Nat.le_of_ble_eq_true rfl⟩ (fun x_122 f_123 H locs hw hP hD hS => ?_)
                obtain ⟨hG, bx_122, hkc_124⟩ := hw
                have hfo_126 : f_123 o1 = .inr (4, [.int v_3, .int v_4, .int v_5, .int v_6, .ref a_7, .ref a_8, .ref a_9, .ref a_10, .int v_11, .int v_12, .int v_13]) := by rw [hkc_124 o1 (by rw [ko1]; decide) (by rw [ko1]; decide)]; exact hfo_83
                have hfo_127 : f_123 a_9 = .inl (cI, 20, .inl g_15) := by rw [hkc_124 a_9 (by rw [ka_9]; decide) (by rw [ka_9]; decide)]; exact hfo_84
                have hfo_128 : f_123 o0 = .inr (8, [.ref a_21, .ref a_22, .ref a_23, .ref a_24, .ref a_25]) := by rw [hkc_124 o0 (by rw [ko0]; decide) (by rw [ko0]; decide)]; exact hfo_85
                have hfo_129 : f_123 a_8 = .inr (5, [.ref a_30, .ref a_31, .ref a_32, .int v_33, .int v_34, .int v_35]) := by rw [hkc_124 a_8 (by rw [ka_8]; decide) (by rw [ka_8]; decide)]; exact hfo_86
                have hfr0 : ∀ b, kd b ≠ 517 → kd b ≠ 518 → kd b ≠ 519 → f_123 b = f b := fun b q517 q518 q519 => (hkc_124 b q518 q519).trans (hfr0 b q517 q518 q519)
                have hcut_131 : ∀ (y_130 : Int32), (0 ≤ y_130.toInt ∧ y_130.toInt ≤ 1) → ∀ (ls : Array Slot), lv_has ls 10 [(9, .int y_79), (8, .int y_80), (7, .int y_39), (6, .int y_17), (5, .int x_16), (4, .int x_1), (0, .ref o0), (1, .ref o1), (2, .int p2), (3, .int p3)] → W p l e (headSpec (wU yX8_advance cX8_advance 10 (some .boolean)) { frames := 1, cells := 0, slots := 0, locals := 27 }).room s m [.ref o0, .ref o1, .int p2, .int p3].toArray below meth c H locs 0 0 (MQ below (va_Qi (fun (r : Int32) (f9 : Nat → va_E) => GI (okc cI cL cZ cR cG cH L kd) kd L f9 ∧ (0 ≤ r.toInt ∧ r.toInt ≤ 1) ∧ (∀ b, kd b ≠ 517 → kd b ≠ 518 → kd b ≠ 519 → f9 b = f b)) (qP (dC, dI) cI cL cZ cR cG cH L) (fun q => q ∈ L)) [.ref o0, .ref o1, .int p2, .int p3].toArray s 0 0 (fun q => q ∈ L)) (F0 m 148 ls [.int y_130]) := by
                  intro y_130 by_130 ls hl
                  refine lv_istore (lv' := [(8, .int y_130), (9, .int y_79), (7, .int y_39), (6, .int y_17), (5, .int x_16), (4, .int x_1), (0, .ref o0), (1, .ref o1), (2, .int p2), (3, .int p3)]) hx hb dX8_advance_148 hl (by decide) rfl (fun ls hl => ?_)
                  obtain ⟨x_132, ex_132⟩ : ∃ y : Int32, y_79 + 1 = y := ⟨_, rfl⟩
                  have hx_132 : x_132.toInt = y_79.toInt + 1 := by rw [← ex_132, ad_I (by rw [ti_1]; omega) (by rw [ti_1]; omega), ti_1]
                  have bx_132 : (1 ≤ x_132.toInt ∧ x_132.toInt ≤ 10) := by constructor <;> omega
                  refine lv_iinc (v := x_132) (lv' := [(9, .int x_132), (8, .int y_130), (7, .int y_39), (6, .int y_17), (5, .int x_16), (4, .int x_1), (0, .ref o0), (1, .ref o1), (2, .int p2), (3, .int p3)]) hx hb dX8_advance_150 hl (k := 1) rfl ex_132 (by decide) rfl (fun ls hl => ?_)
                  refine lv_goto (tgt := 97) hx hb dX8_advance_153 (by decide) ?_
                  exact ih_hloop_78 x_132 (by constructor <;> omega) y_130 (by constructor <;> omega) f_123 hG _ _ hP hS hD hfr0 hfo_126 hfo_127 hfo_128 hfo_129 (by omega) ls (lv_sub hl [0, 1, 2, 3, 4, 5, 6, 7, 8, 9] rfl)
                refine lv_if_ne (tgt := 147) hx hb dX8_advance_140 (by decide) (fun c_133 => ?_) (fun c_133 => ?_)
                · skip
                  rw [← Int32.toInt_inj, ti_0] at c_133
                  refine lv_iconst (v := 0) hx hb dX8_advance_147 (by decide) ?_
                  exact hcut_131 0 (by decide) ls (lv_sub hl [0, 1, 2, 3, 4, 5, 6, 7, 8, 9] rfl)
                · skip
                  rw [← Int32.toInt_inj, ti_0] at c_133
                  refine lv_iconst (v := 1) hx hb dX8_advance_143 (by decide) ?_
                  refine lv_goto (tgt := 148) hx hb dX8_advance_144 (by decide) ?_
                  exact hcut_131 1 (by decide) ls (lv_sub hl [0, 1, 2, 3, 4, 5, 6, 7, 8, 9] rfl)
        exact hloop_78 11 0 (by decide) y_49 (by constructor <;> omega) f_42 hG _ _ hP hS hD hfr0 hfo_43 hfo_44 hfo_45 hfo_46 (by (try rw [ti_0]) <;> omega) ls hl
      refine lv_if_eq (tgt := 91) hx hb dX8_advance_84 (by decide) (fun c_134 => ?_) (fun c_134 => ?_)
      · skip
        rw [← Int32.toInt_inj, ti_0] at c_134
        refine lv_iconst (v := 0) hx hb dX8_advance_91 (by decide) ?_
        exact hcut_50 0 (by decide) ls (lv_sub hl [0, 1, 2, 3, 4, 5, 6, 7] rfl)
      · skip
        rw [← Int32.toInt_inj, ti_0] at c_134
        refine lv_iconst (v := 1) hx hb dX8_advance_87 (by decide) ?_
        refine lv_goto (tgt := 92) hx hb dX8_advance_88 (by decide) ?_
        exact hcut_50 1 (by decide) ls (lv_sub hl [0, 1, 2, 3, 4, 5, 6, 7] rfl)
    refine lv_icmp_ne (tgt := 68) hx hb dX8_advance_58 (by decide) (fun c_135 => ?_) (fun c_135 => ?_)
    · skip
      rw [← Int32.toInt_inj, ti_2] at c_135
      exact hcut_40 x_36 (by constructor <;> omega) ls (lv_sub hl [0, 1, 2, 3, 4, 5, 6, 7] rfl)
    · skip
      rw [← Int32.toInt_inj, ti_2] at c_135
      refine lv_iload hx hb dX8_advance_61 (lv_at hl 0 rfl) ?_
      refine lv_iload hx hb dX8_advance_63 (lv_at hl 1 rfl) ?_
      refine lv_ior hx hb dX8_advance_65 ?_
      refine lv_topi (fun x_136 ex_136 => ?_)
      have bx_136 : ((-2147483648) ≤ x_136.toInt ∧ x_136.toInt ≤ 2147483647) := ⟨i32_lo _, i32_hi _⟩
      refine lv_istore (lv' := [(7, .int x_136), (6, .int y_17), (5, .int x_16), (4, .int x_1), (0, .ref o0), (1, .ref o1), (2, .int p2), (3, .int p3)]) hx hb dX8_advance_66 hl (by decide) rfl (fun ls hl => ?_)
      exact hcut_40 x_136 (by constructor <;> omega) ls (lv_sub hl [0, 1, 2, 3, 4, 5, 6, 7] rfl)
  refine lv_if_ne (tgt := 23) hx hb dX8_advance_16 (by decide) (fun c_137 => ?_) (fun c_137 => ?_)
  · skip
    rw [← Int32.toInt_inj, ti_0] at c_137
    refine lv_aload_n hx hb dX8_advance_23 rfl (lv_at hl 3 rfl) ?_
    refine tk_getP (D := (dC, dI)) (ci := 4) (v := .ref a_10) (C := RX4) (T := TX4) (N := 11) hx hb hU inlX4 hown hK hP mo1 hfo_2 rfl 7 (by decide) (hU _ wd_840) (fun _ h9 => h9) rfl dX8_advance_24 ?_
    refine lv_aload_n hx hb dX8_advance_27 rfl (lv_at hl 2 rfl) ?_
    obtain ⟨a_139, a_140, a_141, a_142, a_143, hfo_138, ⟨ma_139, ka_139⟩, ⟨ma_140, ka_140⟩, ⟨ma_141, ka_141⟩, ⟨ma_142, ka_142⟩, ⟨ma_143, ka_143⟩⟩ := un_8 (hG _ mo0) ko0
    refine tk_getP (D := (dC, dI)) (ci := 8) (v := .ref a_139) (C := RX8) (T := TX8) (N := 5) hx hb hU inlX8 hown hK hP mo0 hfo_138 rfl 0 (by decide) (hU _ wd_120) (fun _ h9 => h9) rfl dX8_advance_28 ?_
    refine lv_iload_n hx hb dX8_advance_31 rfl (lv_at hl 4 rfl) ?_
    obtain ⟨g_145, hfo_144, hbg_145⟩ := un_517 (hG _ ma_139) ka_139
    refine tk_ildP hx hb hK hP 0 ma_139 hfo_144 rfl (vp_in_iff.mpr (by constructor <;> omega)) dX8_advance_32 ?_
    refine lv_topi (fun x_146 ex_146 => ?_)
    have bx_146 : ((-2147483648) ≤ x_146.toInt ∧ x_146.toInt ≤ 2147483647) := ⟨i32_lo _, i32_hi _⟩
    refine tk_SiP (As := [.int x_146]) (rest := [.ref a_10]) (n := 1) hx hb hml hown hU hN hZ (s_X5_holding l (dC, dI) cI cL cZ cR cG cH Z kd L f hG x_146) wd_843 wd_844 wd_102 wd_845 (by decide +kernel) ⟨Nat.le_of_ble_eq_true rfl, Nat.le_of_ble_eq_true rfl⟩ hK hP hD hS rfl hl.1 rfl (Nat.le_of_ble_eq_true rfl) dX8_advance_33 ⟨Nat.le_of_ble_eq_true rfl, Nat.le_of_ble_eq_true rfl⟩ (fun x_147 f_148 H locs hw hP hD hS => ?_)
    obtain ⟨rfl, bx_147⟩ := hw
    obtain ⟨g_151, hfo_150, hbg_151⟩ := un_503 (hG _ ma_10) ka_10
    refine tk_ildP hx hb hK hP 0 ma_10 hfo_150 rfl (vp_in_iff.mpr (by constructor <;> omega)) dX8_advance_36 ?_
    refine lv_topi (fun x_152 ex_152 => ?_)
    have bx_152 : ((-2147483648) ≤ x_152.toInt ∧ x_152.toInt ≤ 2147483647) := ⟨i32_lo _, i32_hi _⟩
    exact hcut_19 x_152 (by constructor <;> omega) _ _ hP hS ls (lv_sub hl [0, 1, 2, 3, 4, 5] rfl)
  · skip
    rw [← Int32.toInt_inj, ti_0] at c_137
    refine lv_iconst (v := 0) hx hb dX8_advance_19 (by decide) ?_
    refine lv_goto (tgt := 37) hx hb dX8_advance_20 (by decide) ?_
    exact hcut_19 0 (by decide) _ _ hP hS ls (lv_sub hl [0, 1, 2, 3, 4, 5] rfl)
set_option maxHeartbeats 8000000 in
set_option maxRecDepth 100000 in
theorem s_X8_step_k8_k7 (l : Launch) (D : va_G) (cI cL cZ cR cG cH : ClassId) (Z : zT) (kd : Nat → Nat) (L : List Nat) (f : Nat → va_E) (hG : GI (okc cI cL cZ cR cG cH L kd) kd L f) (o0 : Nat) (mo0 : o0 ∈ L) (ko0 : kd o0 = 8) (o1 : Nat) (mo1 : o1 ∈ L) (ko1 : kd o1 = 7) (p2 : Int32) (p3 : Int32) (bp3 : (0 ≤ p3.toInt ∧ p3.toInt ≤ 8)) (p4 : Int32) (bp4 : (0 ≤ p4.toInt ∧ p4.toInt ≤ 19)) : mPI l D cI cL cZ cR cG cH Z yX8_step cX8_step 12 (some .int) 2 56 [.ref o0, .ref o1, .int p2, .int p3, .int p4] L f (fun (r : Int32) (f9 : Nat → va_E) => GI (okc cI cL cZ cR cG cH L kd) kd L f9 ∧ (0 ≤ r.toInt ∧ r.toInt ≤ 255) ∧ (∀ b, kd b ≠ 517 → kd b ≠ 518 → kd b ≠ 519 → kd b ≠ 520 → f9 b = f b)) := by
  obtain ⟨dC, dI⟩ := D
  refine Met.ofW (cc := cX8_step) (maxL := 12) (ret := (some .int)) (by decide) rfl ?_
  intro p e s m args below meth c s₁ B hml hv
  obtain ⟨rfl, hP, hK, hD0, hN, hZ⟩ := hv
  have hx := B.exec
  have hb := B.bytes
  have hr := B.returns
  have hU : ∀ w ∈ wsU, w.before _ s = true := fun w h => atoms_spec (ws := wU yX8_step cX8_step 12 (some .int)) B.pre w (List.mem_cons_of_mem _ h)
  have hown : s.vm.findClass RX8 = some m.cls := findClass_of_methodNamed B.named
  have hlocks := B.notSynchronized
  have hD := pl_in hD0
  have hS : va_S (fun q => q ∈ L) s.heap s.heap [] := va_S.rf
  have hl := lv_entry ([.ref o0, .ref o1, .int p2, .int p3, .int p4]) (n := 12) (Nat.le_of_ble_eq_true rfl)
  rw [lg_entry_eq]
  generalize (lg_sl ([.ref o0, .ref o1, .int p2, .int p3, .int p4]) ++ List.replicate (12 - (lg_sl ([.ref o0, .ref o1, .int p2, .int p3, .int p4])).length) Slot.unset).toArray = ls at hl ⊢
  have hl : lv_has ls 12 [(0, .ref o0), (1, .ref o1), (2, .int p2), (3, .int p3), (4, .int p4)] := hl
  have bp2 : ((-2147483648) ≤ p2.toInt ∧ p2.toInt ≤ 2147483647) := ⟨i32_lo _, i32_hi _⟩
  have hfr0 : ∀ b, kd b ≠ 517 → kd b ≠ 518 → kd b ≠ 519 → kd b ≠ 520 → f b = f b := fun _ _ _ _ _ => rfl
  refine lv_aload_n hx hb dX8_step_0 rfl (lv_at hl 0 rfl) ?_
  obtain ⟨a_2, a_3, a_4, a_5, a_6, hfo_1, ⟨ma_2, ka_2⟩, ⟨ma_3, ka_3⟩, ⟨ma_4, ka_4⟩, ⟨ma_5, ka_5⟩, ⟨ma_6, ka_6⟩⟩ := un_8 (hG _ mo0) ko0
  refine tk_getP (D := (dC, dI)) (ci := 8) (v := .ref a_6) (C := RX8) (T := TX8) (N := 5) hx hb hU inlX8 hown hK hP mo0 hfo_1 rfl 4 (by decide) (hU _ wd_124) (fun _ h9 => h9) rfl dX8_step_1 ?_
  refine lv_iload_n hx hb dX8_step_4 rfl (lv_at hl 3 rfl) ?_
  obtain ⟨g_8, hfo_7, hbg_8⟩ := un_520 (hG _ ma_6) ka_6
  refine tk_ildP hx hb hK hP 0 ma_6 hfo_7 rfl (vp_in_iff.mpr (by constructor <;> omega)) dX8_step_5 ?_
  refine lv_topi (fun x_9 ex_9 => ?_)
  have bx_9 : (0 ≤ x_9.toInt ∧ x_9.toInt ≤ 255) := by rw [ex_9]; exact hbg_8 _
  refine lv_istore (lv' := [(5, .int x_9), (0, .ref o0), (1, .ref o1), (2, .int p2), (3, .int p3), (4, .int p4)]) hx hb dX8_step_6 hl (by decide) rfl (fun ls hl => ?_)
  refine lv_iload_n hx hb dX8_step_8 rfl (lv_at hl 3 rfl) ?_
  refine lv_iload hx hb dX8_step_9 (lv_at hl 0 rfl) ?_
  refine lv_iconst (v := (-1)) hx hb dX8_step_11 (by decide) ?_
  refine lv_ixor hx hb dX8_step_12 ?_
  refine lv_topi (fun x_10 ex_10 => ?_)
  have bx_10 : ((-2147483648) ≤ x_10.toInt ∧ x_10.toInt ≤ 2147483647) := ⟨i32_lo _, i32_hi _⟩
  refine lv_iand hx hb dX8_step_13 ?_
  refine lv_topi (fun x_11 ex_11 => ?_)
  have bx_11 : ((-2147483648) ≤ x_11.toInt ∧ x_11.toInt ≤ 2147483647) := ⟨i32_lo _, i32_hi _⟩
  refine lv_istore (lv' := [(6, .int x_11), (5, .int x_9), (0, .ref o0), (1, .ref o1), (2, .int p2), (3, .int p3), (4, .int p4)]) hx hb dX8_step_14 hl (by decide) rfl (fun ls hl => ?_)
  refine lv_iload_n hx hb dX8_step_16 rfl (lv_at hl 5 rfl) ?_
  refine lv_bipush (v := 8) hx hb dX8_step_17 (by decide) ?_
  refine lv_imul hx hb dX8_step_19 ?_
  refine lv_topi (fun x_12 ex_12 => ?_)
  have hx_12 : x_12.toInt = p3.toInt * 8 := by rw [ex_12, ml_I (by rw [ti_8]; omega) (by rw [ti_8]; omega), ti_8]
  have bx_12 : (0 ≤ x_12.toInt ∧ x_12.toInt ≤ 64) := by constructor <;> omega
  refine lv_istore (lv' := [(7, .int x_12), (6, .int x_11), (5, .int x_9), (0, .ref o0), (1, .ref o1), (2, .int p2), (3, .int p3), (4, .int p4)]) hx hb dX8_step_20 hl (by decide) rfl (fun ls hl => ?_)
  refine lv_iconst (v := 0) hx hb dX8_step_22 (by decide) ?_
  refine lv_istore (lv' := [(8, .int 0), (7, .int x_12), (6, .int x_11), (5, .int x_9), (0, .ref o0), (1, .ref o1), (2, .int p2), (3, .int p3), (4, .int p4)]) hx hb dX8_step_23 hl (by decide) rfl (fun ls hl => ?_)
  have hloop_34 : ∀ (n : Nat), ∀ (y_35 : Int32), (0 ≤ y_35.toInt ∧ y_35.toInt ≤ 8) → ∀ (y_36 : Int32), (0 ≤ y_36.toInt ∧ y_36.toInt ≤ 255) → ∀ (f_38 : Nat → va_E), GI (okc cI cL cZ cR cG cH L kd) kd L f_38 → ∀ (H : Heap) (locs : List Loc), va_P (dC, dI) vwCl (va_pl L f_38) H → va_S (fun q => q ∈ L) s.heap H locs → va_D (fun q => q ∈ L) (va_pl L f_38) → (∀ b, kd b ≠ 517 → kd b ≠ 518 → kd b ≠ 519 → kd b ≠ 520 → f_38 b = f b) → (f_38 o0 = .inr (8, [.ref a_2, .ref a_3, .ref a_4, .ref a_5, .ref a_6])) → (f_38 a_6 = .inl (cI, 10, .inl g_8)) → 8 - y_35.toInt < (n : Int) → ∀ (ls : Array Slot), lv_has ls 12 [(8, .int y_35), (7, .int x_12), (6, .int x_11), (5, .int y_36), (0, .ref o0), (1, .ref o1), (2, .int p2), (3, .int p3), (4, .int p4)] → W p l e (headSpec (wU yX8_step cX8_step 12 (some .int)) { frames := 2, cells := 0, slots := 0, locals := 56 }).room s m [.ref o0, .ref o1, .int p2, .int p3, .int p4].toArray below meth c H locs 0 0 (MQ below (va_Qi (fun (r : Int32) (f9 : Nat → va_E) => GI (okc cI cL cZ cR cG cH L kd) kd L f9 ∧ (0 ≤ r.toInt ∧ r.toInt ≤ 255) ∧ (∀ b, kd b ≠ 517 → kd b ≠ 518 → kd b ≠ 519 → kd b ≠ 520 → f9 b = f b)) (qP (dC, dI) cI cL cZ cR cG cH L) (fun q => q ∈ L)) [.ref o0, .ref o1, .int p2, .int p3, .int p4].toArray s 0 0 (fun q => q ∈ L)) (F0 m 25 ls []) := by
    intro n
    induction n with
    | zero => intro y_35 by_35 y_36 by_36 f_38 hG H locs hP hS hD hfr0 hfo_39 hfo_40 hmuhloop_34 ls hl; exfalso; omega
    | succ n ih_hloop_34 =>
      intro y_35 by_35 y_36 by_36 f_38 hG H locs hP hS hD hfr0 hfo_39 hfo_40 hmuhloop_34 ls hl
      refine lv_iload hx hb dX8_step_25 (lv_at hl 0 rfl) ?_
      refine lv_bipush (v := 8) hx hb dX8_step_27 (by decide) ?_
      have hcut_41 : ∀ (ls : Array Slot), lv_has ls 12 [(8, .int y_35), (7, .int x_12), (6, .int x_11), (5, .int y_36), (0, .ref o0), (1, .ref o1), (2, .int p2), (3, .int p3), (4, .int p4)] → W p l e (headSpec (wU yX8_step cX8_step 12 (some .int)) { frames := 2, cells := 0, slots := 0, locals := 56 }).room s m [.ref o0, .ref o1, .int p2, .int p3, .int p4].toArray below meth c H locs 0 0 (MQ below (va_Qi (fun (r : Int32) (f9 : Nat → va_E) => GI (okc cI cL cZ cR cG cH L kd) kd L f9 ∧ (0 ≤ r.toInt ∧ r.toInt ≤ 255) ∧ (∀ b, kd b ≠ 517 → kd b ≠ 518 → kd b ≠ 519 → kd b ≠ 520 → f9 b = f b)) (qP (dC, dI) cI cL cZ cR cG cH L) (fun q => q ∈ L)) [.ref o0, .ref o1, .int p2, .int p3, .int p4].toArray s 0 0 (fun q => q ∈ L)) (F0 m 195 ls []) := by
        intro ls hl
        refine lv_aload_n hx hb dX8_step_195 rfl (lv_at hl 4 rfl) ?_
        refine tk_getP (D := (dC, dI)) (ci := 8) (v := .ref a_6) (C := RX8) (T := TX8) (N := 5) hx hb hU inlX8 hown hK hP mo0 hfo_39 rfl 4 (by decide) (hU _ wd_124) (fun _ h9 => h9) rfl dX8_step_196 ?_
        refine lv_iload_n hx hb dX8_step_199 rfl (lv_at hl 7 rfl) ?_
        refine lv_iconst (v := 1) hx hb dX8_step_200 (by decide) ?_
        refine lv_iadd hx hb dX8_step_201 ?_
        refine lv_topi (fun x_42 ex_42 => ?_)
        have hx_42 : x_42.toInt = p3.toInt + 1 := by rw [ex_42, ad_I (by rw [ti_1]; omega) (by rw [ti_1]; omega), ti_1]
        have bx_42 : (1 ≤ x_42.toInt ∧ x_42.toInt ≤ 9) := by constructor <;> omega
        refine lv_iload hx hb dX8_step_202 (lv_at hl 3 rfl) ?_
        refine tk_istP hx hb hK hP hD hS 0 ma_6 hfo_40 rfl (vp_in_iff.mpr (by constructor <;> omega)) dX8_step_204 (fun H locs hP hD hS => ?_)
        obtain ⟨f_44, ef_44⟩ : ∃ y : Nat → va_E, y = va_up f_38 a_6 (.inl (cI, 10, .inl (upd g_8 (Int32.toNatClampNeg x_42) y_36))) := ⟨_, rfl⟩
        have hP : va_P (dC, dI) vwCl (va_pl L f_44) H := by rw [ef_44]; exact hP
        have hD : va_D (fun q => q ∈ L) (va_pl L f_44) := by rw [ef_44]; exact hD
        have hG : GI (okc cI cL cZ cR cG cH L kd) kd L f_44 := by rw [ef_44]; exact hG.set a_6 (mk_520 ka_6 ⟨_, rfl, okI_up hbg_8 (by constructor <;> omega) _⟩)
        have hfo_45 : f_44 o0 = .inr (8, [.ref a_2, .ref a_3, .ref a_4, .ref a_5, .ref a_6]) := by rw [ef_44, up_ne (kd_ne ka_6 ko0 (by decide))]; exact hfo_39
        have hfr0 : ∀ b, kd b ≠ 517 → kd b ≠ 518 → kd b ≠ 519 → kd b ≠ 520 → f_44 b = f b := fun b q517 q518 q519 q520 => (congrFun ef_44 b).trans ((up_ne (fun e9 => q520 (by rw [e9]; exact ka_6))).trans (hfr0 b q517 q518 q519 q520))
        have hfo_46 : f_44 a_6 = .inl (cI, 10, .inl (upd g_8 (Int32.toNatClampNeg x_42) y_36)) := by rw [ef_44]; exact up_self
        refine lv_iload hx hb dX8_step_205 (lv_at hl 3 rfl) ?_
        exact W.iret (v := y_36) hx hb hr (fun t ht hW => ⟨⟨y_36, f_44, rfl, ⟨hG, (by constructor <;> omega), hfr0⟩, by rw [ht]; exact hP, va_K.moved hW.alike hK, pl_in hD⟩, hS.F ht⟩) hS.2.2 dX8_step_207
      refine lv_icmp_ge (tgt := 195) hx hb dX8_step_29 (by decide) (fun c_47 => ?_) (fun c_47 => ?_)
      · skip
        rw [Int32.le_iff_toInt_le, ti_8] at c_47
        exact hcut_41 ls (lv_sub hl [0, 1, 2, 3, 4, 5, 6, 7, 8] rfl)
      · skip
        rw [Int32.le_iff_toInt_le, ti_8] at c_47
        refine lv_iload hx hb dX8_step_32 (lv_at hl 2 rfl) ?_
        refine lv_iload hx hb dX8_step_34 (lv_at hl 0 rfl) ?_
        refine lv_ishr hx hb dX8_step_36 ?_
        refine lv_topi (fun x_48 ex_48 => ?_)
        have bx_48 : ((-2147483648) ≤ x_48.toInt ∧ x_48.toInt ≤ 2147483647) := ⟨i32_lo _, i32_hi _⟩
        refine lv_if_eq (tgt := 195) hx hb dX8_step_37 (by decide) (fun c_49 => ?_) (fun c_49 => ?_)
        · skip
          rw [← Int32.toInt_inj, ti_0] at c_49
          exact hcut_41 ls (lv_sub hl [0, 1, 2, 3, 4, 5, 6, 7, 8] rfl)
        · skip
          rw [← Int32.toInt_inj, ti_0] at c_49
          refine lv_iload hx hb dX8_step_40 (lv_at hl 2 rfl) ?_
          refine lv_iload hx hb dX8_step_42 (lv_at hl 0 rfl) ?_
          refine lv_ishr hx hb dX8_step_44 ?_
          refine lv_topi (fun x_50 ex_50 => ?_)
          have bx_50 : ((-2147483648) ≤ x_50.toInt ∧ x_50.toInt ≤ 2147483647) := ⟨i32_lo _, i32_hi _⟩
          refine lv_iconst (v := 1) hx hb dX8_step_45 (by decide) ?_
          refine lv_iand hx hb dX8_step_46 ?_
          refine lv_topi (fun x_51 ex_51 => ?_)
          have bx_51 : (0 ≤ x_51.toInt ∧ x_51.toInt ≤ 1) := by rw [ex_51]; have h8 := an_C x_50 (m := 1) (by decide); rw [ti_1] at h8; exact h8
          refine lv_iconst (v := 1) hx hb dX8_step_47 (by decide) ?_
          have hcut_57 : ∀ (y_52 : Int32), (0 ≤ y_52.toInt ∧ y_52.toInt ≤ 255) → ∀ (f_54 : Nat → va_E), GI (okc cI cL cZ cR cG cH L kd) kd L f_54 → ∀ (H : Heap) (locs : List Loc), va_P (dC, dI) vwCl (va_pl L f_54) H → va_S (fun q => q ∈ L) s.heap H locs → va_D (fun q => q ∈ L) (va_pl L f_54) → (∀ b, kd b ≠ 517 → kd b ≠ 518 → kd b ≠ 519 → kd b ≠ 520 → f_54 b = f b) → (f_54 o0 = .inr (8, [.ref a_2, .ref a_3, .ref a_4, .ref a_5, .ref a_6])) → (f_54 a_6 = .inl (cI, 10, .inl g_8)) → ∀ (ls : Array Slot), lv_has ls 12 [(8, .int y_35), (7, .int x_12), (6, .int x_11), (5, .int y_52), (0, .ref o0), (1, .ref o1), (2, .int p2), (3, .int p3), (4, .int p4)] → W p l e (headSpec (wU yX8_step cX8_step 12 (some .int)) { frames := 2, cells := 0, slots := 0, locals := 56 }).room s m [.ref o0, .ref o1, .int p2, .int p3, .int p4].toArray below meth c H locs 0 0 (MQ below (va_Qi (fun (r : Int32) (f9 : Nat → va_E) => GI (okc cI cL cZ cR cG cH L kd) kd L f9 ∧ (0 ≤ r.toInt ∧ r.toInt ≤ 255) ∧ (∀ b, kd b ≠ 517 → kd b ≠ 518 → kd b ≠ 519 → kd b ≠ 520 → f9 b = f b)) (qP (dC, dI) cI cL cZ cR cG cH L) (fun q => q ∈ L)) [.ref o0, .ref o1, .int p2, .int p3, .int p4].toArray s 0 0 (fun q => q ∈ L)) (F0 m 189 ls []) := by
            intro y_52 by_52 f_54 hG H locs hP hS hD hfr0 hfo_55 hfo_56 ls hl
            obtain ⟨x_58, ex_58⟩ : ∃ y : Int32, y_35 + 1 = y := ⟨_, rfl⟩
            have hx_58 : x_58.toInt = y_35.toInt + 1 := by rw [← ex_58, ad_I (by rw [ti_1]; omega) (by rw [ti_1]; omega), ti_1]
            have bx_58 : (1 ≤ x_58.toInt ∧ x_58.toInt ≤ 8) := by constructor <;> omega
            refine lv_iinc (v := x_58) (lv' := [(8, .int x_58), (7, .int x_12), (6, .int x_11), (5, .int y_52), (0, .ref o0), (1, .ref o1), (2, .int p2), (3, .int p3), (4, .int p4)]) hx hb dX8_step_189 hl (k := 0) rfl ex_58 (by decide) rfl (fun ls hl => ?_)
            refine lv_goto (tgt := 25) hx hb dX8_step_192 (by decide) ?_
            exact ih_hloop_34 x_58 (by constructor <;> omega) y_52 (by constructor <;> omega) f_54 hG _ _ hP hS hD hfr0 hfo_55 hfo_56 (by omega) ls (lv_sub hl [0, 1, 2, 3, 4, 5, 6, 7, 8] rfl)
          refine lv_icmp_ne (tgt := 189) hx hb dX8_step_48 (by decide) (fun c_59 => ?_) (fun c_59 => ?_)
          · skip
            rw [← Int32.toInt_inj, ti_1] at c_59
            exact hcut_57 y_36 (by constructor <;> omega) f_38 hG _ _ hP hS hD hfr0 hfo_39 hfo_40 ls (lv_sub hl [0, 1, 2, 3, 4, 5, 6, 7, 8] rfl)
          · skip
            rw [← Int32.toInt_inj, ti_1] at c_59
            refine lv_aload_n hx hb dX8_step_51 rfl (lv_at hl 5 rfl) ?_
            obtain ⟨a_61, v_62, a_63, a_64, a_65, a_66, v_67, a_68, a_69, a_70, a_71, a_72, v_73, a_74, a_75, a_76, hfo_60, ⟨ma_61, ka_61⟩, bv_62, ⟨ma_63, ka_63⟩, ⟨ma_64, ka_64⟩, ⟨ma_65, ka_65⟩, ⟨ma_66, ka_66⟩, bv_67, ⟨ma_68, ka_68⟩, ⟨ma_69, ka_69⟩, ⟨ma_70, ka_70⟩, ⟨ma_71, ka_71⟩, ⟨ma_72, ka_72⟩, bv_73, ⟨ma_74, ka_74⟩, ⟨ma_75, ka_75⟩, ⟨ma_76, ka_76⟩⟩ := un_7 (hG _ mo1) ko1
            refine tk_getP (D := (dC, dI)) (ci := 7) (v := .ref a_72) (C := RX7) (T := TX7) (N := 16) hx hb hU inlX7 hown hK hP mo1 hfo_60 rfl 11 (by decide) (hU _ wd_760) (fun _ h9 => h9) rfl dX8_step_52 ?_
            refine lv_iload hx hb dX8_step_55 (lv_at hl 0 rfl) ?_
            obtain ⟨g_78, hfo_77, hbg_78⟩ := un_515 (hG _ ma_72) ka_72
            obtain ⟨a_79, hga_79, ma_79, ka_79⟩ := hbg_78 (Int32.toNatClampNeg y_35) (in_lt (vp_in_iff.mpr (by constructor <;> omega)))
            refine tk_aldP hx hb hK hP 3 ma_72 hfo_77 rfl (vp_in_iff.mpr (by constructor <;> omega)) hga_79 dX8_step_57 ?_
            refine lv_astore (lv' := [(9, .ref a_79), (8, .int y_35), (7, .int x_12), (6, .int x_11), (5, .int y_36), (0, .ref o0), (1, .ref o1), (2, .int p2), (3, .int p3), (4, .int p4)]) hx hb dX8_step_58 hl (by decide) rfl (fun ls hl => ?_)
            refine lv_iload hx hb dX8_step_60 (lv_at hl 2 rfl) ?_
            refine lv_iload hx hb dX8_step_62 (lv_at hl 1 rfl) ?_
            refine lv_iadd hx hb dX8_step_64 ?_
            refine lv_topi (fun x_80 ex_80 => ?_)
            have hx_80 : x_80.toInt = x_12.toInt + y_35.toInt := by rw [ex_80, ad_I (by omega) (by omega)]
            have bx_80 : (0 ≤ x_80.toInt ∧ x_80.toInt ≤ 71) := by constructor <;> omega
            refine lv_bipush (v := 8) hx hb dX8_step_65 (by decide) ?_
            refine lv_iadd hx hb dX8_step_67 ?_
            refine lv_topi (fun x_81 ex_81 => ?_)
            have hx_81 : x_81.toInt = x_80.toInt + 8 := by rw [ex_81, ad_I (by rw [ti_8]; omega) (by rw [ti_8]; omega), ti_8]
            have bx_81 : (8 ≤ x_81.toInt ∧ x_81.toInt ≤ 79) := by constructor <;> omega
            refine lv_istore (lv' := [(10, .int x_81), (9, .ref a_79), (8, .int y_35), (7, .int x_12), (6, .int x_11), (5, .int y_36), (0, .ref o0), (1, .ref o1), (2, .int p2), (3, .int p3), (4, .int p4)]) hx hb dX8_step_68 hl (by decide) rfl (fun ls hl => ?_)
            refine lv_aload_n hx hb dX8_step_70 rfl (lv_at hl 6 rfl) ?_
            refine tk_getP (D := (dC, dI)) (ci := 8) (v := .ref a_2) (C := RX8) (T := TX8) (N := 5) hx hb hU inlX8 hown hK hP mo0 hfo_39 rfl 0 (by decide) (hU _ wd_120) (fun _ h9 => h9) rfl dX8_step_71 ?_
            refine lv_iload hx hb dX8_step_74 (lv_at hl 0 rfl) ?_
            refine lv_aload hx hb dX8_step_76 (lv_at hl 1 rfl) ?_
            obtain ⟨v_83, v_84, v_85, v_86, a_87, a_88, a_89, a_90, v_91, v_92, v_93, hfo_82, bv_83, bv_84, bv_85, bv_86, ⟨ma_87, ka_87⟩, ⟨ma_88, ka_88⟩, ⟨ma_89, ka_89⟩, ⟨ma_90, ka_90⟩⟩ := un_4 (hG _ ma_79) ka_79
            have bv_91 : ((-2147483648) ≤ v_91.toInt ∧ v_91.toInt ≤ 2147483647) := ⟨i32_lo _, i32_hi _⟩
            have bv_92 : ((-2147483648) ≤ v_92.toInt ∧ v_92.toInt ≤ 2147483647) := ⟨i32_lo _, i32_hi _⟩
            have bv_93 : ((-2147483648) ≤ v_93.toInt ∧ v_93.toInt ≤ 2147483647) := ⟨i32_lo _, i32_hi _⟩
            refine tk_getP (D := (dC, dI)) (ci := 4) (v := .ref a_87) (C := RX4) (T := TX4) (N := 11) hx hb hU inlX4 hown hK hP ma_79 hfo_82 rfl 4 (by decide) (hU _ wd_829) (fun _ h9 => h9) rfl dX8_step_78 ?_
            refine lv_aload_n hx hb dX8_step_81 rfl (lv_at hl 6 rfl) ?_
            refine tk_getP (D := (dC, dI)) (ci := 8) (v := .ref a_2) (C := RX8) (T := TX8) (N := 5) hx hb hU inlX8 hown hK hP mo0 hfo_39 rfl 0 (by decide) (hU _ wd_120) (fun _ h9 => h9) rfl dX8_step_82 ?_
            refine lv_iload hx hb dX8_step_85 (lv_at hl 3 rfl) ?_
            refine lv_iload hx hb dX8_step_87 (lv_at hl 2 rfl) ?_
            refine lv_iadd hx hb dX8_step_89 ?_
            refine lv_topi (fun x_94 ex_94 => ?_)
            have hx_94 : x_94.toInt = x_12.toInt + y_35.toInt := by rw [ex_94, ad_I (by omega) (by omega)]
            have bx_94 : (0 ≤ x_94.toInt ∧ x_94.toInt ≤ 71) := by constructor <;> omega
            obtain ⟨g_96, hfo_95, hbg_96⟩ := un_517 (hG _ ma_2) ka_2
            refine tk_ildP hx hb hK hP 0 ma_2 hfo_95 rfl (vp_in_iff.mpr (by constructor <;> omega)) dX8_step_90 ?_
            refine lv_topi (fun x_97 ex_97 => ?_)
            have bx_97 : ((-2147483648) ≤ x_97.toInt ∧ x_97.toInt ≤ 2147483647) := ⟨i32_lo _, i32_hi _⟩
            refine lv_iload hx hb dX8_step_91 (lv_at hl 10 rfl) ?_
            obtain ⟨a_99, a_100, a_101, v_102, v_103, v_104, hfo_98, ⟨ma_99, ka_99⟩, ⟨ma_100, ka_100⟩, ⟨ma_101, ka_101⟩⟩ := un_5 (hG _ ma_87) ka_87
            have bv_102 : ((-2147483648) ≤ v_102.toInt ∧ v_102.toInt ≤ 2147483647) := ⟨i32_lo _, i32_hi _⟩
            have bv_103 : ((-2147483648) ≤ v_103.toInt ∧ v_103.toInt ≤ 2147483647) := ⟨i32_lo _, i32_hi _⟩
            have bv_104 : ((-2147483648) ≤ v_104.toInt ∧ v_104.toInt ≤ 2147483647) := ⟨i32_lo _, i32_hi _⟩
            refine tk_ViP (As := [.int x_97, .int p4]) (rest := [.int x_81, .ref a_2]) (n := 2) hx hb hml hown hU hN hZ (s_X5_step_k5 l (dC, dI) cI cL cZ cR cG cH Z kd L f_38 hG a_87 ma_87 ka_87 x_97 p4 (by constructor <;> omega)) wd_832 wd_833 wd_834 wd_102 wd_835 (by decide +kernel) ⟨Nat.le_of_ble_eq_true rfl, Nat.le_of_ble_eq_true rfl⟩ hK hP hD hS ma_87 hfo_98 5 rfl rfl rfl hl.1 rfl (Nat.le_of_ble_eq_true rfl) dX8_step_93 ⟨Nat.le_of_ble_eq_true rfl, Nat.le_of_ble_eq_true rfl⟩ (fun x_105 f_106 H locs hw hP hD hS => ?_)
            obtain ⟨rfl, bx_105⟩ := hw
            refine lv_aload hx hb dX8_step_96 (lv_at hl 1 rfl) ?_
            refine tk_getP (D := (dC, dI)) (ci := 4) (v := .int v_92) (C := RX4) (T := TX4) (N := 11) hx hb hU inlX4 hown hK hP ma_79 hfo_82 rfl 9 (by decide) (hU _ wd_830) (fun _ h9 => h9) rfl dX8_step_98 ?_
            refine lv_ior hx hb dX8_step_101 ?_
            refine lv_topi (fun x_108 ex_108 => ?_)
            have bx_108 : ((-2147483648) ≤ x_108.toInt ∧ x_108.toInt ≤ 2147483647) := ⟨i32_lo _, i32_hi _⟩
            refine tk_istP hx hb hK hP hD hS 0 ma_2 hfo_95 rfl (vp_in_iff.mpr (by constructor <;> omega)) dX8_step_102 (fun H locs hP hD hS => ?_)
            obtain ⟨f_110, ef_110⟩ : ∃ y : Nat → va_E, y = va_up f_38 a_2 (.inl (cI, 80, .inl (upd g_96 (Int32.toNatClampNeg x_81) x_108))) := ⟨_, rfl⟩
            have hP : va_P (dC, dI) vwCl (va_pl L f_110) H := by rw [ef_110]; exact hP
            have hD : va_D (fun q => q ∈ L) (va_pl L f_110) := by rw [ef_110]; exact hD
            have hG : GI (okc cI cL cZ cR cG cH L kd) kd L f_110 := by rw [ef_110]; exact hG.set a_2 (mk_517 ka_2 ⟨_, rfl, okI_up hbg_96 ⟨i32_lo _, i32_hi _⟩ _⟩)
            have hfo_111 : f_110 o0 = .inr (8, [.ref a_2, .ref a_3, .ref a_4, .ref a_5, .ref a_6]) := by rw [ef_110, up_ne (kd_ne ka_2 ko0 (by decide))]; exact hfo_39
            have hfo_112 : f_110 a_6 = .inl (cI, 10, .inl g_8) := by rw [ef_110, up_ne (kd_ne ka_2 ka_6 (by decide))]; exact hfo_40
            have hfo_113 : f_110 o1 = .inr (7, [.ref a_61, .int v_62, .ref a_63, .ref a_64, .ref a_65, .ref a_66, .int v_67, .ref a_68, .ref a_69, .ref a_70, .ref a_71, .ref a_72, .int v_73, .ref a_74, .ref a_75, .ref a_76]) := by rw [ef_110, up_ne (kd_ne ka_2 ko1 (by decide))]; exact hfo_60
            have hfo_114 : f_110 a_72 = .inl (cR, 8, .inr (.inr (.inr (.inr g_78)))) := by rw [ef_110, up_ne (kd_ne ka_2 ka_72 (by decide))]; exact hfo_77
            have hfo_115 : f_110 a_79 = .inr (4, [.int v_83, .int v_84, .int v_85, .int v_86, .ref a_87, .ref a_88, .ref a_89, .ref a_90, .int v_91, .int v_92, .int v_93]) := by rw [ef_110, up_ne (kd_ne ka_2 ka_79 (by decide))]; exact hfo_82
            have hfo_116 : f_110 a_87 = .inr (5, [.ref a_99, .ref a_100, .ref a_101, .int v_102, .int v_103, .int v_104]) := by rw [ef_110, up_ne (kd_ne ka_2 ka_87 (by decide))]; exact hfo_98
            have hfr0 : ∀ b, kd b ≠ 517 → kd b ≠ 518 → kd b ≠ 519 → kd b ≠ 520 → f_110 b = f b := fun b q517 q518 q519 q520 => (congrFun ef_110 b).trans ((up_ne (fun e9 => q517 (by rw [e9]; exact ka_2))).trans (hfr0 b q517 q518 q519 q520))
            have hfo_117 : f_110 a_2 = .inl (cI, 80, .inl (upd g_96 (Int32.toNatClampNeg x_81) x_108)) := by rw [ef_110]; exact up_self
            refine lv_aload_n hx hb dX8_step_103 rfl (lv_at hl 6 rfl) ?_
            refine tk_getP (D := (dC, dI)) (ci := 8) (v := .ref a_3) (C := RX8) (T := TX8) (N := 5) hx hb hU inlX8 hown hK hP mo0 hfo_111 rfl 1 (by decide) (hU _ wd_121) (fun _ h9 => h9) rfl dX8_step_104 ?_
            refine lv_iload hx hb dX8_step_107 (lv_at hl 0 rfl) ?_
            refine lv_iconst (v := 0) hx hb dX8_step_109 (by decide) ?_
            obtain ⟨g_119, hfo_118, hbg_119⟩ := un_517 (hG _ ma_3) ka_3
            refine tk_istP hx hb hK hP hD hS 0 ma_3 hfo_118 rfl (vp_in_iff.mpr (by constructor <;> omega)) dX8_step_110 (fun H locs hP hD hS => ?_)
            obtain ⟨f_121, ef_121⟩ : ∃ y : Nat → va_E, y = va_up f_110 a_3 (.inl (cI, 80, .inl (upd g_119 (Int32.toNatClampNeg x_81) 0))) := ⟨_, rfl⟩
            have hP : va_P (dC, dI) vwCl (va_pl L f_121) H := by rw [ef_121]; exact hP
            have hD : va_D (fun q => q ∈ L) (va_pl L f_121) := by rw [ef_121]; exact hD
            have hG : GI (okc cI cL cZ cR cG cH L kd) kd L f_121 := by rw [ef_121]; exact hG.set a_3 (mk_517 ka_3 ⟨_, rfl, okI_up hbg_119 ⟨i32_lo _, i32_hi _⟩ _⟩)
            have hfo_122 : f_121 o0 = .inr (8, [.ref a_2, .ref a_3, .ref a_4, .ref a_5, .ref a_6]) := by rw [ef_121, up_ne (kd_ne ka_3 ko0 (by decide))]; exact hfo_111
            have hfo_123 : f_121 a_6 = .inl (cI, 10, .inl g_8) := by rw [ef_121, up_ne (kd_ne ka_3 ka_6 (by decide))]; exact hfo_112
            have hfo_124 : f_121 o1 = .inr (7, [.ref a_61, .int v_62, .ref a_63, .ref a_64, .ref a_65, .ref a_66, .int v_67, .ref a_68, .ref a_69, .ref a_70, .ref a_71, .ref a_72, .int v_73, .ref a_74, .ref a_75, .ref a_76]) := by rw [ef_121, up_ne (kd_ne ka_3 ko1 (by decide))]; exact hfo_113
            have hfo_125 : f_121 a_72 = .inl (cR, 8, .inr (.inr (.inr (.inr g_78)))) := by rw [ef_121, up_ne (kd_ne ka_3 ka_72 (by decide))]; exact hfo_114
            have hfo_126 : f_121 a_79 = .inr (4, [.int v_83, .int v_84, .int v_85, .int v_86, .ref a_87, .ref a_88, .ref a_89, .ref a_90, .int v_91, .int v_92, .int v_93]) := by rw [ef_121, up_ne (kd_ne ka_3 ka_79 (by decide))]; exact hfo_115
            have hfo_127 : f_121 a_87 = .inr (5, [.ref a_99, .ref a_100, .ref a_101, .int v_102, .int v_103, .int v_104]) := by rw [ef_121, up_ne (kd_ne ka_3 ka_87 (by decide))]; exact hfo_116
            have hfr0 : ∀ b, kd b ≠ 517 → kd b ≠ 518 → kd b ≠ 519 → kd b ≠ 520 → f_121 b = f b := fun b q517 q518 q519 q520 => (congrFun ef_121 b).trans ((up_ne (fun e9 => q517 (by rw [e9]; exact ka_3))).trans (hfr0 b q517 q518 q519 q520))
            have hfo_128 : f_121 a_3 = .inl (cI, 80, .inl (upd g_119 (Int32.toNatClampNeg x_81) 0)) := by rw [ef_121]; exact up_self
            refine lv_aload_n hx hb dX8_step_111 rfl (lv_at hl 6 rfl) ?_
            refine tk_getP (D := (dC, dI)) (ci := 8) (v := .ref a_4) (C := RX8) (T := TX8) (N := 5) hx hb hU inlX8 hown hK hP mo0 hfo_122 rfl 2 (by decide) (hU _ wd_122) (fun _ h9 => h9) rfl dX8_step_112 ?_
            refine lv_iload hx hb dX8_step_115 (lv_at hl 0 rfl) ?_
            refine lv_iconst (v := 0) hx hb dX8_step_117 (by decide) ?_
            obtain ⟨g_130, hfo_129, hbg_130⟩ := un_518 (hG _ ma_4) ka_4
            refine tk_istP hx hb hK hP hD hS 0 ma_4 hfo_129 rfl (vp_in_iff.mpr (by constructor <;> omega)) dX8_step_118 (fun H locs hP hD hS => ?_)
            obtain ⟨f_132, ef_132⟩ : ∃ y : Nat → va_E, y = va_up f_121 a_4 (.inl (cI, 80, .inl (upd g_130 (Int32.toNatClampNeg x_81) 0))) := ⟨_, rfl⟩
            have hP : va_P (dC, dI) vwCl (va_pl L f_132) H := by rw [ef_132]; exact hP
            have hD : va_D (fun q => q ∈ L) (va_pl L f_132) := by rw [ef_132]; exact hD
            have hG : GI (okc cI cL cZ cR cG cH L kd) kd L f_132 := by rw [ef_132]; exact hG.set a_4 (mk_518 ka_4 ⟨_, rfl, okI_up hbg_130 (by decide) _⟩)
            have hfo_133 : f_132 o0 = .inr (8, [.ref a_2, .ref a_3, .ref a_4, .ref a_5, .ref a_6]) := by rw [ef_132, up_ne (kd_ne ka_4 ko0 (by decide))]; exact hfo_122
            have hfo_134 : f_132 a_6 = .inl (cI, 10, .inl g_8) := by rw [ef_132, up_ne (kd_ne ka_4 ka_6 (by decide))]; exact hfo_123
            have hfo_135 : f_132 o1 = .inr (7, [.ref a_61, .int v_62, .ref a_63, .ref a_64, .ref a_65, .ref a_66, .int v_67, .ref a_68, .ref a_69, .ref a_70, .ref a_71, .ref a_72, .int v_73, .ref a_74, .ref a_75, .ref a_76]) := by rw [ef_132, up_ne (kd_ne ka_4 ko1 (by decide))]; exact hfo_124
            have hfo_136 : f_132 a_72 = .inl (cR, 8, .inr (.inr (.inr (.inr g_78)))) := by rw [ef_132, up_ne (kd_ne ka_4 ka_72 (by decide))]; exact hfo_125
            have hfo_137 : f_132 a_79 = .inr (4, [.int v_83, .int v_84, .int v_85, .int v_86, .ref a_87, .ref a_88, .ref a_89, .ref a_90, .int v_91, .int v_92, .int v_93]) := by rw [ef_132, up_ne (kd_ne ka_4 ka_79 (by decide))]; exact hfo_126
            have hfo_138 : f_132 a_87 = .inr (5, [.ref a_99, .ref a_100, .ref a_101, .int v_102, .int v_103, .int v_104]) := by rw [ef_132, up_ne (kd_ne ka_4 ka_87 (by decide))]; exact hfo_127
            have hfr0 : ∀ b, kd b ≠ 517 → kd b ≠ 518 → kd b ≠ 519 → kd b ≠ 520 → f_132 b = f b := fun b q517 q518 q519 q520 => (congrFun ef_132 b).trans ((up_ne (fun e9 => q518 (by rw [e9]; exact ka_4))).trans (hfr0 b q517 q518 q519 q520))
            have hfo_139 : f_132 a_4 = .inl (cI, 80, .inl (upd g_130 (Int32.toNatClampNeg x_81) 0)) := by rw [ef_132]; exact up_self
            refine lv_aload hx hb dX8_step_119 (lv_at hl 1 rfl) ?_
            refine tk_getP (D := (dC, dI)) (ci := 4) (v := .ref a_89) (C := RX4) (T := TX4) (N := 11) hx hb hU inlX4 hown hK hP ma_79 hfo_137 rfl 6 (by decide) (hU _ wd_831) (fun _ h9 => h9) rfl dX8_step_121 ?_
            refine lv_iload hx hb dX8_step_124 (lv_at hl 10 rfl) ?_
            obtain ⟨g_141, hfo_140, hbg_141⟩ := un_502 (hG _ ma_89) ka_89
            refine tk_ildP hx hb hK hP 0 ma_89 hfo_140 rfl (vp_in_iff.mpr (by constructor <;> omega)) dX8_step_126 ?_
            refine lv_topi (fun x_142 ex_142 => ?_)
            have bx_142 : (0 ≤ x_142.toInt ∧ x_142.toInt ≤ 2) := by rw [ex_142]; exact hbg_141 _
            refine lv_aload_n hx hb dX8_step_127 rfl (lv_at hl 6 rfl) ?_
            refine tk_getP (D := (dC, dI)) (ci := 8) (v := .ref a_3) (C := RX8) (T := TX8) (N := 5) hx hb hU inlX8 hown hK hP mo0 hfo_133 rfl 1 (by decide) (hU _ wd_121) (fun _ h9 => h9) rfl dX8_step_128 ?_
            refine lv_iload hx hb dX8_step_131 (lv_at hl 3 rfl) ?_
            refine lv_iload hx hb dX8_step_133 (lv_at hl 2 rfl) ?_
            refine lv_iadd hx hb dX8_step_135 ?_
            refine lv_topi (fun x_143 ex_143 => ?_)
            have hx_143 : x_143.toInt = x_12.toInt + y_35.toInt := by rw [ex_143, ad_I (by omega) (by omega)]
            have bx_143 : (0 ≤ x_143.toInt ∧ x_143.toInt ≤ 71) := by constructor <;> omega
            obtain ⟨g_145, hfo_144, hbg_145⟩ := un_517 (hG _ ma_3) ka_3
            refine tk_ildP hx hb hK hP 0 ma_3 hfo_144 rfl (vp_in_iff.mpr (by constructor <;> omega)) dX8_step_136 ?_
            refine lv_topi (fun x_146 ex_146 => ?_)
            have bx_146 : ((-2147483648) ≤ x_146.toInt ∧ x_146.toInt ≤ 2147483647) := ⟨i32_lo _, i32_hi _⟩
            refine lv_ior hx hb dX8_step_137 ?_
            refine lv_topi (fun x_147 ex_147 => ?_)
            have bx_147 : ((-2147483648) ≤ x_147.toInt ∧ x_147.toInt ≤ 2147483647) := ⟨i32_lo _, i32_hi _⟩
            refine lv_aload_n hx hb dX8_step_138 rfl (lv_at hl 6 rfl) ?_
            refine tk_getP (D := (dC, dI)) (ci := 8) (v := .ref a_4) (C := RX8) (T := TX8) (N := 5) hx hb hU inlX8 hown hK hP mo0 hfo_133 rfl 2 (by decide) (hU _ wd_122) (fun _ h9 => h9) rfl dX8_step_139 ?_
            refine lv_iload hx hb dX8_step_142 (lv_at hl 3 rfl) ?_
            refine lv_iload hx hb dX8_step_144 (lv_at hl 2 rfl) ?_
            refine lv_iadd hx hb dX8_step_146 ?_
            refine lv_topi (fun x_148 ex_148 => ?_)
            have hx_148 : x_148.toInt = x_12.toInt + y_35.toInt := by rw [ex_148, ad_I (by omega) (by omega)]
            have bx_148 : (0 ≤ x_148.toInt ∧ x_148.toInt ≤ 71) := by constructor <;> omega
            obtain ⟨g_150, hfo_149, hbg_150⟩ := un_518 (hG _ ma_4) ka_4
            refine tk_ildP hx hb hK hP 0 ma_4 hfo_149 rfl (vp_in_iff.mpr (by constructor <;> omega)) dX8_step_147 ?_
            refine lv_topi (fun x_151 ex_151 => ?_)
            have bx_151 : (0 ≤ x_151.toInt ∧ x_151.toInt ≤ 10) := by rw [ex_151]; exact hbg_150 _
            refine lv_ior hx hb dX8_step_148 ?_
            refine lv_topi (fun x_152 ex_152 => ?_)
            have bx_152 : ((-2147483648) ≤ x_152.toInt ∧ x_152.toInt ≤ 2147483647) := ⟨i32_lo _, i32_hi _⟩
            have hcut_154 : ∀ (y_153 : Int32), (0 ≤ y_153.toInt ∧ y_153.toInt ≤ 1) → ∀ (ls : Array Slot), lv_has ls 12 [(10, .int x_81), (9, .ref a_79), (8, .int y_35), (7, .int x_12), (6, .int x_11), (5, .int y_36), (0, .ref o0), (1, .ref o1), (2, .int p2), (3, .int p3), (4, .int p4)] → W p l e (headSpec (wU yX8_step cX8_step 12 (some .int)) { frames := 2, cells := 0, slots := 0, locals := 56 }).room s m [.ref o0, .ref o1, .int p2, .int p3, .int p4].toArray below meth c H locs 0 0 (MQ below (va_Qi (fun (r : Int32) (f9 : Nat → va_E) => GI (okc cI cL cZ cR cG cH L kd) kd L f9 ∧ (0 ≤ r.toInt ∧ r.toInt ≤ 255) ∧ (∀ b, kd b ≠ 517 → kd b ≠ 518 → kd b ≠ 519 → kd b ≠ 520 → f9 b = f b)) (qP (dC, dI) cI cL cZ cR cG cH L) (fun q => q ∈ L)) [.ref o0, .ref o1, .int p2, .int p3, .int p4].toArray s 0 0 (fun q => q ∈ L)) (F0 m 157 ls [.int y_153]) := by
              intro y_153 by_153 ls hl
              refine lv_istore (lv' := [(11, .int y_153), (10, .int x_81), (9, .ref a_79), (8, .int y_35), (7, .int x_12), (6, .int x_11), (5, .int y_36), (0, .ref o0), (1, .ref o1), (2, .int p2), (3, .int p3), (4, .int p4)]) hx hb dX8_step_157 hl (by decide) rfl (fun ls hl => ?_)
              refine lv_iload hx hb dX8_step_159 (lv_at hl 0 rfl) ?_
              refine lv_if_ne (tgt := 189) hx hb dX8_step_161 (by decide) (fun c_155 => ?_) (fun c_155 => ?_)
              · skip
                rw [← Int32.toInt_inj, ti_0] at c_155
                exact hcut_57 y_36 (by constructor <;> omega) f_132 hG _ _ hP hS hD hfr0 hfo_133 hfo_134 ls (lv_sub hl [3, 4, 5, 6, 7, 8, 9, 10, 11] rfl)
              · skip
                rw [← Int32.toInt_inj, ti_0] at c_155
                refine lv_aload_n hx hb dX8_step_164 rfl (lv_at hl 7 rfl) ?_
                refine lv_aload hx hb dX8_step_165 (lv_at hl 2 rfl) ?_
                refine lv_iload hx hb dX8_step_167 (lv_at hl 4 rfl) ?_
                refine lv_iload hx hb dX8_step_169 (lv_at hl 3 rfl) ?_
                refine lv_iadd hx hb dX8_step_171 ?_
                refine lv_topi (fun x_156 ex_156 => ?_)
                have hx_156 : x_156.toInt = x_12.toInt + y_35.toInt := by rw [ex_156, ad_I (by omega) (by omega)]
                have bx_156 : (0 ≤ x_156.toInt ∧ x_156.toInt ≤ 71) := by constructor <;> omega
                refine lv_iload hx hb dX8_step_172 (lv_at hl 11 rfl) ?_
                refine tk_ViP (As := [.ref a_79, .int x_156, .int p4]) (rest := []) (n := 3) hx hb hml hown hU hN hZ (s_X8_advance_k8_k4 l (dC, dI) cI cL cZ cR cG cH Z kd L f_132 hG o0 mo0 ko0 a_79 ma_79 ka_79 x_156 (by constructor <;> omega) p4 (by constructor <;> omega)) wd_836 wd_837 wd_838 wd_55 wd_839 (by decide +kernel) ⟨Nat.le_of_ble_eq_true rfl, Nat.le_of_ble_eq_true rfl⟩ hK hP hD hS mo0 hfo_133 8 rfl rfl rfl hl.1 rfl (Nat.le_of_ble_eq_true rfl) dX8_step_174 ⟨Nat.le_of_ble_eq_true rfl, Nat.le_of_ble_eq_true rfl⟩ (fun x_157 f_158 H locs hw hP hD hS => ?_)
                obtain ⟨hG, bx_157, hkc_159⟩ := hw
                have hfo_161 : f_158 o0 = .inr (8, [.ref a_2, .ref a_3, .ref a_4, .ref a_5, .ref a_6]) := by rw [hkc_159 o0 (by rw [ko0]; decide) (by rw [ko0]; decide) (by rw [ko0]; decide)]; exact hfo_133
                have hfo_162 : f_158 a_6 = .inl (cI, 10, .inl g_8) := by rw [hkc_159 a_6 (by rw [ka_6]; decide) (by rw [ka_6]; decide) (by rw [ka_6]; decide)]; exact hfo_134
                have hfo_163 : f_158 o1 = .inr (7, [.ref a_61, .int v_62, .ref a_63, .ref a_64, .ref a_65, .ref a_66, .int v_67, .ref a_68, .ref a_69, .ref a_70, .ref a_71, .ref a_72, .int v_73, .ref a_74, .ref a_75, .ref a_76]) := by rw [hkc_159 o1 (by rw [ko1]; decide) (by rw [ko1]; decide) (by rw [ko1]; decide)]; exact hfo_135
                have hfo_164 : f_158 a_72 = .inl (cR, 8, .inr (.inr (.inr (.inr g_78)))) := by rw [hkc_159 a_72 (by rw [ka_72]; decide) (by rw [ka_72]; decide) (by rw [ka_72]; decide)]; exact hfo_136
                have hfo_165 : f_158 a_79 = .inr (4, [.int v_83, .int v_84, .int v_85, .int v_86, .ref a_87, .ref a_88, .ref a_89, .ref a_90, .int v_91, .int v_92, .int v_93]) := by rw [hkc_159 a_79 (by rw [ka_79]; decide) (by rw [ka_79]; decide) (by rw [ka_79]; decide)]; exact hfo_137
                have hfo_166 : f_158 a_87 = .inr (5, [.ref a_99, .ref a_100, .ref a_101, .int v_102, .int v_103, .int v_104]) := by rw [hkc_159 a_87 (by rw [ka_87]; decide) (by rw [ka_87]; decide) (by rw [ka_87]; decide)]; exact hfo_138
                have hfo_167 : f_158 a_89 = .inl (cI, 20, .inl g_141) := by rw [hkc_159 a_89 (by rw [ka_89]; decide) (by rw [ka_89]; decide) (by rw [ka_89]; decide)]; exact hfo_140
                have hfr0 : ∀ b, kd b ≠ 517 → kd b ≠ 518 → kd b ≠ 519 → kd b ≠ 520 → f_158 b = f b := fun b q517 q518 q519 q520 => (hkc_159 b q517 q518 q519).trans (hfr0 b q517 q518 q519 q520)
                refine lv_if_eq (tgt := 189) hx hb dX8_step_177 (by decide) (fun c_168 => ?_) (fun c_168 => ?_)
                · skip
                  rw [← Int32.toInt_inj, ti_0] at c_168
                  exact hcut_57 y_36 (by constructor <;> omega) f_158 hG _ _ hP hS hD hfr0 hfo_161 hfo_162 ls (lv_sub hl [3, 4, 5, 6, 7, 8, 9, 10, 11] rfl)
                · skip
                  rw [← Int32.toInt_inj, ti_0] at c_168
                  refine lv_iload hx hb dX8_step_180 (lv_at hl 6 rfl) ?_
                  refine lv_iconst (v := 1) hx hb dX8_step_182 (by decide) ?_
                  refine lv_iload hx hb dX8_step_183 (lv_at hl 3 rfl) ?_
                  refine lv_ishl hx hb dX8_step_185 ?_
                  refine lv_topi (fun x_169 ex_169 => ?_)
                  have bx_169 : (1 ≤ x_169.toInt ∧ x_169.toInt ≤ 128) := by rw [ex_169]; exact sh_7 (by constructor <;> omega)
                  refine lv_ior hx hb dX8_step_186 ?_
                  refine lv_topi (fun x_170 ex_170 => ?_)
                  have bx_170 : (0 ≤ x_170.toInt ∧ x_170.toInt ≤ 255) := by rw [ex_170]; exact or_K 8 (by decide) (by constructor <;> omega) (by constructor <;> omega)
                  refine lv_istore (lv' := [(5, .int x_170), (11, .int y_153), (10, .int x_81), (9, .ref a_79), (8, .int y_35), (7, .int x_12), (6, .int x_11), (0, .ref o0), (1, .ref o1), (2, .int p2), (3, .int p3), (4, .int p4)]) hx hb dX8_step_187 hl (by decide) rfl (fun ls hl => ?_)
                  exact hcut_57 x_170 (by constructor <;> omega) f_158 hG _ _ hP hS hD hfr0 hfo_161 hfo_162 ls (lv_sub hl [4, 5, 6, 0, 7, 8, 9, 10, 11] rfl)
            refine lv_if_ne (tgt := 156) hx hb dX8_step_149 (by decide) (fun c_171 => ?_) (fun c_171 => ?_)
            · skip
              rw [← Int32.toInt_inj, ti_0] at c_171
              refine lv_iconst (v := 0) hx hb dX8_step_156 (by decide) ?_
              exact hcut_154 0 (by decide) ls (lv_sub hl [0, 1, 2, 3, 4, 5, 6, 7, 8, 9, 10] rfl)
            · skip
              rw [← Int32.toInt_inj, ti_0] at c_171
              refine lv_iconst (v := 1) hx hb dX8_step_152 (by decide) ?_
              refine lv_goto (tgt := 157) hx hb dX8_step_153 (by decide) ?_
              exact hcut_154 1 (by decide) ls (lv_sub hl [0, 1, 2, 3, 4, 5, 6, 7, 8, 9, 10] rfl)
  exact hloop_34 9 0 (by decide) x_9 (by constructor <;> omega) f hG _ _ hP hS hD hfr0 hfo_1 hfo_7 (by (try rw [ti_0]) <;> omega) ls hl
