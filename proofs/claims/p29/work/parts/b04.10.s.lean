set_option maxHeartbeats 8000000 in
set_option maxRecDepth 100000 in
theorem s_X8_writeTo_k8_a523_c1 (l : Launch) (D : va_G) (cI cL cZ cR cG cH : ClassId) (Z : zT) (kd : Nat → Nat) (L : List Nat) (f : Nat → va_E) (hG : GI (okc cI cL cZ cR cG cH L kd) kd L f) (o0 : Nat) (mo0 : o0 ∈ L) (ko0 : kd o0 = 8) (o1 : Nat) (mo1 : o1 ∈ L) (ko1 : kd o1 = 523) (p3 : Int32) (p4 : Int32) (bp4 : (0 ≤ p4.toInt ∧ p4.toInt ≤ 9)) : mPI l D cI cL cZ cR cG cH Z yX8_writeTo cX8_writeTo 11 (some .int) 0 0 [.ref o0, .ref o1, .int 1, .int p3, .int p4] L f (fun (r : Int32) (f9 : Nat → va_E) => GI (okc cI cL cZ cR cG cH L kd) kd L f9 ∧ (0 ≤ r.toInt ∧ r.toInt ≤ 89) ∧ (∀ b, kd b ≠ 523 → f9 b = f b)) := by
  obtain ⟨dC, dI⟩ := D
  refine Met.ofW (cc := cX8_writeTo) (maxL := 11) (ret := (some .int)) (by decide) rfl ?_
  intro p e s m args below meth c s₁ B hml hv
  obtain ⟨rfl, hP, hK, hD0, hN, hZ⟩ := hv
  have hx := B.exec
  have hb := B.bytes
  have hr := B.returns
  have hU : ∀ w ∈ wsU, w.before _ s = true := fun w h => atoms_spec (ws := wU yX8_writeTo cX8_writeTo 11 (some .int)) B.pre w (List.mem_cons_of_mem _ h)
  have hown : s.vm.findClass RX8 = some m.cls := findClass_of_methodNamed B.named
  have hlocks := B.notSynchronized
  have hD := pl_in hD0
  have hS : va_S (fun q => q ∈ L) s.heap s.heap [] := va_S.rf
  have hl := lv_entry ([.ref o0, .ref o1, .int 1, .int p3, .int p4]) (n := 11) (Nat.le_of_ble_eq_true rfl)
  rw [lg_entry_eq]
  generalize (lg_sl ([.ref o0, .ref o1, .int 1, .int p3, .int p4]) ++ List.replicate (11 - (lg_sl ([.ref o0, .ref o1, .int 1, .int p3, .int p4])).length) Slot.unset).toArray = ls at hl ⊢
  have hl : lv_has ls 11 [(0, .ref o0), (1, .ref o1), (2, .int 1), (3, .int p3), (4, .int p4)] := hl
  have bp3 : ((-2147483648) ≤ p3.toInt ∧ p3.toInt ≤ 2147483647) := ⟨i32_lo _, i32_hi _⟩
  have hfr0 : ∀ b, kd b ≠ 523 → f b = f b := fun _ _ => rfl
  refine lv_iload_n hx hb dX8_writeTo_0 rfl (lv_at hl 2 rfl) ?_
  refine lv_istore (lv' := [(5, .int 1), (0, .ref o0), (1, .ref o1), (2, .int 1), (3, .int p3), (4, .int p4)]) hx hb dX8_writeTo_1 hl (by decide) rfl (fun ls hl => ?_)
  refine lv_iconst (v := 0) hx hb dX8_writeTo_3 (by decide) ?_
  refine lv_istore (lv' := [(6, .int 0), (5, .int 1), (0, .ref o0), (1, .ref o1), (2, .int 1), (3, .int p3), (4, .int p4)]) hx hb dX8_writeTo_4 hl (by decide) rfl (fun ls hl => ?_)
  have hloop_16 : ∀ (n : Nat), ∀ (y_17 : Int32), (0 ≤ y_17.toInt ∧ y_17.toInt ≤ 8) → ∀ (y_18 : Int32), (1 ≤ y_18.toInt ∧ y_18.toInt ≤ 89) → ∀ (f_20 : Nat → va_E), GI (okc cI cL cZ cR cG cH L kd) kd L f_20 → ∀ (H : Heap) (locs : List Loc), va_P (dC, dI) vwCl (va_pl L f_20) H → va_S (fun q => q ∈ L) s.heap H locs → va_D (fun q => q ∈ L) (va_pl L f_20) → (∀ b, kd b ≠ 523 → f_20 b = f b) → (y_18.toInt ≤ 1 + 11 * y_17.toInt) → 8 - y_17.toInt < (n : Int) → ∀ (ls : Array Slot), lv_has ls 11 [(6, .int y_17), (5, .int y_18), (0, .ref o0), (1, .ref o1), (2, .int 1), (3, .int p3), (4, .int p4)] → W p l e (headSpec (wU yX8_writeTo cX8_writeTo 11 (some .int)) { frames := 0, cells := 0, slots := 0, locals := 0 }).room s m [.ref o0, .ref o1, .int 1, .int p3, .int p4].toArray below meth c H locs 0 0 (MQ below (va_Qi (fun (r : Int32) (f9 : Nat → va_E) => GI (okc cI cL cZ cR cG cH L kd) kd L f9 ∧ (0 ≤ r.toInt ∧ r.toInt ≤ 89) ∧ (∀ b, kd b ≠ 523 → f9 b = f b)) (qP (dC, dI) cI cL cZ cR cG cH L) (fun q => q ∈ L)) [.ref o0, .ref o1, .int 1, .int p3, .int p4].toArray s 0 0 (fun q => q ∈ L)) (F0 m 6 ls []) := by
    intro n
    induction n with
    | zero => intro y_17 by_17 y_18 by_18 f_20 hG H locs hP hS hD hfr0 hrelhloop_16_0 hmuhloop_16 ls hl; exfalso; omega
    | succ n ih_hloop_16 =>
      intro y_17 by_17 y_18 by_18 f_20 hG H locs hP hS hD hfr0 hrelhloop_16_0 hmuhloop_16 ls hl
      refine lv_iload hx hb dX8_writeTo_6 (lv_at hl 0 rfl) ?_
      refine lv_bipush (v := 8) hx hb dX8_writeTo_8 (by decide) ?_
      refine lv_icmp_ge (tgt := 124) hx hb dX8_writeTo_10 (by decide) (fun c_21 => ?_) (fun c_21 => ?_)
      · skip
        rw [Int32.le_iff_toInt_le, ti_8] at c_21
        refine lv_iload hx hb dX8_writeTo_124 (lv_at hl 1 rfl) ?_
        exact W.iret (v := y_18) hx hb hr (fun t ht hW => ⟨⟨y_18, f_20, rfl, ⟨hG, (by constructor <;> omega), hfr0⟩, by rw [ht]; exact hP, va_K.moved hW.alike hK, pl_in hD⟩, hS.F ht⟩) hS.2.2 dX8_writeTo_126
      · skip
        rw [Int32.le_iff_toInt_le, ti_8] at c_21
        refine lv_iload_n hx hb dX8_writeTo_13 rfl (lv_at hl 5 rfl) ?_
        refine lv_iload hx hb dX8_writeTo_14 (lv_at hl 0 rfl) ?_
        refine lv_ishr hx hb dX8_writeTo_16 ?_
        refine lv_topi (fun x_22 ex_22 => ?_)
        have bx_22 : ((-2147483648) ≤ x_22.toInt ∧ x_22.toInt ≤ 2147483647) := ⟨i32_lo _, i32_hi _⟩
        refine lv_iconst (v := 1) hx hb dX8_writeTo_17 (by decide) ?_
        refine lv_iand hx hb dX8_writeTo_18 ?_
        refine lv_topi (fun x_23 ex_23 => ?_)
        have bx_23 : (0 ≤ x_23.toInt ∧ x_23.toInt ≤ 1) := by rw [ex_23]; have h8 := an_C x_22 (m := 1) (by decide); rw [ti_1] at h8; exact h8
        refine lv_iconst (v := 1) hx hb dX8_writeTo_19 (by decide) ?_
        have hcut_27 : ∀ (y_24 : Int32), (1 ≤ y_24.toInt ∧ y_24.toInt ≤ 89) → ∀ (f_26 : Nat → va_E), GI (okc cI cL cZ cR cG cH L kd) kd L f_26 → ∀ (H : Heap) (locs : List Loc), va_P (dC, dI) vwCl (va_pl L f_26) H → va_S (fun q => q ∈ L) s.heap H locs → va_D (fun q => q ∈ L) (va_pl L f_26) → (∀ b, kd b ≠ 523 → f_26 b = f b) → (y_24.toInt ≤ 12 + 11 * y_17.toInt) → ∀ (ls : Array Slot), lv_has ls 11 [(6, .int y_17), (5, .int y_24), (0, .ref o0), (1, .ref o1), (2, .int 1), (3, .int p3), (4, .int p4)] → W p l e (headSpec (wU yX8_writeTo cX8_writeTo 11 (some .int)) { frames := 0, cells := 0, slots := 0, locals := 0 }).room s m [.ref o0, .ref o1, .int 1, .int p3, .int p4].toArray below meth c H locs 0 0 (MQ below (va_Qi (fun (r : Int32) (f9 : Nat → va_E) => GI (okc cI cL cZ cR cG cH L kd) kd L f9 ∧ (0 ≤ r.toInt ∧ r.toInt ≤ 89) ∧ (∀ b, kd b ≠ 523 → f9 b = f b)) (qP (dC, dI) cI cL cZ cR cG cH L) (fun q => q ∈ L)) [.ref o0, .ref o1, .int 1, .int p3, .int p4].toArray s 0 0 (fun q => q ∈ L)) (F0 m 118 ls []) := by
          intro y_24 by_24 f_26 hG H locs hP hS hD hfr0 hjhcut_27_0 ls hl
          obtain ⟨x_28, ex_28⟩ : ∃ y : Int32, y_17 + 1 = y := ⟨_, rfl⟩
          have hx_28 : x_28.toInt = y_17.toInt + 1 := by rw [← ex_28, ad_I (by rw [ti_1]; omega) (by rw [ti_1]; omega), ti_1]
          have bx_28 : (1 ≤ x_28.toInt ∧ x_28.toInt ≤ 8) := by constructor <;> omega
          refine lv_iinc (v := x_28) (lv' := [(6, .int x_28), (5, .int y_24), (0, .ref o0), (1, .ref o1), (2, .int 1), (3, .int p3), (4, .int p4)]) hx hb dX8_writeTo_118 hl (k := 0) rfl ex_28 (by decide) rfl (fun ls hl => ?_)
          refine lv_goto (tgt := 6) hx hb dX8_writeTo_121 (by decide) ?_
          exact ih_hloop_16 x_28 (by constructor <;> omega) y_24 (by constructor <;> omega) f_26 hG _ _ hP hS hD hfr0 (by (try rw [ti_1]) <;> omega) (by (try rw [ti_1]) <;> omega) ls (lv_sub hl [0, 1, 2, 3, 4, 5, 6] rfl)
        refine lv_icmp_ne (tgt := 118) hx hb dX8_writeTo_20 (by decide) (fun c_29 => ?_) (fun c_29 => ?_)
        · skip
          rw [← Int32.toInt_inj, ti_1] at c_29
          exact hcut_27 y_18 (by constructor <;> omega) f_20 hG _ _ hP hS hD hfr0 (by (try rw [ti_1]) <;> omega) ls (lv_sub hl [0, 1, 2, 3, 4, 5, 6] rfl)
        · skip
          rw [← Int32.toInt_inj, ti_1] at c_29
          refine lv_iload hx hb dX8_writeTo_23 (lv_at hl 6 rfl) ?_
          refine lv_bipush (v := 8) hx hb dX8_writeTo_25 (by decide) ?_
          refine lv_imul hx hb dX8_writeTo_27 ?_
          refine lv_topi (fun x_30 ex_30 => ?_)
          have hx_30 : x_30.toInt = p4.toInt * 8 := by rw [ex_30, ml_I (by rw [ti_8]; omega) (by rw [ti_8]; omega), ti_8]
          have bx_30 : (0 ≤ x_30.toInt ∧ x_30.toInt ≤ 72) := by constructor <;> omega
          refine lv_iload hx hb dX8_writeTo_28 (lv_at hl 0 rfl) ?_
          refine lv_iadd hx hb dX8_writeTo_30 ?_
          refine lv_topi (fun x_31 ex_31 => ?_)
          have hx_31 : x_31.toInt = x_30.toInt + y_17.toInt := by rw [ex_31, ad_I (by omega) (by omega)]
          have bx_31 : (0 ≤ x_31.toInt ∧ x_31.toInt ≤ 79) := by constructor <;> omega
          refine lv_istore (lv' := [(7, .int x_31), (6, .int y_17), (5, .int y_18), (0, .ref o0), (1, .ref o1), (2, .int 1), (3, .int p3), (4, .int p4)]) hx hb dX8_writeTo_31 hl (by decide) rfl (fun ls hl => ?_)
          refine lv_aload_n hx hb dX8_writeTo_33 rfl (lv_at hl 3 rfl) ?_
          obtain ⟨a_33, a_34, a_35, a_36, a_37, hfo_32, ⟨ma_33, ka_33⟩, ⟨ma_34, ka_34⟩, ⟨ma_35, ka_35⟩, ⟨ma_36, ka_36⟩, ⟨ma_37, ka_37⟩⟩ := un_8 (hG _ mo0) ko0
          refine tk_getP (D := (dC, dI)) (ci := 8) (v := .ref a_34) (C := RX8) (T := TX8) (N := 5) hx hb hU inlX8 hown hK hP mo0 hfo_32 rfl 1 (by decide) (hU _ wd_121) (fun _ h9 => h9) rfl dX8_writeTo_34 ?_
          refine lv_iload hx hb dX8_writeTo_37 (lv_at hl 0 rfl) ?_
          obtain ⟨g_39, hfo_38, hbg_39⟩ := un_517 (hG _ ma_34) ka_34
          refine tk_ildP hx hb hK hP 0 ma_34 hfo_38 rfl (vp_in_iff.mpr (by constructor <;> omega)) dX8_writeTo_39 ?_
          refine lv_topi (fun x_40 ex_40 => ?_)
          have bx_40 : ((-2147483648) ≤ x_40.toInt ∧ x_40.toInt ≤ 2147483647) := ⟨i32_lo _, i32_hi _⟩
          refine lv_i2l hx hb dX8_writeTo_40 rfl ?_
          refine lv_topl (fun j_41 ej_41 => ?_)
          refine lv_bipush (v := 18) hx hb dX8_writeTo_41 (by decide) ?_
          refine lv_lshl hx hb dX8_writeTo_43 rfl ?_
          refine lv_topl (fun j_42 ej_42 => ?_)
          refine lv_aload_n hx hb dX8_writeTo_44 rfl (lv_at hl 3 rfl) ?_
          refine tk_getP (D := (dC, dI)) (ci := 8) (v := .ref a_33) (C := RX8) (T := TX8) (N := 5) hx hb hU inlX8 hown hK hP mo0 hfo_32 rfl 0 (by decide) (hU _ wd_120) (fun _ h9 => h9) rfl dX8_writeTo_45 ?_
          refine lv_iload hx hb dX8_writeTo_48 (lv_at hl 0 rfl) ?_
          obtain ⟨g_44, hfo_43, hbg_44⟩ := un_517 (hG _ ma_33) ka_33
          refine tk_ildP hx hb hK hP 0 ma_33 hfo_43 rfl (vp_in_iff.mpr (by constructor <;> omega)) dX8_writeTo_50 ?_
          refine lv_topi (fun x_45 ex_45 => ?_)
          have bx_45 : ((-2147483648) ≤ x_45.toInt ∧ x_45.toInt ≤ 2147483647) := ⟨i32_lo _, i32_hi _⟩
          refine lv_i2l hx hb dX8_writeTo_51 rfl ?_
          refine lv_topl (fun j_46 ej_46 => ?_)
          refine lv_lor hx hb dX8_writeTo_52 ?_
          refine lv_topl (fun j_47 ej_47 => ?_)
          refine lv_lstore (lv' := [(8, .long j_47), (7, .int x_31), (6, .int y_17), (5, .int y_18), (0, .ref o0), (1, .ref o1), (2, .int 1), (3, .int p3), (4, .int p4)]) hx hb dX8_writeTo_53 hl (by decide) rfl (fun ls hl => ?_)
          refine lv_aload_n hx hb dX8_writeTo_55 rfl (lv_at hl 5 rfl) ?_
          refine lv_iload hx hb dX8_writeTo_56 (lv_at hl 3 rfl) ?_
          refine lv_aload_n hx hb dX8_writeTo_58 rfl (lv_at hl 4 rfl) ?_
          refine tk_getP (D := (dC, dI)) (ci := 8) (v := .ref a_35) (C := RX8) (T := TX8) (N := 5) hx hb hU inlX8 hown hK hP mo0 hfo_32 rfl 2 (by decide) (hU _ wd_122) (fun _ h9 => h9) rfl dX8_writeTo_59 ?_
          refine lv_iload hx hb dX8_writeTo_62 (lv_at hl 1 rfl) ?_
          obtain ⟨g_49, hfo_48, hbg_49⟩ := un_518 (hG _ ma_35) ka_35
          refine tk_ildP hx hb hK hP 0 ma_35 hfo_48 rfl (vp_in_iff.mpr (by constructor <;> omega)) dX8_writeTo_64 ?_
          refine lv_topi (fun x_50 ex_50 => ?_)
          have bx_50 : (0 ≤ x_50.toInt ∧ x_50.toInt ≤ 10) := by rw [ex_50]; exact hbg_49 _
          refine lv_i2l hx hb dX8_writeTo_65 rfl ?_
          refine lv_topl (fun j_51 ej_51 => ?_)
          refine lv_bipush (v := 36) hx hb dX8_writeTo_66 (by decide) ?_
          refine lv_lshl hx hb dX8_writeTo_68 rfl ?_
          refine lv_topl (fun j_52 ej_52 => ?_)
          refine lv_lload hx hb dX8_writeTo_69 (lv_at hl 0 rfl) ?_
          refine lv_lor hx hb dX8_writeTo_71 ?_
          refine lv_topl (fun j_53 ej_53 => ?_)
          obtain ⟨g_55, hfo_54⟩ := un_523 (hG _ mo1) ko1
          refine tk_lstP hx hb hK hP hD hS 1 mo1 hfo_54 rfl (vp_in_iff.mpr (by constructor <;> omega)) dX8_writeTo_72 (fun H locs hP hD hS => ?_)
          obtain ⟨f_57, ef_57⟩ : ∃ y : Nat → va_E, y = va_up f_20 o1 (.inl (cL, 89, .inr (.inl (vp_updL g_55 (Int32.toNatClampNeg y_18) j_53)))) := ⟨_, rfl⟩
          have hP : va_P (dC, dI) vwCl (va_pl L f_57) H := by rw [ef_57]; exact hP
          have hD : va_D (fun q => q ∈ L) (va_pl L f_57) := by rw [ef_57]; exact hD
          have hG : GI (okc cI cL cZ cR cG cH L kd) kd L f_57 := by rw [ef_57]; exact hG.set o1 (mk_523 ko1 ⟨_, rfl⟩)
          have hfo_58 : f_57 o0 = .inr (8, [.ref a_33, .ref a_34, .ref a_35, .ref a_36, .ref a_37]) := by rw [ef_57, up_ne (kd_ne ko1 ko0 (by decide))]; exact hfo_32
          have hfo_59 : f_57 a_34 = .inl (cI, 80, .inl g_39) := by rw [ef_57, up_ne (kd_ne ko1 ka_34 (by decide))]; exact hfo_38
          have hfo_60 : f_57 a_33 = .inl (cI, 80, .inl g_44) := by rw [ef_57, up_ne (kd_ne ko1 ka_33 (by decide))]; exact hfo_43
          have hfo_61 : f_57 a_35 = .inl (cI, 80, .inl g_49) := by rw [ef_57, up_ne (kd_ne ko1 ka_35 (by decide))]; exact hfo_48
          have hfr0 : ∀ b, kd b ≠ 523 → f_57 b = f b := fun b q523 => (congrFun ef_57 b).trans ((up_ne (fun e9 => q523 (by rw [e9]; exact ko1))).trans (hfr0 b q523))
          have hfo_62 : f_57 o1 = .inl (cL, 89, .inr (.inl (vp_updL g_55 (Int32.toNatClampNeg y_18) j_53))) := by rw [ef_57]; exact up_self
          obtain ⟨x_63, ex_63⟩ : ∃ y : Int32, y_18 + 1 = y := ⟨_, rfl⟩
          have hx_63 : x_63.toInt = y_18.toInt + 1 := by rw [← ex_63, ad_I (by rw [ti_1]; omega) (by rw [ti_1]; omega), ti_1]
          have bx_63 : (2 ≤ x_63.toInt ∧ x_63.toInt ≤ 90) := by constructor <;> omega
          refine lv_iinc (v := x_63) (lv' := [(5, .int x_63), (8, .long j_47), (7, .int x_31), (6, .int y_17), (0, .ref o0), (1, .ref o1), (2, .int 1), (3, .int p3), (4, .int p4)]) hx hb dX8_writeTo_73 hl (k := 3) rfl ex_63 (by decide) rfl (fun ls hl => ?_)
          refine lv_iconst (v := 0) hx hb dX8_writeTo_76 (by decide) ?_
          refine lv_istore (lv' := [(10, .int 0), (5, .int x_63), (8, .long j_47), (7, .int x_31), (6, .int y_17), (0, .ref o0), (1, .ref o1), (2, .int 1), (3, .int p3), (4, .int p4)]) hx hb dX8_writeTo_77 hl (by decide) rfl (fun ls hl => ?_)
          have hloop_73 : ∀ (n : Nat), ∀ (y_74 : Int32), (0 ≤ y_74.toInt ∧ y_74.toInt ≤ 10) → ∀ (y_75 : Int32), (2 ≤ y_75.toInt ∧ y_75.toInt ≤ 89) → ∀ (f_77 : Nat → va_E), GI (okc cI cL cZ cR cG cH L kd) kd L f_77 → ∀ (H : Heap) (locs : List Loc), va_P (dC, dI) vwCl (va_pl L f_77) H → va_S (fun q => q ∈ L) s.heap H locs → va_D (fun q => q ∈ L) (va_pl L f_77) → (∀ b, kd b ≠ 523 → f_77 b = f b) → (f_77 o0 = .inr (8, [.ref a_33, .ref a_34, .ref a_35, .ref a_36, .ref a_37])) → (f_77 a_34 = .inl (cI, 80, .inl g_39)) → (f_77 a_33 = .inl (cI, 80, .inl g_44)) → (f_77 a_35 = .inl (cI, 80, .inl g_49)) → (y_75.toInt ≤ 2 + 11 * y_17.toInt + y_74.toInt) → 10 - y_74.toInt < (n : Int) → ∀ (ls : Array Slot), lv_has ls 11 [(10, .int y_74), (5, .int y_75), (8, .long j_47), (7, .int x_31), (6, .int y_17), (0, .ref o0), (1, .ref o1), (2, .int 1), (3, .int p3), (4, .int p4)] → W p l e (headSpec (wU yX8_writeTo cX8_writeTo 11 (some .int)) { frames := 0, cells := 0, slots := 0, locals := 0 }).room s m [.ref o0, .ref o1, .int 1, .int p3, .int p4].toArray below meth c H locs 0 0 (MQ below (va_Qi (fun (r : Int32) (f9 : Nat → va_E) => GI (okc cI cL cZ cR cG cH L kd) kd L f9 ∧ (0 ≤ r.toInt ∧ r.toInt ≤ 89) ∧ (∀ b, kd b ≠ 523 → f9 b = f b)) (qP (dC, dI) cI cL cZ cR cG cH L) (fun q => q ∈ L)) [.ref o0, .ref o1, .int 1, .int p3, .int p4].toArray s 0 0 (fun q => q ∈ L)) (F0 m 79 ls []) := by
            intro n
            induction n with
            | zero => intro y_74 by_74 y_75 by_75 f_77 hG H locs hP hS hD hfr0 hfo_78 hfo_79 hfo_80 hfo_81 hrelhloop_73_0 hmuhloop_73 ls hl; exfalso; omega
            | succ n ih_hloop_73 =>
              intro y_74 by_74 y_75 by_75 f_77 hG H locs hP hS hD hfr0 hfo_78 hfo_79 hfo_80 hfo_81 hrelhloop_73_0 hmuhloop_73 ls hl
              refine lv_iload hx hb dX8_writeTo_79 (lv_at hl 0 rfl) ?_
              refine lv_aload_n hx hb dX8_writeTo_81 rfl (lv_at hl 5 rfl) ?_
              refine tk_getP (D := (dC, dI)) (ci := 8) (v := .ref a_35) (C := RX8) (T := TX8) (N := 5) hx hb hU inlX8 hown hK hP mo0 hfo_78 rfl 2 (by decide) (hU _ wd_122) (fun _ h9 => h9) rfl dX8_writeTo_82 ?_
              refine lv_iload hx hb dX8_writeTo_85 (lv_at hl 3 rfl) ?_
              refine tk_ildP hx hb hK hP 0 ma_35 hfo_81 rfl (vp_in_iff.mpr (by constructor <;> omega)) dX8_writeTo_87 ?_
              refine tk_topi (y := x_50) ex_50.symm ?_
              refine lv_icmp_ge (tgt := 118) hx hb dX8_writeTo_88 (by decide) (fun c_82 => ?_) (fun c_82 => ?_)
              · skip
                rw [Int32.le_iff_toInt_le] at c_82
                exact hcut_27 y_75 (by constructor <;> omega) f_77 hG _ _ hP hS hD hfr0 (by (try rw [ti_1]) <;> omega) ls (lv_sub hl [4, 1, 5, 6, 7, 8, 9] rfl)
              · skip
                rw [Int32.le_iff_toInt_le] at c_82
                refine lv_aload_n hx hb dX8_writeTo_91 rfl (lv_at hl 6 rfl) ?_
                refine lv_iload hx hb dX8_writeTo_92 (lv_at hl 1 rfl) ?_
                refine lv_aload_n hx hb dX8_writeTo_94 rfl (lv_at hl 5 rfl) ?_
                refine tk_getP (D := (dC, dI)) (ci := 8) (v := .ref a_36) (C := RX8) (T := TX8) (N := 5) hx hb hU inlX8 hown hK hP mo0 hfo_78 rfl 3 (by decide) (hU _ wd_123) (fun _ h9 => h9) rfl dX8_writeTo_95 ?_
                refine lv_iload hx hb dX8_writeTo_98 (lv_at hl 3 rfl) ?_
                refine lv_bipush (v := 10) hx hb dX8_writeTo_100 (by decide) ?_
                refine lv_imul hx hb dX8_writeTo_102 ?_
                refine lv_topi (fun x_83 ex_83 => ?_)
                have hx_83 : x_83.toInt = x_31.toInt * 10 := by rw [ex_83, ml_I (by rw [ti_10]; omega) (by rw [ti_10]; omega), ti_10]
                have bx_83 : (0 ≤ x_83.toInt ∧ x_83.toInt ≤ 790) := by constructor <;> omega
                refine lv_iload hx hb dX8_writeTo_103 (lv_at hl 0 rfl) ?_
                refine lv_iadd hx hb dX8_writeTo_105 ?_
                refine lv_topi (fun x_84 ex_84 => ?_)
                have hx_84 : x_84.toInt = x_83.toInt + y_74.toInt := by rw [ex_84, ad_I (by omega) (by omega)]
                have bx_84 : (0 ≤ x_84.toInt ∧ x_84.toInt ≤ 799) := by constructor <;> omega
                obtain ⟨g_86, hfo_85, hbg_86⟩ := un_519 (hG _ ma_36) ka_36
                refine tk_ildP hx hb hK hP 0 ma_36 hfo_85 rfl (vp_in_iff.mpr (by constructor <;> omega)) dX8_writeTo_106 ?_
                refine lv_topi (fun x_87 ex_87 => ?_)
                have bx_87 : ((-2147483648) ≤ x_87.toInt ∧ x_87.toInt ≤ 2147483647) := ⟨i32_lo _, i32_hi _⟩
                refine lv_i2l hx hb dX8_writeTo_107 rfl ?_
                refine lv_topl (fun j_88 ej_88 => ?_)
                obtain ⟨g_90, hfo_89⟩ := un_523 (hG _ mo1) ko1
                refine tk_lstP hx hb hK hP hD hS 1 mo1 hfo_89 rfl (vp_in_iff.mpr (by constructor <;> omega)) dX8_writeTo_108 (fun H locs hP hD hS => ?_)
                obtain ⟨f_92, ef_92⟩ : ∃ y : Nat → va_E, y = va_up f_77 o1 (.inl (cL, 89, .inr (.inl (vp_updL g_90 (Int32.toNatClampNeg y_75) j_88)))) := ⟨_, rfl⟩
                have hP : va_P (dC, dI) vwCl (va_pl L f_92) H := by rw [ef_92]; exact hP
                have hD : va_D (fun q => q ∈ L) (va_pl L f_92) := by rw [ef_92]; exact hD
                have hG : GI (okc cI cL cZ cR cG cH L kd) kd L f_92 := by rw [ef_92]; exact hG.set o1 (mk_523 ko1 ⟨_, rfl⟩)
                have hfo_93 : f_92 o0 = .inr (8, [.ref a_33, .ref a_34, .ref a_35, .ref a_36, .ref a_37]) := by rw [ef_92, up_ne (kd_ne ko1 ko0 (by decide))]; exact hfo_78
                have hfo_94 : f_92 a_34 = .inl (cI, 80, .inl g_39) := by rw [ef_92, up_ne (kd_ne ko1 ka_34 (by decide))]; exact hfo_79
                have hfo_95 : f_92 a_33 = .inl (cI, 80, .inl g_44) := by rw [ef_92, up_ne (kd_ne ko1 ka_33 (by decide))]; exact hfo_80
                have hfo_96 : f_92 a_35 = .inl (cI, 80, .inl g_49) := by rw [ef_92, up_ne (kd_ne ko1 ka_35 (by decide))]; exact hfo_81
                have hfo_97 : f_92 a_36 = .inl (cI, 800, .inl g_86) := by rw [ef_92, up_ne (kd_ne ko1 ka_36 (by decide))]; exact hfo_85
                have hfr0 : ∀ b, kd b ≠ 523 → f_92 b = f b := fun b q523 => (congrFun ef_92 b).trans ((up_ne (fun e9 => q523 (by rw [e9]; exact ko1))).trans (hfr0 b q523))
                have hfo_98 : f_92 o1 = .inl (cL, 89, .inr (.inl (vp_updL g_90 (Int32.toNatClampNeg y_75) j_88))) := by rw [ef_92]; exact up_self
                obtain ⟨x_99, ex_99⟩ : ∃ y : Int32, y_75 + 1 = y := ⟨_, rfl⟩
                have hx_99 : x_99.toInt = y_75.toInt + 1 := by rw [← ex_99, ad_I (by rw [ti_1]; omega) (by rw [ti_1]; omega), ti_1]
                have bx_99 : (3 ≤ x_99.toInt ∧ x_99.toInt ≤ 90) := by constructor <;> omega
                refine lv_iinc (v := x_99) (lv' := [(5, .int x_99), (10, .int y_74), (8, .long j_47), (7, .int x_31), (6, .int y_17), (0, .ref o0), (1, .ref o1), (2, .int 1), (3, .int p3), (4, .int p4)]) hx hb dX8_writeTo_109 hl (k := 1) rfl ex_99 (by decide) rfl (fun ls hl => ?_)
                obtain ⟨x_100, ex_100⟩ : ∃ y : Int32, y_74 + 1 = y := ⟨_, rfl⟩
                have hx_100 : x_100.toInt = y_74.toInt + 1 := by rw [← ex_100, ad_I (by rw [ti_1]; omega) (by rw [ti_1]; omega), ti_1]
                have bx_100 : (1 ≤ x_100.toInt ∧ x_100.toInt ≤ 10) := by constructor <;> omega
                refine lv_iinc (v := x_100) (lv' := [(10, .int x_100), (5, .int x_99), (8, .long j_47), (7, .int x_31), (6, .int y_17), (0, .ref o0), (1, .ref o1), (2, .int 1), (3, .int p3), (4, .int p4)]) hx hb dX8_writeTo_112 hl (k := 1) rfl ex_100 (by decide) rfl (fun ls hl => ?_)
                refine lv_goto (tgt := 79) hx hb dX8_writeTo_115 (by decide) ?_
                exact ih_hloop_73 x_100 (by constructor <;> omega) x_99 (by constructor <;> omega) f_92 hG _ _ hP hS hD hfr0 hfo_93 hfo_94 hfo_95 hfo_96 (by (try rw [ti_1]) <;> omega) (by (try rw [ti_1]) <;> omega) ls (lv_sub hl [0, 1, 2, 3, 4, 5, 6, 7, 8, 9] rfl)
          exact hloop_73 11 0 (by decide) x_63 (by constructor <;> omega) f_57 hG _ _ hP hS hD hfr0 hfo_58 hfo_59 hfo_60 hfo_61 (by (try rw [ti_0]) <;> (try rw [ti_1]) <;> omega) (by (try rw [ti_0]) <;> (try rw [ti_1]) <;> omega) ls hl
  exact hloop_16 9 0 (by decide) 1 (by decide) f hG _ _ hP hS hD hfr0 (by (try rw [ti_0]) <;> (try rw [ti_1]) <;> omega) (by (try rw [ti_0]) <;> (try rw [ti_1]) <;> omega) ls hl
set_option maxHeartbeats 8000000 in
set_option maxRecDepth 100000 in
theorem s_X1_makeKey_k1_k8 (l : Launch) (D : va_G) (cI cL cZ cR cG cH : ClassId) (Z : zT) (kd : Nat → Nat) (L : List Nat) (f : Nat → va_E) (hG : GI (okc cI cL cZ cR cG cH L kd) kd L f) (o0 : Nat) (mo0 : o0 ∈ L) (ko0 : kd o0 = 1) (o1 : Nat) (mo1 : o1 ∈ L) (ko1 : kd o1 = 8) (p2 : Int32) (p3 : Int32) (bp3 : (0 ≤ p3.toInt ∧ p3.toInt ≤ 9)) (p4 : Int32) : mPV l D cI cL cZ cR cG cH Z yX1_makeKey cX1_makeKey 5 none 1 30 [.ref o0, .ref o1, .int p2, .int p3, .int p4] L f (fun (f9 : Nat → va_E) => GI (okc cI cL cZ cR cG cH L kd) kd L f9 ∧ (∀ b, kd b ≠ 1 → kd b ≠ 523 → f9 b = f b) ∧ (∀ b, kd b = 1 → fldI (f9 b) 5 = fldI (f b) 5) ∧ (∀ b, kd b = 1 → fldR (f9 b) 0 = fldR (f b) 0) ∧ (∀ b, kd b = 1 → fldR (f9 b) 1 = fldR (f b) 1)) := by
  obtain ⟨dC, dI⟩ := D
  refine Met.ofW (cc := cX1_makeKey) (maxL := 5) (ret := none) (by decide) rfl ?_
  intro p e s m args below meth c s₁ B hml hv
  obtain ⟨rfl, hP, hK, hD0, hN, hZ⟩ := hv
  have hx := B.exec
  have hb := B.bytes
  have hr := B.returns
  have hU : ∀ w ∈ wsU, w.before _ s = true := fun w h => atoms_spec (ws := wU yX1_makeKey cX1_makeKey 5 none) B.pre w (List.mem_cons_of_mem _ h)
  have hown : s.vm.findClass RX1 = some m.cls := findClass_of_methodNamed B.named
  have hlocks := B.notSynchronized
  have hD := pl_in hD0
  have hS : va_S (fun q => q ∈ L) s.heap s.heap [] := va_S.rf
  have hl := lv_entry ([.ref o0, .ref o1, .int p2, .int p3, .int p4]) (n := 5) (Nat.le_of_ble_eq_true rfl)
  rw [lg_entry_eq]
  generalize (lg_sl ([.ref o0, .ref o1, .int p2, .int p3, .int p4]) ++ List.replicate (5 - (lg_sl ([.ref o0, .ref o1, .int p2, .int p3, .int p4])).length) Slot.unset).toArray = ls at hl ⊢
  have hl : lv_has ls 5 [(0, .ref o0), (1, .ref o1), (2, .int p2), (3, .int p3), (4, .int p4)] := hl
  have bp2 : ((-2147483648) ≤ p2.toInt ∧ p2.toInt ≤ 2147483647) := ⟨i32_lo _, i32_hi _⟩
  have bp4 : ((-2147483648) ≤ p4.toInt ∧ p4.toInt ≤ 2147483647) := ⟨i32_lo _, i32_hi _⟩
  have hfr0 : ∀ b, kd b ≠ 1 → kd b ≠ 523 → f b = f b := fun _ _ _ => rfl
  have hfr1_5 : ∀ b, kd b = 1 → fldI (f b) 5 = fldI (f b) 5 := fun _ _ => rfl
  have hrr1_0 : ∀ b, kd b = 1 → fldR (f b) 0 = fldR (f b) 0 := fun _ _ => rfl
  have hrr1_1 : ∀ b, kd b = 1 → fldR (f b) 1 = fldR (f b) 1 := fun _ _ => rfl
  refine lv_aload_n hx hb dX1_makeKey_0 rfl (lv_at hl 0 rfl) ?_
  obtain ⟨a_2, a_3, a_4, v_5, v_6, v_7, hfo_1, ⟨ma_2, ka_2⟩, ⟨ma_3, ka_3⟩, ⟨ma_4, ka_4⟩, bv_5, bv_6, bv_7⟩ := un_1 (hG _ mo0) ko0
  refine tk_getP (D := (dC, dI)) (ci := 1) (v := .ref a_4) (C := RX1) (T := TX1) (N := 6) hx hb hU inlX1 hown hK hP mo0 hfo_1 rfl 2 (by decide) (hU _ wd_132) (fun _ h9 => h9) rfl dX1_makeKey_1 ?_
  refine lv_iconst (v := 0) hx hb dX1_makeKey_4 (by decide) ?_
  refine lv_iload hx hb dX1_makeKey_5 (lv_at hl 4 rfl) ?_
  refine lv_i2l hx hb dX1_makeKey_7 rfl ?_
  refine lv_topl (fun j_8 ej_8 => ?_)
  obtain ⟨g_10, hfo_9⟩ := un_523 (hG _ ma_4) ka_4
  refine tk_lstP hx hb hK hP hD hS 1 ma_4 hfo_9 rfl (vp_in_nI (n := 0) (by decide) (by decide)) dX1_makeKey_8 (fun H locs hP hD hS => ?_)
  obtain ⟨f_12, ef_12⟩ : ∃ y : Nat → va_E, y = va_up f a_4 (.inl (cL, 89, .inr (.inl (vp_updL g_10 (Int32.toNatClampNeg 0) j_8)))) := ⟨_, rfl⟩
  have hP : va_P (dC, dI) vwCl (va_pl L f_12) H := by rw [ef_12]; exact hP
  have hD : va_D (fun q => q ∈ L) (va_pl L f_12) := by rw [ef_12]; exact hD
  have hG : GI (okc cI cL cZ cR cG cH L kd) kd L f_12 := by rw [ef_12]; exact hG.set a_4 (mk_523 ka_4 ⟨_, rfl⟩)
  have hfo_13 : f_12 o0 = .inr (1, [.ref a_2, .ref a_3, .ref a_4, .int v_5, .int v_6, .int v_7]) := by rw [ef_12, up_ne (kd_ne ka_4 ko0 (by decide))]; exact hfo_1
  have hfr0 : ∀ b, kd b ≠ 1 → kd b ≠ 523 → f_12 b = f b := fun b q1 q523 => (congrFun ef_12 b).trans ((up_ne (fun e9 => q523 (by rw [e9]; exact ka_4))).trans (hfr0 b q1 q523))
  have hfr1_5 : ∀ b, kd b = 1 → fldI (f_12 b) 5 = fldI (f b) 5 := fun b kb => (congrArg (fun x => fldI x 5) ((congrFun ef_12 b).trans (up_ne (kd_ne ka_4 kb (by decide))))).trans (hfr1_5 b kb)
  have hrr1_0 : ∀ b, kd b = 1 → fldR (f_12 b) 0 = fldR (f b) 0 := fun b kb => (congrArg (fun x => fldR x 0) ((congrFun ef_12 b).trans (up_ne (kd_ne ka_4 kb (by decide))))).trans (hrr1_0 b kb)
  have hrr1_1 : ∀ b, kd b = 1 → fldR (f_12 b) 1 = fldR (f b) 1 := fun b kb => (congrArg (fun x => fldR x 1) ((congrFun ef_12 b).trans (up_ne (kd_ne ka_4 kb (by decide))))).trans (hrr1_1 b kb)
  have hfo_14 : f_12 a_4 = .inl (cL, 89, .inr (.inl (vp_updL g_10 (Int32.toNatClampNeg 0) j_8))) := by rw [ef_12]; exact up_self
  refine lv_aload_n hx hb dX1_makeKey_9 rfl (lv_at hl 0 rfl) ?_
  refine lv_aload_n hx hb dX1_makeKey_10 rfl (lv_at hl 1 rfl) ?_
  refine lv_aload_n hx hb dX1_makeKey_11 rfl (lv_at hl 0 rfl) ?_
  refine tk_getP (D := (dC, dI)) (ci := 1) (v := .ref a_4) (C := RX1) (T := TX1) (N := 6) hx hb hU inlX1 hown hK hP mo0 hfo_13 rfl 2 (by decide) (hU _ wd_132) (fun _ h9 => h9) rfl dX1_makeKey_12 ?_
  refine lv_iconst (v := 1) hx hb dX1_makeKey_15 (by decide) ?_
  refine lv_iload_n hx hb dX1_makeKey_16 rfl (lv_at hl 2 rfl) ?_
  refine lv_iload_n hx hb dX1_makeKey_17 rfl (lv_at hl 3 rfl) ?_
  obtain ⟨a_16, a_17, a_18, a_19, a_20, hfo_15, ⟨ma_16, ka_16⟩, ⟨ma_17, ka_17⟩, ⟨ma_18, ka_18⟩, ⟨ma_19, ka_19⟩, ⟨ma_20, ka_20⟩⟩ := un_8 (hG _ mo1) ko1
  refine tk_ViP (As := [.ref a_4, .int 1, .int p2, .int p3]) (rest := [.ref o0]) (n := 4) hx hb hml hown hU hN hZ (s_X8_writeTo_k8_a523_c1 l (dC, dI) cI cL cZ cR cG cH Z kd L f_12 hG o1 mo1 ko1 a_4 ma_4 ka_4 p2 p3 (by constructor <;> omega)) wd_775 wd_776 wd_777 wd_55 wd_778 (by decide +kernel) ⟨Nat.le_of_ble_eq_true rfl, Nat.le_of_ble_eq_true rfl⟩ hK hP hD hS mo1 hfo_15 8 rfl rfl rfl hl.1 rfl (Nat.le_of_ble_eq_true rfl) dX1_makeKey_18 ⟨Nat.le_of_ble_eq_true rfl, Nat.le_of_ble_eq_true rfl⟩ (fun x_21 f_22 H locs hw hP hD hS => ?_)
  obtain ⟨hG, bx_21, hkc_23⟩ := hw
  have hfo_25 : f_22 o0 = .inr (1, [.ref a_2, .ref a_3, .ref a_4, .int v_5, .int v_6, .int v_7]) := by rw [hkc_23 o0 (by rw [ko0]; decide)]; exact hfo_13
  have hfo_26 : f_22 o1 = .inr (8, [.ref a_16, .ref a_17, .ref a_18, .ref a_19, .ref a_20]) := by rw [hkc_23 o1 (by rw [ko1]; decide)]; exact hfo_15
  have hfr0 : ∀ b, kd b ≠ 1 → kd b ≠ 523 → f_22 b = f b := fun b q1 q523 => (hkc_23 b q523).trans (hfr0 b q1 q523)
  have hfr1_5 : ∀ b, kd b = 1 → fldI (f_22 b) 5 = fldI (f b) 5 := fun b kb => (congrArg (fun x => fldI x 5) (hkc_23 b (by rw [kb]; decide))).trans (hfr1_5 b kb)
  have hrr1_0 : ∀ b, kd b = 1 → fldR (f_22 b) 0 = fldR (f b) 0 := fun b kb => (congrArg (fun x => fldR x 0) (hkc_23 b (by rw [kb]; decide))).trans (hrr1_0 b kb)
  have hrr1_1 : ∀ b, kd b = 1 → fldR (f_22 b) 1 = fldR (f b) 1 := fun b kb => (congrArg (fun x => fldR x 1) (hkc_23 b (by rw [kb]; decide))).trans (hrr1_1 b kb)
  refine tk_putP (D := (dC, dI)) (ci := 1) (v := .int x_21) (ty := .int) (C := RX1) (T := TX1) (N := 6) hx hb hU inlX1 tyX1 tyX1_ok nmX1 hown hK hP hD hS mo0 hfo_25 rfl 3 (by decide) (hU _ wd_774) (fun _ h9 => h9) rfl (by decide +kernel) rfl rfl (Nat.le_of_ble_eq_true rfl) dX1_makeKey_21 (fun H locs hP hD hS => ?_)
  obtain ⟨f_28, ef_28⟩ : ∃ y : Nat → va_E, y = va_up f_22 o0 (.inr (1, [.ref a_2, .ref a_3, .ref a_4, .int x_21, .int v_6, .int v_7])) := ⟨_, rfl⟩
  have hP : va_P (dC, dI) vwCl (va_pl L f_28) H := by rw [ef_28]; exact hP
  have hD : va_D (fun q => q ∈ L) (va_pl L f_28) := by rw [ef_28]; exact hD
  have hG : GI (okc cI cL cZ cR cG cH L kd) kd L f_28 := by rw [ef_28]; exact hG.set o0 (mk_1 ko0 ⟨a_2, a_3, a_4, x_21, v_6, v_7, rfl, ⟨ma_2, ka_2⟩, ⟨ma_3, ka_3⟩, ⟨ma_4, ka_4⟩, (by constructor <;> omega), (by constructor <;> omega), (by constructor <;> omega)⟩)
  have hfo_29 : f_28 o1 = .inr (8, [.ref a_16, .ref a_17, .ref a_18, .ref a_19, .ref a_20]) := by rw [ef_28, up_ne (kd_ne ko0 ko1 (by decide))]; exact hfo_26
  have hfr0 : ∀ b, kd b ≠ 1 → kd b ≠ 523 → f_28 b = f b := fun b q1 q523 => (congrFun ef_28 b).trans ((up_ne (fun e9 => q1 (by rw [e9]; exact ko0))).trans (hfr0 b q1 q523))
  have hfr1_5 : ∀ b, kd b = 1 → fldI (f_28 b) 5 = fldI (f b) 5 := fun b kb => ((congrArg (fun x => fldI x 5) (congrFun ef_28 b)).trans (fk_up (by rw [hfo_25]; rfl) b)).trans (hfr1_5 b kb)
  have hrr1_0 : ∀ b, kd b = 1 → fldR (f_28 b) 0 = fldR (f b) 0 := fun b kb => ((congrArg (fun x => fldR x 0) (congrFun ef_28 b)).trans (fr_up (by rw [hfo_25]; rfl) b)).trans (hrr1_0 b kb)
  have hrr1_1 : ∀ b, kd b = 1 → fldR (f_28 b) 1 = fldR (f b) 1 := fun b kb => ((congrArg (fun x => fldR x 1) (congrFun ef_28 b)).trans (fr_up (by rw [hfo_25]; rfl) b)).trans (hrr1_1 b kb)
  have hfo_30 : f_28 o0 = .inr (1, [.ref a_2, .ref a_3, .ref a_4, .int x_21, .int v_6, .int v_7]) := by rw [ef_28]; exact up_self
  exact W.vret hx hb hr (fun t ht hW => ⟨⟨f_28, rfl, ⟨hG, hfr0, hfr1_5, hrr1_0, hrr1_1⟩, by rw [ht]; exact hP, va_K.moved hW.alike hK, pl_in hD⟩, hS.F ht⟩) hS.2.2 dX1_makeKey_24
set_option maxHeartbeats 8000000 in
set_option maxRecDepth 100000 in
theorem s_X1_isKeyAt_k1 (l : Launch) (D : va_G) (cI cL cZ cR cG cH : ClassId) (Z : zT) (kd : Nat → Nat) (L : List Nat) (f : Nat → va_E) (hG : GI (okc cI cL cZ cR cG cH L kd) kd L f) (o0 : Nat) (mo0 : o0 ∈ L) (ko0 : kd o0 = 1) (p1 : Int32) (bp1 : (0 ≤ p1.toInt ∧ p1.toInt ≤ 32767)) (hxpre0 : ∀ b9 p9, fldR (f o0) 1 = some b9 → f b9 = .inl (cL, 32768, .inr (.inl p9)) → 0 ≤ (p9 (Int32.toNatClampNeg p1)).toInt ∧ p1.toInt + 1 + (p9 (Int32.toNatClampNeg p1)).toInt ≤ 32768) : mPI l D cI cL cZ cR cG cH Z yX1_isKeyAt cX1_isKeyAt 3 (some .boolean) 0 0 [.ref o0, .int p1] L f (fun (r : Int32) (f9 : Nat → va_E) => f = f9 ∧ (0 ≤ r.toInt ∧ r.toInt ≤ 1)) := by
  obtain ⟨dC, dI⟩ := D
  refine Met.ofW (cc := cX1_isKeyAt) (maxL := 3) (ret := (some .boolean)) (by decide) rfl ?_
  intro p e s m args below meth c s₁ B hml hv
  obtain ⟨rfl, hP, hK, hD0, hN, hZ⟩ := hv
  have hx := B.exec
  have hb := B.bytes
  have hr := B.returns
  have hU : ∀ w ∈ wsU, w.before _ s = true := fun w h => atoms_spec (ws := wU yX1_isKeyAt cX1_isKeyAt 3 (some .boolean)) B.pre w (List.mem_cons_of_mem _ h)
  have hown : s.vm.findClass RX1 = some m.cls := findClass_of_methodNamed B.named
  have hlocks := B.notSynchronized
  have hD := pl_in hD0
  have hS : va_S (fun q => q ∈ L) s.heap s.heap [] := va_S.rf
  have hl := lv_entry ([.ref o0, .int p1]) (n := 3) (Nat.le_of_ble_eq_true rfl)
  rw [lg_entry_eq]
  generalize (lg_sl ([.ref o0, .int p1]) ++ List.replicate (3 - (lg_sl ([.ref o0, .int p1])).length) Slot.unset).toArray = ls at hl ⊢
  have hl : lv_has ls 3 [(0, .ref o0), (1, .int p1)] := hl
  obtain ⟨a_2, a_3, a_4, v_5, v_6, v_7, hfo_1, ⟨ma_2, ka_2⟩, ⟨ma_3, ka_3⟩, ⟨ma_4, ka_4⟩, bv_5, bv_6, bv_7⟩ := un_1 (hG _ mo0) ko0
  obtain ⟨g_9, hfo_8⟩ := un_522 (hG _ ma_3) ka_3
  have hik := hxpre0 a_3 g_9 (by rw [hfo_1]; rfl) hfo_8
  refine lv_aload_n hx hb dX1_isKeyAt_0 rfl (lv_at hl 0 rfl) ?_
  refine tk_getP (D := (dC, dI)) (ci := 1) (v := .ref a_3) (C := RX1) (T := TX1) (N := 6) hx hb hU inlX1 hown hK hP mo0 hfo_1 rfl 1 (by decide) (hU _ wd_131) (fun _ h9 => h9) rfl dX1_isKeyAt_1 ?_
  refine lv_iload_n hx hb dX1_isKeyAt_4 rfl (lv_at hl 1 rfl) ?_
  refine tk_lldP hx hb hK hP 1 ma_3 hfo_8 rfl (vp_in_iff.mpr (by constructor <;> omega)) dX1_isKeyAt_5 ?_
  refine lv_topl (fun j_10 ej_10 => ?_)
  refine lv_aload_n hx hb dX1_isKeyAt_6 rfl (lv_at hl 0 rfl) ?_
  refine tk_getP (D := (dC, dI)) (ci := 1) (v := .int v_5) (C := RX1) (T := TX1) (N := 6) hx hb hU inlX1 hown hK hP mo0 hfo_1 rfl 3 (by decide) (hU _ wd_774) (fun _ h9 => h9) rfl dX1_isKeyAt_7 ?_
  refine lv_i2l hx hb dX1_isKeyAt_10 rfl ?_
  refine lv_topl (fun j_11 ej_11 => ?_)
  refine lv_lcmp hx hb dX1_isKeyAt_11 (fun x_12 bx_12 hx_12 => ?_)
  refine lv_if_eq (tgt := 17) hx hb dX1_isKeyAt_12 (by decide) (fun c_13 => ?_) (fun c_13 => ?_)
  · skip
    rw [← Int32.toInt_inj, ti_0] at c_13
    have hxy := hx_12 (by omega)
    rw [ej_10, ej_11] at hxy
    rw [hxy, i64_of] at hik
    refine lv_iconst (v := 0) hx hb dX1_isKeyAt_17 (by decide) ?_
    refine lv_istore_n (lv' := [(2, .int 0), (0, .ref o0), (1, .int p1)]) hx hb dX1_isKeyAt_18 rfl hl (by decide) rfl (fun ls hl => ?_)
    have hloop_20 : ∀ (n : Nat), ∀ (y_21 : Int32), (0 ≤ y_21.toInt ∧ y_21.toInt ≤ 89) → 89 - y_21.toInt < (n : Int) → ∀ (ls : Array Slot), lv_has ls 3 [(2, .int y_21), (0, .ref o0), (1, .int p1)] → W p l e (headSpec (wU yX1_isKeyAt cX1_isKeyAt 3 (some .boolean)) { frames := 0, cells := 0, slots := 0, locals := 0 }).room s m [.ref o0, .int p1].toArray below meth c s.heap [] 0 0 (MQ below (va_Qi (fun (r : Int32) (f9 : Nat → va_E) => f = f9 ∧ (0 ≤ r.toInt ∧ r.toInt ≤ 1)) (qP (dC, dI) cI cL cZ cR cG cH L) (fun q => q ∈ L)) [.ref o0, .int p1].toArray s 0 0 (fun q => q ∈ L)) (F0 m 19 ls []) := by
      intro n
      induction n with
      | zero => intro y_21 by_21 hmuhloop_20 ls hl; exfalso; omega
      | succ n ih_hloop_20 =>
        intro y_21 by_21 hmuhloop_20 ls hl
        refine lv_iload_n hx hb dX1_isKeyAt_19 rfl (lv_at hl 0 rfl) ?_
        refine lv_aload_n hx hb dX1_isKeyAt_20 rfl (lv_at hl 1 rfl) ?_
        refine tk_getP (D := (dC, dI)) (ci := 1) (v := .int v_5) (C := RX1) (T := TX1) (N := 6) hx hb hU inlX1 hown hK hP mo0 hfo_1 rfl 3 (by decide) (hU _ wd_774) (fun _ h9 => h9) rfl dX1_isKeyAt_21 ?_
        refine lv_icmp_ge (tgt := 55) hx hb dX1_isKeyAt_24 (by decide) (fun c_22 => ?_) (fun c_22 => ?_)
        · skip
          rw [Int32.le_iff_toInt_le] at c_22
          refine lv_iconst (v := 1) hx hb dX1_isKeyAt_55 (by decide) ?_
          exact W.zret (v := 1) (ty := .boolean) hx hb hr rfl (fun t ht hW => ⟨⟨1, f, rfl, ⟨rfl, (by decide)⟩, by rw [ht]; exact hP, va_K.moved hW.alike hK, pl_in hD⟩, hS.F ht⟩) hS.2.2 dX1_isKeyAt_56
        · skip
          rw [Int32.le_iff_toInt_le] at c_22
          refine lv_aload_n hx hb dX1_isKeyAt_27 rfl (lv_at hl 1 rfl) ?_
          refine tk_getP (D := (dC, dI)) (ci := 1) (v := .ref a_3) (C := RX1) (T := TX1) (N := 6) hx hb hU inlX1 hown hK hP mo0 hfo_1 rfl 1 (by decide) (hU _ wd_131) (fun _ h9 => h9) rfl dX1_isKeyAt_28 ?_
          refine lv_iload_n hx hb dX1_isKeyAt_31 rfl (lv_at hl 2 rfl) ?_
          refine lv_iconst (v := 1) hx hb dX1_isKeyAt_32 (by decide) ?_
          refine lv_iadd hx hb dX1_isKeyAt_33 ?_
          refine lv_topi (fun x_23 ex_23 => ?_)
          have hx_23 : x_23.toInt = p1.toInt + 1 := by rw [ex_23, ad_I (by rw [ti_1]; omega) (by rw [ti_1]; omega), ti_1]
          have bx_23 : (1 ≤ x_23.toInt ∧ x_23.toInt ≤ 32768) := by constructor <;> omega
          refine lv_iload_n hx hb dX1_isKeyAt_34 rfl (lv_at hl 0 rfl) ?_
          refine lv_iadd hx hb dX1_isKeyAt_35 ?_
          refine lv_topi (fun x_24 ex_24 => ?_)
          have hx_24 : x_24.toInt = x_23.toInt + y_21.toInt := by rw [ex_24, ad_I (by omega) (by omega)]
          have bx_24 : (1 ≤ x_24.toInt ∧ x_24.toInt ≤ 32856) := by constructor <;> omega
          refine tk_lldP hx hb hK hP 1 ma_3 hfo_8 rfl (vp_in_iff.mpr (by constructor <;> omega)) dX1_isKeyAt_36 ?_
          refine lv_topl (fun j_25 ej_25 => ?_)
          refine lv_aload_n hx hb dX1_isKeyAt_37 rfl (lv_at hl 1 rfl) ?_
          refine tk_getP (D := (dC, dI)) (ci := 1) (v := .ref a_4) (C := RX1) (T := TX1) (N := 6) hx hb hU inlX1 hown hK hP mo0 hfo_1 rfl 2 (by decide) (hU _ wd_132) (fun _ h9 => h9) rfl dX1_isKeyAt_38 ?_
          refine lv_iload_n hx hb dX1_isKeyAt_41 rfl (lv_at hl 0 rfl) ?_
          obtain ⟨g_27, hfo_26⟩ := un_523 (hG _ ma_4) ka_4
          refine tk_lldP hx hb hK hP 1 ma_4 hfo_26 rfl (vp_in_iff.mpr (by constructor <;> omega)) dX1_isKeyAt_42 ?_
          refine lv_topl (fun j_28 ej_28 => ?_)
          refine lv_lcmp hx hb dX1_isKeyAt_43 (fun x_29 bx_29 hx_29 => ?_)
          refine lv_if_eq (tgt := 49) hx hb dX1_isKeyAt_44 (by decide) (fun c_30 => ?_) (fun c_30 => ?_)
          · skip
            rw [← Int32.toInt_inj, ti_0] at c_30
            obtain ⟨x_31, ex_31⟩ : ∃ y : Int32, y_21 + 1 = y := ⟨_, rfl⟩
            have hx_31 : x_31.toInt = y_21.toInt + 1 := by rw [← ex_31, ad_I (by rw [ti_1]; omega) (by rw [ti_1]; omega), ti_1]
            have bx_31 : (1 ≤ x_31.toInt ∧ x_31.toInt ≤ 89) := by constructor <;> omega
            refine lv_iinc (v := x_31) (lv' := [(2, .int x_31), (0, .ref o0), (1, .int p1)]) hx hb dX1_isKeyAt_49 hl (k := 0) rfl ex_31 (by decide) rfl (fun ls hl => ?_)
            refine lv_goto (tgt := 19) hx hb dX1_isKeyAt_52 (by decide) ?_
            exact ih_hloop_20 x_31 (by constructor <;> omega) (by omega) ls (lv_sub hl [0, 1, 2] rfl)
          · skip
            rw [← Int32.toInt_inj, ti_0] at c_30
            refine lv_iconst (v := 0) hx hb dX1_isKeyAt_47 (by decide) ?_
            exact W.zret (v := 0) (ty := .boolean) hx hb hr rfl (fun t ht hW => ⟨⟨0, f, rfl, ⟨rfl, (by decide)⟩, by rw [ht]; exact hP, va_K.moved hW.alike hK, pl_in hD⟩, hS.F ht⟩) hS.2.2 dX1_isKeyAt_48
    exact hloop_20 90 0 (by decide) (by (try rw [ti_0]) <;> omega) ls hl
  · skip
    rw [← Int32.toInt_inj, ti_0] at c_13
    refine lv_iconst (v := 0) hx hb dX1_isKeyAt_15 (by decide) ?_
    exact W.zret (v := 0) (ty := .boolean) hx hb hr rfl (fun t ht hW => ⟨⟨0, f, rfl, ⟨rfl, (by decide)⟩, by rw [ht]; exact hP, va_K.moved hW.alike hK, pl_in hD⟩, hS.F ht⟩) hS.2.2 dX1_isKeyAt_16
set_option maxHeartbeats 8000000 in
set_option maxRecDepth 100000 in
theorem s_X1_slotOfKey_k1 (l : Launch) (D : va_G) (cI cL cZ cR cG cH : ClassId) (Z : zT) (kd : Nat → Nat) (L : List Nat) (f : Nat → va_E) (hG : GI (okc cI cL cZ cR cG cH L kd) kd L f) (o0 : Nat) (mo0 : o0 ∈ L) (ko0 : kd o0 = 1) (hxtr0 : drel kd 1 521 522 f o0) : mPI l D cI cL cZ cR cG cH Z yX1_slotOfKey cX1_slotOfKey 5 (some .int) 1 22 [.ref o0] L f (fun (r : Int32) (f9 : Nat → va_E) => f = f9 ∧ ((-1) ≤ r.toInt ∧ r.toInt ≤ 4095)) := by
  obtain ⟨dC, dI⟩ := D
  refine Met.ofW (cc := cX1_slotOfKey) (maxL := 5) (ret := (some .int)) (by decide) rfl ?_
  intro p e s m args below meth c s₁ B hml hv
  obtain ⟨rfl, hP, hK, hD0, hN, hZ⟩ := hv
  have hx := B.exec
  have hb := B.bytes
  have hr := B.returns
  have hU : ∀ w ∈ wsU, w.before _ s = true := fun w h => atoms_spec (ws := wU yX1_slotOfKey cX1_slotOfKey 5 (some .int)) B.pre w (List.mem_cons_of_mem _ h)
  have hown : s.vm.findClass RX1 = some m.cls := findClass_of_methodNamed B.named
  have hlocks := B.notSynchronized
  have hD := pl_in hD0
  have hS : va_S (fun q => q ∈ L) s.heap s.heap [] := va_S.rf
  have hl := lv_entry ([.ref o0]) (n := 5) (Nat.le_of_ble_eq_true rfl)
  rw [lg_entry_eq]
  generalize (lg_sl ([.ref o0]) ++ List.replicate (5 - (lg_sl ([.ref o0])).length) Slot.unset).toArray = ls at hl ⊢
  have hl : lv_has ls 5 [(0, .ref o0)] := hl
  have hT0 := hxtr0
  have hTd := hT0
  obtain ⟨a_2, a_3, a_4, v_5, v_6, v_7, hfo_1, ⟨ma_2, ka_2⟩, ⟨ma_3, ka_3⟩, ⟨ma_4, ka_4⟩, bv_5, bv_6, bv_7⟩ := un_1 (hG _ mo0) ko0
  obtain ⟨g_9, hfo_8, hbg_9⟩ := un_521 (hG _ ma_2) ka_2
  obtain ⟨g_11, hfo_10⟩ := un_522 (hG _ ma_3) ka_3
  obtain ⟨tdu, tds, tda, tdg, tdp, ⟨-, -, -⟩, ⟨tdt1, tdt2, tdt3⟩, ⟨tdw1, tdw2⟩, td4⟩ := hTd
  rw [hfo_1] at tdt1 tdt2 tdt3
  obtain rfl := Option.some.inj tdt1
  obtain rfl := Option.some.inj tdt2
  obtain rfl := Option.some.inj tdt3
  rw [hfo_8] at tdw1
  obtain rfl := Option.some.inj tdw1
  rw [hfo_10] at tdw2
  obtain rfl := Option.some.inj tdw2
  refine lv_aload_n hx hb dX1_slotOfKey_0 rfl (lv_at hl 0 rfl) ?_
  refine tk_getP (D := (dC, dI)) (ci := 1) (v := .int v_5) (C := RX1) (T := TX1) (N := 6) hx hb hU inlX1 hown hK hP mo0 hfo_1 rfl 3 (by decide) (hU _ wd_774) (fun _ h9 => h9) rfl dX1_slotOfKey_1 ?_
  refine lv_i2l hx hb dX1_slotOfKey_4 rfl ?_
  refine lv_topl (fun j_12 ej_12 => ?_)
  refine lv_lstore_n (lv' := [(1, .long j_12), (0, .ref o0)]) hx hb dX1_slotOfKey_5 rfl hl (by decide) rfl (fun ls hl => ?_)
  refine lv_iconst (v := 0) hx hb dX1_slotOfKey_6 (by decide) ?_
  refine lv_istore_n (lv' := [(3, .int 0), (1, .long j_12), (0, .ref o0)]) hx hb dX1_slotOfKey_7 rfl hl (by decide) rfl (fun ls hl => ?_)
  have hloop_22 : ∀ (n : Nat), ∀ (y_23 : Int32), (0 ≤ y_23.toInt ∧ y_23.toInt ≤ 89) → ∀ (y_24 : Int64), 89 - y_23.toInt < (n : Int) → ∀ (ls : Array Slot), lv_has ls 5 [(3, .int y_23), (1, .long y_24), (0, .ref o0)] → W p l e (headSpec (wU yX1_slotOfKey cX1_slotOfKey 5 (some .int)) { frames := 1, cells := 0, slots := 0, locals := 22 }).room s m [.ref o0].toArray below meth c s.heap [] 0 0 (MQ below (va_Qi (fun (r : Int32) (f9 : Nat → va_E) => f = f9 ∧ ((-1) ≤ r.toInt ∧ r.toInt ≤ 4095)) (qP (dC, dI) cI cL cZ cR cG cH L) (fun q => q ∈ L)) [.ref o0].toArray s 0 0 (fun q => q ∈ L)) (F0 m 8 ls []) := by
    intro n
    induction n with
    | zero => intro y_23 by_23 y_24 hmuhloop_22 ls hl; exfalso; omega
    | succ n ih_hloop_22 =>
      intro y_23 by_23 y_24 hmuhloop_22 ls hl
      refine lv_iload_n hx hb dX1_slotOfKey_8 rfl (lv_at hl 0 rfl) ?_
      refine lv_aload_n hx hb dX1_slotOfKey_9 rfl (lv_at hl 2 rfl) ?_
      refine tk_getP (D := (dC, dI)) (ci := 1) (v := .int v_5) (C := RX1) (T := TX1) (N := 6) hx hb hU inlX1 hown hK hP mo0 hfo_1 rfl 3 (by decide) (hU _ wd_774) (fun _ h9 => h9) rfl dX1_slotOfKey_10 ?_
      refine lv_icmp_ge (tgt := 42) hx hb dX1_slotOfKey_13 (by decide) (fun c_25 => ?_) (fun c_25 => ?_)
      · skip
        rw [Int32.le_iff_toInt_le] at c_25
        refine lv_iconst (v := 0) hx hb dX1_slotOfKey_42 (by decide) ?_
        refine lv_istore_n (lv' := [(3, .int 0), (1, .long y_24), (0, .ref o0)]) hx hb dX1_slotOfKey_43 rfl hl (by decide) rfl (fun ls hl => ?_)
        have hloop_47 : ∀ (n : Nat), ∀ (y_48 : Int32), (0 ≤ y_48.toInt ∧ y_48.toInt ≤ 4096) → ∀ (H : Heap) (locs : List Loc), va_P (dC, dI) vwCl (va_pl L f) H → va_S (fun q => q ∈ L) s.heap H locs → 4096 - y_48.toInt < (n : Int) → ∀ (ls : Array Slot), lv_has ls 5 [(3, .int y_48), (1, .long y_24), (0, .ref o0)] → W p l e (headSpec (wU yX1_slotOfKey cX1_slotOfKey 5 (some .int)) { frames := 1, cells := 0, slots := 0, locals := 22 }).room s m [.ref o0].toArray below meth c H locs 0 0 (MQ below (va_Qi (fun (r : Int32) (f9 : Nat → va_E) => f = f9 ∧ ((-1) ≤ r.toInt ∧ r.toInt ≤ 4095)) (qP (dC, dI) cI cL cZ cR cG cH L) (fun q => q ∈ L)) [.ref o0].toArray s 0 0 (fun q => q ∈ L)) (F0 m 44 ls []) := by
          intro n
          induction n with
          | zero => intro y_48 by_48 H locs hP hS hmuhloop_47 ls hl; exfalso; omega
          | succ n ih_hloop_47 =>
            intro y_48 by_48 H locs hP hS hmuhloop_47 ls hl
            refine lv_iload_n hx hb dX1_slotOfKey_44 rfl (lv_at hl 0 rfl) ?_
            refine lv_sipush (v := 4096) hx hb dX1_slotOfKey_45 (by decide) ?_
            refine lv_icmp_ge (tgt := 97) hx hb dX1_slotOfKey_48 (by decide) (fun c_50 => ?_) (fun c_50 => ?_)
            · skip
              rw [Int32.le_iff_toInt_le, ti_4096] at c_50
              refine lv_iconst (v := (-1)) hx hb dX1_slotOfKey_97 (by decide) ?_
              exact W.iret (v := (-1)) hx hb hr (fun t ht hW => ⟨⟨(-1), f, rfl, ⟨rfl, (by decide)⟩, by rw [ht]; exact hP, va_K.moved hW.alike hK, pl_in hD⟩, hS.F ht⟩) hS.2.2 dX1_slotOfKey_98
            · skip
              rw [Int32.le_iff_toInt_le, ti_4096] at c_50
              refine lv_lload_n hx hb dX1_slotOfKey_51 rfl (lv_at hl 1 rfl) ?_
              refine lv_iload_n hx hb dX1_slotOfKey_52 rfl (lv_at hl 0 rfl) ?_
              refine lv_i2l hx hb dX1_slotOfKey_53 rfl ?_
              refine lv_topl (fun j_51 ej_51 => ?_)
              refine lv_ladd hx hb dX1_slotOfKey_54 ?_
              refine lv_topl (fun j_52 ej_52 => ?_)
              refine lv_l2i hx hb dX1_slotOfKey_55 rfl ?_
              refine lv_topi (fun x_53 ex_53 => ?_)
              have bx_53 : ((-2147483648) ≤ x_53.toInt ∧ x_53.toInt ≤ 2147483647) := ⟨i32_lo _, i32_hi _⟩
              refine lv_sipush (v := 4095) hx hb dX1_slotOfKey_56 (by decide) ?_
              refine lv_iand hx hb dX1_slotOfKey_59 ?_
              refine lv_topi (fun x_54 ex_54 => ?_)
              have bx_54 : (0 ≤ x_54.toInt ∧ x_54.toInt ≤ 4095) := by rw [ex_54]; have h8 := an_C x_53 (m := 4095) (by decide); rw [ti_4095] at h8; exact h8
              refine lv_istore (lv' := [(4, .int x_54), (3, .int y_48), (1, .long y_24), (0, .ref o0)]) hx hb dX1_slotOfKey_60 hl (by decide) rfl (fun ls hl => ?_)
              refine lv_aload_n hx hb dX1_slotOfKey_62 rfl (lv_at hl 3 rfl) ?_
              refine tk_getP (D := (dC, dI)) (ci := 1) (v := .ref a_2) (C := RX1) (T := TX1) (N := 6) hx hb hU inlX1 hown hK hP mo0 hfo_1 rfl 0 (by decide) (hU _ wd_128) (fun _ h9 => h9) rfl dX1_slotOfKey_63 ?_
              refine lv_iload hx hb dX1_slotOfKey_66 (lv_at hl 0 rfl) ?_
              refine tk_ildP hx hb hK hP 0 ma_2 hfo_8 rfl (vp_in_iff.mpr (by constructor <;> omega)) dX1_slotOfKey_68 ?_
              refine lv_topi (fun x_55 ex_55 => ?_)
              have bx_55 : (0 ≤ x_55.toInt ∧ x_55.toInt ≤ 32768) := by rw [ex_55]; exact hbg_9 _
              refine lv_if_eq (tgt := 88) hx hb dX1_slotOfKey_69 (by decide) (fun c_56 => ?_) (fun c_56 => ?_)
              · skip
                rw [← Int32.toInt_inj, ti_0] at c_56
                refine lv_iload hx hb dX1_slotOfKey_88 (lv_at hl 0 rfl) ?_
                exact W.iret (v := x_54) hx hb hr (fun t ht hW => ⟨⟨x_54, f, rfl, ⟨rfl, (by constructor <;> omega)⟩, by rw [ht]; exact hP, va_K.moved hW.alike hK, pl_in hD⟩, hS.F ht⟩) hS.2.2 dX1_slotOfKey_90
              · skip
                rw [← Int32.toInt_inj, ti_0] at c_56
                refine lv_aload_n hx hb dX1_slotOfKey_72 rfl (lv_at hl 3 rfl) ?_
                refine lv_aload_n hx hb dX1_slotOfKey_73 rfl (lv_at hl 3 rfl) ?_
                refine tk_getP (D := (dC, dI)) (ci := 1) (v := .ref a_2) (C := RX1) (T := TX1) (N := 6) hx hb hU inlX1 hown hK hP mo0 hfo_1 rfl 0 (by decide) (hU _ wd_128) (fun _ h9 => h9) rfl dX1_slotOfKey_74 ?_
                refine lv_iload hx hb dX1_slotOfKey_77 (lv_at hl 0 rfl) ?_
                refine tk_ildP hx hb hK hP 0 ma_2 hfo_8 rfl (vp_in_iff.mpr (by constructor <;> omega)) dX1_slotOfKey_79 ?_
                refine tk_topi (y := x_55) ex_55.symm ?_
                refine lv_iconst (v := 1) hx hb dX1_slotOfKey_80 (by decide) ?_
                refine lv_isub hx hb dX1_slotOfKey_81 ?_
                refine lv_topi (fun x_57 ex_57 => ?_)
                have hx_57 : x_57.toInt = x_55.toInt - 1 := by rw [ex_57, sb_I (by rw [ti_1]; omega) (by rw [ti_1]; omega), ti_1]
                have bx_57 : (0 ≤ x_57.toInt ∧ x_57.toInt ≤ 32767) := by constructor <;> omega
                refine tk_ViP (As := [.int x_57]) (rest := []) (n := 1) hx hb hml hown hU hN hZ (s_X1_isKeyAt_k1 l (dC, dI) cI cL cZ cR cG cH Z kd L f hG o0 mo0 ko0 x_57 (by constructor <;> omega) (fun b9 p9 h1 h2 => by rw [hfo_1] at h1; obtain rfl := Option.some.inj h1; rw [hfo_10] at h2; cases h2; have hc9 := cl_I (i := x_54) (by omega); have h7 := td4 (Int32.toNatClampNeg x_54) (by omega); rw [← ex_55] at h7; have hz : Int32.toNatClampNeg x_57 = Int32.toNatClampNeg x_55 - 1 := (by rw [ex_57]; exact pr_I (by omega)); rw [hz]; omega)) wd_788 wd_789 wd_790 wd_59 wd_791 (by decide +kernel) ⟨Nat.le_of_ble_eq_true rfl, Nat.le_of_ble_eq_true rfl⟩ hK hP hD hS mo0 hfo_1 1 rfl rfl rfl hl.1 rfl (Nat.le_of_ble_eq_true rfl) dX1_slotOfKey_82 ⟨Nat.le_of_ble_eq_true rfl, Nat.le_of_ble_eq_true rfl⟩ (fun x_58 f_59 H locs hw hP hD hS => ?_)
                obtain ⟨rfl, bx_58⟩ := hw
                refine lv_if_eq (tgt := 91) hx hb dX1_slotOfKey_85 (by decide) (fun c_61 => ?_) (fun c_61 => ?_)
                · skip
                  rw [← Int32.toInt_inj, ti_0] at c_61
                  obtain ⟨x_62, ex_62⟩ : ∃ y : Int32, y_48 + 1 = y := ⟨_, rfl⟩
                  have hx_62 : x_62.toInt = y_48.toInt + 1 := by rw [← ex_62, ad_I (by rw [ti_1]; omega) (by rw [ti_1]; omega), ti_1]
                  have bx_62 : (1 ≤ x_62.toInt ∧ x_62.toInt ≤ 4096) := by constructor <;> omega
                  refine lv_iinc (v := x_62) (lv' := [(3, .int x_62), (4, .int x_54), (1, .long y_24), (0, .ref o0)]) hx hb dX1_slotOfKey_91 hl (k := 1) rfl ex_62 (by decide) rfl (fun ls hl => ?_)
                  refine lv_goto (tgt := 44) hx hb dX1_slotOfKey_94 (by decide) ?_
                  exact ih_hloop_47 x_62 (by constructor <;> omega) _ _ hP hS (by omega) ls (lv_sub hl [0, 2, 3] rfl)
                · skip
                  rw [← Int32.toInt_inj, ti_0] at c_61
                  refine lv_iload hx hb dX1_slotOfKey_88 (lv_at hl 0 rfl) ?_
                  exact W.iret (v := x_54) hx hb hr (fun t ht hW => ⟨⟨x_54, f, rfl, ⟨rfl, (by constructor <;> omega)⟩, by rw [ht]; exact hP, va_K.moved hW.alike hK, pl_in hD⟩, hS.F ht⟩) hS.2.2 dX1_slotOfKey_90
        exact hloop_47 4097 0 (by decide) _ _ hP hS (by (try rw [ti_0]) <;> omega) ls hl
      · skip
        rw [Int32.le_iff_toInt_le] at c_25
        refine lv_lload_n hx hb dX1_slotOfKey_16 rfl (lv_at hl 1 rfl) ?_
        refine lv_aload_n hx hb dX1_slotOfKey_17 rfl (lv_at hl 2 rfl) ?_
        refine tk_getP (D := (dC, dI)) (ci := 1) (v := .ref a_4) (C := RX1) (T := TX1) (N := 6) hx hb hU inlX1 hown hK hP mo0 hfo_1 rfl 2 (by decide) (hU _ wd_132) (fun _ h9 => h9) rfl dX1_slotOfKey_18 ?_
        refine lv_iload_n hx hb dX1_slotOfKey_21 rfl (lv_at hl 0 rfl) ?_
        obtain ⟨g_64, hfo_63⟩ := un_523 (hG _ ma_4) ka_4
        refine tk_lldP hx hb hK hP 1 ma_4 hfo_63 rfl (vp_in_iff.mpr (by constructor <;> omega)) dX1_slotOfKey_22 ?_
        refine lv_topl (fun j_65 ej_65 => ?_)
        refine lv_lxor hx hb dX1_slotOfKey_23 ?_
        refine lv_topl (fun j_66 ej_66 => ?_)
        refine lv_ldc2 (v := 6364136223846793005) hx hb hown (hU _ wd_787) dX1_slotOfKey_24 ?_
        refine lv_lmul hx hb dX1_slotOfKey_27 ?_
        refine lv_topl (fun j_67 ej_67 => ?_)
        refine lv_lstore_n (lv' := [(1, .long j_67), (3, .int y_23), (0, .ref o0)]) hx hb dX1_slotOfKey_28 rfl hl (by decide) rfl (fun ls hl => ?_)
        refine lv_lload_n hx hb dX1_slotOfKey_29 rfl (lv_at hl 0 rfl) ?_
        refine lv_lload_n hx hb dX1_slotOfKey_30 rfl (lv_at hl 0 rfl) ?_
        refine lv_bipush (v := 32) hx hb dX1_slotOfKey_31 (by decide) ?_
        refine lv_lushr hx hb dX1_slotOfKey_33 rfl ?_
        refine lv_topl (fun j_68 ej_68 => ?_)
        refine lv_lxor hx hb dX1_slotOfKey_34 ?_
        refine lv_topl (fun j_69 ej_69 => ?_)
        refine lv_lstore_n (lv' := [(1, .long j_69), (3, .int y_23), (0, .ref o0)]) hx hb dX1_slotOfKey_35 rfl hl (by decide) rfl (fun ls hl => ?_)
        obtain ⟨x_70, ex_70⟩ : ∃ y : Int32, y_23 + 1 = y := ⟨_, rfl⟩
        have hx_70 : x_70.toInt = y_23.toInt + 1 := by rw [← ex_70, ad_I (by rw [ti_1]; omega) (by rw [ti_1]; omega), ti_1]
        have bx_70 : (1 ≤ x_70.toInt ∧ x_70.toInt ≤ 89) := by constructor <;> omega
        refine lv_iinc (v := x_70) (lv' := [(3, .int x_70), (1, .long j_69), (0, .ref o0)]) hx hb dX1_slotOfKey_36 hl (k := 1) rfl ex_70 (by decide) rfl (fun ls hl => ?_)
        refine lv_goto (tgt := 8) hx hb dX1_slotOfKey_39 (by decide) ?_
        exact ih_hloop_22 x_70 (by constructor <;> omega) (j_69) (by omega) ls (lv_sub hl [0, 1, 2] rfl)
  exact hloop_22 90 0 (by decide) (j_12) (by (try rw [ti_0]) <;> omega) ls hl
set_option maxHeartbeats 8000000 in
set_option maxRecDepth 100000 in
theorem s_X1_hasKey_k1 (l : Launch) (D : va_G) (cI cL cZ cR cG cH : ClassId) (Z : zT) (kd : Nat → Nat) (L : List Nat) (f : Nat → va_E) (hG : GI (okc cI cL cZ cR cG cH L kd) kd L f) (o0 : Nat) (mo0 : o0 ∈ L) (ko0 : kd o0 = 1) (hxtr0 : drel kd 1 521 522 f o0) : mPI l D cI cL cZ cR cG cH Z yX1_hasKey cX1_hasKey 2 (some .boolean) 2 46 [.ref o0] L f (fun (r : Int32) (f9 : Nat → va_E) => f = f9 ∧ (0 ≤ r.toInt ∧ r.toInt ≤ 1)) := by
  obtain ⟨dC, dI⟩ := D
  refine Met.ofW (cc := cX1_hasKey) (maxL := 2) (ret := (some .boolean)) (by decide) rfl ?_
  intro p e s m args below meth c s₁ B hml hv
  obtain ⟨rfl, hP, hK, hD0, hN, hZ⟩ := hv
  have hx := B.exec
  have hb := B.bytes
  have hr := B.returns
  have hU : ∀ w ∈ wsU, w.before _ s = true := fun w h => atoms_spec (ws := wU yX1_hasKey cX1_hasKey 2 (some .boolean)) B.pre w (List.mem_cons_of_mem _ h)
  have hown : s.vm.findClass RX1 = some m.cls := findClass_of_methodNamed B.named
  have hlocks := B.notSynchronized
  have hD := pl_in hD0
  have hS : va_S (fun q => q ∈ L) s.heap s.heap [] := va_S.rf
  have hl := lv_entry ([.ref o0]) (n := 2) (Nat.le_of_ble_eq_true rfl)
  rw [lg_entry_eq]
  generalize (lg_sl ([.ref o0]) ++ List.replicate (2 - (lg_sl ([.ref o0])).length) Slot.unset).toArray = ls at hl ⊢
  have hl : lv_has ls 2 [(0, .ref o0)] := hl
  have hT0 := hxtr0
  refine lv_aload_n hx hb dX1_hasKey_0 rfl (lv_at hl 0 rfl) ?_
  obtain ⟨a_2, a_3, a_4, v_5, v_6, v_7, hfo_1, ⟨ma_2, ka_2⟩, ⟨ma_3, ka_3⟩, ⟨ma_4, ka_4⟩, bv_5, bv_6, bv_7⟩ := un_1 (hG _ mo0) ko0
  refine tk_ViP (As := []) (rest := []) (n := 0) hx hb hml hown hU hN hZ (s_X1_slotOfKey_k1 l (dC, dI) cI cL cZ cR cG cH Z kd L f hG o0 mo0 ko0 hT0) wd_783 wd_784 wd_785 wd_59 wd_786 (by decide +kernel) ⟨Nat.le_of_ble_eq_true rfl, Nat.le_of_ble_eq_true rfl⟩ hK hP hD hS mo0 hfo_1 1 rfl rfl rfl hl.1 rfl (Nat.le_of_ble_eq_true rfl) dX1_hasKey_1 ⟨Nat.le_of_ble_eq_true rfl, Nat.le_of_ble_eq_true rfl⟩ (fun x_8 f_9 H locs hw hP hD hS => ?_)
  obtain ⟨rfl, bx_8⟩ := hw
  refine lv_istore_n (lv' := [(1, .int x_8), (0, .ref o0)]) hx hb dX1_hasKey_4 rfl hl (by decide) rfl (fun ls hl => ?_)
  refine lv_iload_n hx hb dX1_hasKey_5 rfl (lv_at hl 0 rfl) ?_
  refine lv_iconst (v := (-1)) hx hb dX1_hasKey_6 (by decide) ?_
  refine lv_icmp_eq (tgt := 23) hx hb dX1_hasKey_7 (by decide) (fun c_11 => ?_) (fun c_11 => ?_)
  · skip
    rw [← Int32.toInt_inj, ti_m1] at c_11
    refine lv_iconst (v := 0) hx hb dX1_hasKey_23 (by decide) ?_
    exact W.zret (v := 0) (ty := .boolean) hx hb hr rfl (fun t ht hW => ⟨⟨0, f, rfl, ⟨rfl, (by decide)⟩, by rw [ht]; exact hP, va_K.moved hW.alike hK, pl_in hD⟩, hS.F ht⟩) hS.2.2 dX1_hasKey_24
  · skip
    rw [← Int32.toInt_inj, ti_m1] at c_11
    refine lv_aload_n hx hb dX1_hasKey_10 rfl (lv_at hl 1 rfl) ?_
    refine tk_getP (D := (dC, dI)) (ci := 1) (v := .ref a_2) (C := RX1) (T := TX1) (N := 6) hx hb hU inlX1 hown hK hP mo0 hfo_1 rfl 0 (by decide) (hU _ wd_128) (fun _ h9 => h9) rfl dX1_hasKey_11 ?_
    refine lv_iload_n hx hb dX1_hasKey_14 rfl (lv_at hl 0 rfl) ?_
    obtain ⟨g_13, hfo_12, hbg_13⟩ := un_521 (hG _ ma_2) ka_2
    refine tk_ildP hx hb hK hP 0 ma_2 hfo_12 rfl (vp_in_iff.mpr (by constructor <;> omega)) dX1_hasKey_15 ?_
    refine lv_topi (fun x_14 ex_14 => ?_)
    have bx_14 : (0 ≤ x_14.toInt ∧ x_14.toInt ≤ 32768) := by rw [ex_14]; exact hbg_13 _
    refine lv_if_eq (tgt := 23) hx hb dX1_hasKey_16 (by decide) (fun c_15 => ?_) (fun c_15 => ?_)
    · skip
      rw [← Int32.toInt_inj, ti_0] at c_15
      refine lv_iconst (v := 0) hx hb dX1_hasKey_23 (by decide) ?_
      exact W.zret (v := 0) (ty := .boolean) hx hb hr rfl (fun t ht hW => ⟨⟨0, f, rfl, ⟨rfl, (by decide)⟩, by rw [ht]; exact hP, va_K.moved hW.alike hK, pl_in hD⟩, hS.F ht⟩) hS.2.2 dX1_hasKey_24
    · skip
      rw [← Int32.toInt_inj, ti_0] at c_15
      refine lv_iconst (v := 1) hx hb dX1_hasKey_19 (by decide) ?_
      refine lv_goto (tgt := 24) hx hb dX1_hasKey_20 (by decide) ?_
      exact W.zret (v := 1) (ty := .boolean) hx hb hr rfl (fun t ht hW => ⟨⟨1, f, rfl, ⟨rfl, (by decide)⟩, by rw [ht]; exact hP, va_K.moved hW.alike hK, pl_in hD⟩, hS.F ht⟩) hS.2.2 dX1_hasKey_24
set_option maxHeartbeats 8000000 in
set_option maxRecDepth 100000 in
theorem s_J7_fill_53178_a521_z (l : Launch) (D : va_G) (cI cL cZ cR cG cH : ClassId) (Z : zT) (kd : Nat → Nat) (L : List Nat) (f : Nat → va_E) (hG : GI (okc cI cL cZ cR cG cH L kd) kd L f) (o0 : Nat) (mo0 : o0 ∈ L) (ko0 : kd o0 = 521) (p1 : Int32) (bp1 : (0 ≤ p1.toInt ∧ p1.toInt ≤ 0)) : mPV l D cI cL cZ cR cG cH Z yJ7_fill_53178 cJ7_fill_53178 4 none 0 0 [.ref o0, .int p1] L f (fun (f9 : Nat → va_E) => GI (okc cI cL cZ cR cG cH L kd) kd L f9 ∧ (∀ b, kd b ≠ 521 → f9 b = f b) ∧ (∀ g9, f9 o0 = .inl (cI, 4096, .inl g9) → ∀ j : Nat, j < 4096 → g9 j = 0)) := by
  obtain ⟨dC, dI⟩ := D
  refine Met.ofW (cc := cJ7_fill_53178) (maxL := 4) (ret := none) (by decide) rfl ?_
  intro p e s m args below meth c s₁ B hml hv
  obtain ⟨rfl, hP, hK, hD0, hN, hZ⟩ := hv
  have hx := B.exec
  have hb := B.bytes
  have hr := B.returns
  have hU : ∀ w ∈ wsU, w.before _ s = true := fun w h => atoms_spec (ws := wU yJ7_fill_53178 cJ7_fill_53178 4 none) B.pre w (List.mem_cons_of_mem _ h)
  have hown : s.vm.findClass RJ7 = some m.cls := findClass_of_methodNamed B.named
  have hlocks := B.notSynchronized
  have hD := pl_in hD0
  have hS : va_S (fun q => q ∈ L) s.heap s.heap [] := va_S.rf
  have hl := lv_entry ([.ref o0, .int p1]) (n := 4) (Nat.le_of_ble_eq_true rfl)
  rw [lg_entry_eq]
  generalize (lg_sl ([.ref o0, .int p1]) ++ List.replicate (4 - (lg_sl ([.ref o0, .int p1])).length) Slot.unset).toArray = ls at hl ⊢
  have hl : lv_has ls 4 [(0, .ref o0), (1, .int p1)] := hl
  have hfr0 : ∀ b, kd b ≠ 521 → f b = f b := fun _ _ => rfl
  have hp10 : p1 = 0 := Int32.toInt_inj.mp (by rw [show (0 : Int32).toInt = 0 from rfl]; omega)
  refine lv_iconst (v := 0) hx hb dJ7_fill_53178_0 (by decide) ?_
  refine lv_istore_n (lv' := [(2, .int 0), (0, .ref o0), (1, .int p1)]) hx hb dJ7_fill_53178_1 rfl hl (by decide) rfl (fun ls hl => ?_)
  refine lv_aload_n hx hb dJ7_fill_53178_2 rfl (lv_at hl 1 rfl) ?_
  obtain ⟨g_2, hfo_1, hbg_2⟩ := un_521 (hG _ mo0) ko0
  refine tk_alenP (v := 4096) hx hb hK hP 0 mo0 hfo_1 rfl rfl dJ7_fill_53178_3 ?_
  refine lv_istore_n (lv' := [(3, .int 4096), (2, .int 0), (0, .ref o0), (1, .int p1)]) hx hb dJ7_fill_53178_4 rfl hl (by decide) rfl (fun ls hl => ?_)
  have hloop_16 : ∀ (n : Nat), ∀ (y_17 : Int32), (0 ≤ y_17.toInt ∧ y_17.toInt ≤ 4096) → ∀ (f_19 : Nat → va_E), GI (okc cI cL cZ cR cG cH L kd) kd L f_19 → ∀ (H : Heap) (locs : List Loc), va_P (dC, dI) vwCl (va_pl L f_19) H → va_S (fun q => q ∈ L) s.heap H locs → va_D (fun q => q ∈ L) (va_pl L f_19) → (∀ b, kd b ≠ 521 → f_19 b = f b) → (∀ g9, f_19 o0 = .inl (cI, 4096, .inl g9) → ∀ j : Nat, (j : Int) < y_17.toInt → g9 j = 0) → 4096 - y_17.toInt < (n : Int) → ∀ (ls : Array Slot), lv_has ls 4 [(3, .int 4096), (2, .int y_17), (0, .ref o0), (1, .int p1)] → W p l e (headSpec (wU yJ7_fill_53178 cJ7_fill_53178 4 none) { frames := 0, cells := 0, slots := 0, locals := 0 }).room s m [.ref o0, .int p1].toArray below meth c H locs 0 0 (MQ below (va_Qv (fun (f9 : Nat → va_E) => GI (okc cI cL cZ cR cG cH L kd) kd L f9 ∧ (∀ b, kd b ≠ 521 → f9 b = f b) ∧ (∀ g9, f9 o0 = .inl (cI, 4096, .inl g9) → ∀ j : Nat, j < 4096 → g9 j = 0)) (qP (dC, dI) cI cL cZ cR cG cH L) (fun q => q ∈ L)) [.ref o0, .int p1].toArray s 0 0 (fun q => q ∈ L)) (F0 m 5 ls []) := by
    intro n
    induction n with
    | zero => intro y_17 by_17 f_19 hG H locs hP hS hD hfr0 hfz hmuhloop_16 ls hl; exfalso; omega
    | succ n ih_hloop_16 =>
      intro y_17 by_17 f_19 hG H locs hP hS hD hfr0 hfz hmuhloop_16 ls hl
      refine lv_iload_n hx hb dJ7_fill_53178_5 rfl (lv_at hl 1 rfl) ?_
      refine lv_iload_n hx hb dJ7_fill_53178_6 rfl (lv_at hl 0 rfl) ?_
      refine lv_icmp_ge (tgt := 20) hx hb dJ7_fill_53178_7 (by decide) (fun c_20 => ?_) (fun c_20 => ?_)
      · skip
        rw [Int32.le_iff_toInt_le, ti_4096] at c_20
        exact W.vret hx hb hr (fun t ht hW => ⟨⟨f_19, rfl, ⟨hG, hfr0, (fun g9 h9 j hj => hfz g9 h9 j (by omega))⟩, by rw [ht]; exact hP, va_K.moved hW.alike hK, pl_in hD⟩, hS.F ht⟩) hS.2.2 dJ7_fill_53178_20
      · skip
        rw [Int32.le_iff_toInt_le, ti_4096] at c_20
        obtain ⟨g_22, hfo_21, hbg_22⟩ := un_521 (hG _ mo0) ko0
        refine lv_aload_n hx hb dJ7_fill_53178_10 rfl (lv_at hl 2 rfl) ?_
        refine lv_iload_n hx hb dJ7_fill_53178_11 rfl (lv_at hl 1 rfl) ?_
        refine lv_iload_n hx hb dJ7_fill_53178_12 rfl (lv_at hl 3 rfl) ?_
        refine tk_istP hx hb hK hP hD hS 0 mo0 hfo_21 rfl (vp_in_iff.mpr (by constructor <;> omega)) dJ7_fill_53178_13 (fun H locs hP hD hS => ?_)
        obtain ⟨g_23, eqg_23⟩ : ∃ y : Nat → Int32, y = upd g_22 (Int32.toNatClampNeg y_17) p1 := ⟨_, rfl⟩
        rw [← eqg_23] at hP hD
        have hbg_23 : ∀ j, 0 ≤ (g_23 j).toInt ∧ (g_23 j).toInt ≤ 32768 := by rw [eqg_23]; exact okI_up hbg_22 (by constructor <;> omega) _
        obtain ⟨f_25, ef_25⟩ : ∃ y : Nat → va_E, y = va_up f_19 o0 (.inl (cI, 4096, .inl g_23)) := ⟨_, rfl⟩
        have hP : va_P (dC, dI) vwCl (va_pl L f_25) H := by rw [ef_25]; exact hP
        have hD : va_D (fun q => q ∈ L) (va_pl L f_25) := by rw [ef_25]; exact hD
        have hG : GI (okc cI cL cZ cR cG cH L kd) kd L f_25 := by rw [ef_25]; exact hG.set o0 (mk_521 ko0 ⟨_, rfl, hbg_23⟩)
        have hfr0 : ∀ b, kd b ≠ 521 → f_25 b = f b := fun b q521 => (congrFun ef_25 b).trans ((up_ne (fun e9 => q521 (by rw [e9]; exact ko0))).trans (hfr0 b q521))
        have hfo_26 : f_25 o0 = .inl (cI, 4096, .inl g_23) := by rw [ef_25]; exact up_self
        obtain ⟨x_27, ex_27⟩ : ∃ y : Int32, y_17 + 1 = y := ⟨_, rfl⟩
        have hx_27 : x_27.toInt = y_17.toInt + 1 := by rw [← ex_27, ad_I (by rw [ti_1]; omega) (by rw [ti_1]; omega), ti_1]
        have bx_27 : (1 ≤ x_27.toInt ∧ x_27.toInt ≤ 4096) := by constructor <;> omega
        refine lv_iinc (v := x_27) (lv' := [(2, .int x_27), (3, .int 4096), (0, .ref o0), (1, .int p1)]) hx hb dJ7_fill_53178_14 hl (k := 1) rfl ex_27 (by decide) rfl (fun ls hl => ?_)
        refine lv_goto (tgt := 5) hx hb dJ7_fill_53178_17 (by decide) ?_
        exact ih_hloop_16 x_27 (by constructor <;> omega) f_25 hG _ _ hP hS hD hfr0 (fun g9 h9 j hj => by rw [hfo_26] at h9; cases h9; have hc9 := cl_I (i := y_17) (by omega); by_cases hji : j = Int32.toNatClampNeg y_17; (· rw [eqg_23, hji, pk_us]; exact hp10); (· rw [eqg_23, pk_un hji]; exact hfz g_22 hfo_21 j (by omega))) (by (try rw [ti_4096]) <;> omega) ls (lv_sub hl [1, 0, 2, 3] rfl)
  exact hloop_16 4097 0 (by decide) f hG _ _ hP hS hD hfr0 (fun g9 _ j hj => by exfalso; have h3 : ((0 : Int32)).toInt = 0 := rfl; omega) (by (try rw [ti_4096]) <;> (try rw [ti_0]) <;> omega) ls hl
