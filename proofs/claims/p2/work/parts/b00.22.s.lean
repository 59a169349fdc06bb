set_option maxHeartbeats 8000000 in
set_option maxRecDepth 100000 in
theorem s_X8_begin_k8_k7 (l : Launch) (D : va_G) (cI cL cZ cR cG cH : ClassId) (Z : zT) (kd : Nat → Nat) (L : List Nat) (f : Nat → va_E) (hG : GI (okc cI cL cZ cR cG cH L kd) kd L f) (o0 : Nat) (mo0 : o0 ∈ L) (ko0 : kd o0 = 8) (o1 : Nat) (mo1 : o1 ∈ L) (ko1 : kd o1 = 7) : mPV l D cI cL cZ cR cG cH Z yX8_begin cX8_begin 3 none 0 0 [.ref o0, .ref o1] L f (fun (f9 : Nat → va_E) => GI (okc cI cL cZ cR cG cH L kd) kd L f9 ∧ (∀ b, kd b ≠ 517 → kd b ≠ 518 → kd b ≠ 520 → f9 b = f b)) := by
  obtain ⟨dC, dI⟩ := D
  refine Met.ofW (cc := cX8_begin) (maxL := 3) (ret := none) (by decide) rfl ?_
  intro p e s m args below meth c s₁ B hml hv
  obtain ⟨rfl, hP, hK, hD0, hN, hZ⟩ := hv
  have hx := B.exec
  have hb := B.bytes
  have hr := B.returns
  have hU : ∀ w ∈ wsU, w.before _ s = true := fun w h => atoms_spec (ws := wU yX8_begin cX8_begin 3 none) B.pre w (List.mem_cons_of_mem _ h)
  have hown : s.vm.findClass RX8 = some m.cls := findClass_of_methodNamed B.named
  have hlocks := B.notSynchronized
  have hD := pl_in hD0
  have hS : va_S (fun q => q ∈ L) s.heap s.heap [] := va_S.rf
  have hl := lv_entry ([.ref o0, .ref o1]) (n := 3) (Nat.le_of_ble_eq_true rfl)
  rw [lg_entry_eq]
  generalize (lg_sl ([.ref o0, .ref o1]) ++ List.replicate (3 - (lg_sl ([.ref o0, .ref o1])).length) Slot.unset).toArray = ls at hl ⊢
  have hl : lv_has ls 3 [(0, .ref o0), (1, .ref o1)] := hl
  have hfr0 : ∀ b, kd b ≠ 517 → kd b ≠ 518 → kd b ≠ 520 → f b = f b := fun _ _ _ _ => rfl
  refine lv_aload_n hx hb dX8_begin_0 rfl (lv_at hl 0 rfl) ?_
  obtain ⟨a_2, a_3, a_4, a_5, a_6, hfo_1, ⟨ma_2, ka_2⟩, ⟨ma_3, ka_3⟩, ⟨ma_4, ka_4⟩, ⟨ma_5, ka_5⟩, ⟨ma_6, ka_6⟩⟩ := un_8 (hG _ mo0) ko0
  refine tk_getP (D := (dC, dI)) (ci := 8) (v := .ref a_6) (C := RX8) (T := TX8) (N := 5) hx hb hU inlX8 hown hK hP mo0 hfo_1 rfl 4 (by decide) (hU _ wd_124) (fun _ h9 => h9) rfl dX8_begin_1 ?_
  refine lv_iconst (v := 0) hx hb dX8_begin_4 (by decide) ?_
  refine lv_iconst (v := 0) hx hb dX8_begin_5 (by decide) ?_
  obtain ⟨g_8, hfo_7, hbg_8⟩ := un_520 (hG _ ma_6) ka_6
  refine tk_istP hx hb hK hP hD hS 0 ma_6 hfo_7 rfl (vp_in_nI (n := 0) (by decide) (by decide)) dX8_begin_6 (fun H locs hP hD hS => ?_)
  obtain ⟨f_10, ef_10⟩ : ∃ y : Nat → va_E, y = va_up f a_6 (.inl (cI, 10, .inl (upd g_8 (Int32.toNatClampNeg 0) 0))) := ⟨_, rfl⟩
  have hP : va_P (dC, dI) vwCl (va_pl L f_10) H := by rw [ef_10]; exact hP
  have hD : va_D (fun q => q ∈ L) (va_pl L f_10) := by rw [ef_10]; exact hD
  have hG : GI (okc cI cL cZ cR cG cH L kd) kd L f_10 := by rw [ef_10]; exact hG.set a_6 (mk_520 ka_6 ⟨_, rfl, okI_up hbg_8 (by decide) _⟩)
  have hfo_11 : f_10 o0 = .inr (8, [.ref a_2, .ref a_3, .ref a_4, .ref a_5, .ref a_6]) := by rw [ef_10, up_ne (kd_ne ka_6 ko0 (by decide))]; exact hfo_1
  have hfr0 : ∀ b, kd b ≠ 517 → kd b ≠ 518 → kd b ≠ 520 → f_10 b = f b := fun b q517 q518 q520 => (congrFun ef_10 b).trans ((up_ne (fun e9 => q520 (by rw [e9]; exact ka_6))).trans (hfr0 b q517 q518 q520))
  have hfo_12 : f_10 a_6 = .inl (cI, 10, .inl (upd g_8 (Int32.toNatClampNeg 0) 0)) := by rw [ef_10]; exact up_self
  refine lv_iconst (v := 0) hx hb dX8_begin_7 (by decide) ?_
  refine lv_istore_n (lv' := [(2, .int 0), (0, .ref o0), (1, .ref o1)]) hx hb dX8_begin_8 rfl hl (by decide) rfl (fun ls hl => ?_)
  have hloop_28 : ∀ (n : Nat), ∀ (y_29 : Int32), (0 ≤ y_29.toInt ∧ y_29.toInt ≤ 8) → ∀ (f_31 : Nat → va_E), GI (okc cI cL cZ cR cG cH L kd) kd L f_31 → ∀ (H : Heap) (locs : List Loc), va_P (dC, dI) vwCl (va_pl L f_31) H → va_S (fun q => q ∈ L) s.heap H locs → va_D (fun q => q ∈ L) (va_pl L f_31) → (∀ b, kd b ≠ 517 → kd b ≠ 518 → kd b ≠ 520 → f_31 b = f b) → (f_31 o0 = .inr (8, [.ref a_2, .ref a_3, .ref a_4, .ref a_5, .ref a_6])) → 8 - y_29.toInt < (n : Int) → ∀ (ls : Array Slot), lv_has ls 3 [(2, .int y_29), (0, .ref o0), (1, .ref o1)] → W p l e (headSpec (wU yX8_begin cX8_begin 3 none) { frames := 0, cells := 0, slots := 0, locals := 0 }).room s m [.ref o0, .ref o1].toArray below meth c H locs 0 0 (MQ below (va_Qv (fun (f9 : Nat → va_E) => GI (okc cI cL cZ cR cG cH L kd) kd L f9 ∧ (∀ b, kd b ≠ 517 → kd b ≠ 518 → kd b ≠ 520 → f9 b = f b)) (qP (dC, dI) cI cL cZ cR cG cH L) (fun q => q ∈ L)) [.ref o0, .ref o1].toArray s 0 0 (fun q => q ∈ L)) (F0 m 9 ls []) := by
    intro n
    induction n with
    | zero => intro y_29 by_29 f_31 hG H locs hP hS hD hfr0 hfo_32 hmuhloop_28 ls hl; exfalso; omega
    | succ n ih_hloop_28 =>
      intro y_29 by_29 f_31 hG H locs hP hS hD hfr0 hfo_32 hmuhloop_28 ls hl
      refine lv_iload_n hx hb dX8_begin_9 rfl (lv_at hl 0 rfl) ?_
      refine lv_aload_n hx hb dX8_begin_10 rfl (lv_at hl 2 rfl) ?_
      obtain ⟨a_34, v_35, a_36, a_37, a_38, a_39, v_40, a_41, a_42, a_43, a_44, a_45, v_46, a_47, a_48, a_49, hfo_33, ⟨ma_34, ka_34⟩, bv_35, ⟨ma_36, ka_36⟩, ⟨ma_37, ka_37⟩, ⟨ma_38, ka_38⟩, ⟨ma_39, ka_39⟩, bv_40, ⟨ma_41, ka_41⟩, ⟨ma_42, ka_42⟩, ⟨ma_43, ka_43⟩, ⟨ma_44, ka_44⟩, ⟨ma_45, ka_45⟩, bv_46, ⟨ma_47, ka_47⟩, ⟨ma_48, ka_48⟩, ⟨ma_49, ka_49⟩⟩ := un_7 (hG _ mo1) ko1
      refine tk_getP (D := (dC, dI)) (ci := 7) (v := .int v_46) (C := RX7) (T := TX7) (N := 16) hx hb hU inlX7 hown hK hP mo1 hfo_33 rfl 12 (by decide) (hU _ wd_759) (fun _ h9 => h9) rfl dX8_begin_11 ?_
      refine lv_icmp_ge (tgt := 52) hx hb dX8_begin_14 (by decide) (fun c_50 => ?_) (fun c_50 => ?_)
      · skip
        rw [Int32.le_iff_toInt_le] at c_50
        exact W.vret hx hb hr (fun t ht hW => ⟨⟨f_31, rfl, ⟨hG, hfr0⟩, by rw [ht]; exact hP, va_K.moved hW.alike hK, pl_in hD⟩, hS.F ht⟩) hS.2.2 dX8_begin_52
      · skip
        rw [Int32.le_iff_toInt_le] at c_50
        refine lv_aload_n hx hb dX8_begin_17 rfl (lv_at hl 1 rfl) ?_
        refine tk_getP (D := (dC, dI)) (ci := 8) (v := .ref a_2) (C := RX8) (T := TX8) (N := 5) hx hb hU inlX8 hown hK hP mo0 hfo_32 rfl 0 (by decide) (hU _ wd_120) (fun _ h9 => h9) rfl dX8_begin_18 ?_
        refine lv_iload_n hx hb dX8_begin_21 rfl (lv_at hl 0 rfl) ?_
        refine lv_aload_n hx hb dX8_begin_22 rfl (lv_at hl 2 rfl) ?_
        refine tk_getP (D := (dC, dI)) (ci := 7) (v := .ref a_45) (C := RX7) (T := TX7) (N := 16) hx hb hU inlX7 hown hK hP mo1 hfo_33 rfl 11 (by decide) (hU _ wd_760) (fun _ h9 => h9) rfl dX8_begin_23 ?_
        refine lv_iload_n hx hb dX8_begin_26 rfl (lv_at hl 0 rfl) ?_
        obtain ⟨g_52, hfo_51, hbg_52⟩ := un_515 (hG _ ma_45) ka_45
        obtain ⟨a_53, hga_53, ma_53, ka_53⟩ := hbg_52 (Int32.toNatClampNeg y_29) (in_lt (vp_in_iff.mpr (by constructor <;> omega)))
        refine tk_aldP hx hb hK hP 3 ma_45 hfo_51 rfl (vp_in_iff.mpr (by constructor <;> omega)) hga_53 dX8_begin_27 ?_
        obtain ⟨v_55, v_56, v_57, v_58, a_59, a_60, a_61, a_62, v_63, v_64, v_65, hfo_54, bv_55, bv_56, bv_57, bv_58, ⟨ma_59, ka_59⟩, ⟨ma_60, ka_60⟩, ⟨ma_61, ka_61⟩, ⟨ma_62, ka_62⟩⟩ := un_4 (hG _ ma_53) ka_53
        have bv_63 : ((-2147483648) ≤ v_63.toInt ∧ v_63.toInt ≤ 2147483647) := ⟨i32_lo _, i32_hi _⟩
        have bv_64 : ((-2147483648) ≤ v_64.toInt ∧ v_64.toInt ≤ 2147483647) := ⟨i32_lo _, i32_hi _⟩
        have bv_65 : ((-2147483648) ≤ v_65.toInt ∧ v_65.toInt ≤ 2147483647) := ⟨i32_lo _, i32_hi _⟩
        refine tk_getP (D := (dC, dI)) (ci := 4) (v := .int v_63) (C := RX4) (T := TX4) (N := 11) hx hb hU inlX4 hown hK hP ma_53 hfo_54 rfl 8 (by decide) (hU _ wd_761) (fun _ h9 => h9) rfl dX8_begin_28 ?_
        obtain ⟨g_67, hfo_66, hbg_67⟩ := un_517 (hG _ ma_2) ka_2
        refine tk_istP hx hb hK hP hD hS 0 ma_2 hfo_66 rfl (vp_in_iff.mpr (by constructor <;> omega)) dX8_begin_31 (fun H locs hP hD hS => ?_)
        obtain ⟨f_69, ef_69⟩ : ∃ y : Nat → va_E, y = va_up f_31 a_2 (.inl (cI, 80, .inl (upd g_67 (Int32.toNatClampNeg y_29) v_63))) := ⟨_, rfl⟩
        have hP : va_P (dC, dI) vwCl (va_pl L f_69) H := by rw [ef_69]; exact hP
        have hD : va_D (fun q => q ∈ L) (va_pl L f_69) := by rw [ef_69]; exact hD
        have hG : GI (okc cI cL cZ cR cG cH L kd) kd L f_69 := by rw [ef_69]; exact hG.set a_2 (mk_517 ka_2 ⟨_, rfl, okI_up hbg_67 ⟨i32_lo _, i32_hi _⟩ _⟩)
        have hfo_70 : f_69 o0 = .inr (8, [.ref a_2, .ref a_3, .ref a_4, .ref a_5, .ref a_6]) := by rw [ef_69, up_ne (kd_ne ka_2 ko0 (by decide))]; exact hfo_32
        have hfo_71 : f_69 o1 = .inr (7, [.ref a_34, .int v_35, .ref a_36, .ref a_37, .ref a_38, .ref a_39, .int v_40, .ref a_41, .ref a_42, .ref a_43, .ref a_44, .ref a_45, .int v_46, .ref a_47, .ref a_48, .ref a_49]) := by rw [ef_69, up_ne (kd_ne ka_2 ko1 (by decide))]; exact hfo_33
        have hfo_72 : f_69 a_45 = .inl (cR, 8, .inr (.inr (.inr (.inr g_52)))) := by rw [ef_69, up_ne (kd_ne ka_2 ka_45 (by decide))]; exact hfo_51
        have hfo_73 : f_69 a_53 = .inr (4, [.int v_55, .int v_56, .int v_57, .int v_58, .ref a_59, .ref a_60, .ref a_61, .ref a_62, .int v_63, .int v_64, .int v_65]) := by rw [ef_69, up_ne (kd_ne ka_2 ka_53 (by decide))]; exact hfo_54
        have hfr0 : ∀ b, kd b ≠ 517 → kd b ≠ 518 → kd b ≠ 520 → f_69 b = f b := fun b q517 q518 q520 => (congrFun ef_69 b).trans ((up_ne (fun e9 => q517 (by rw [e9]; exact ka_2))).trans (hfr0 b q517 q518 q520))
        have hfo_74 : f_69 a_2 = .inl (cI, 80, .inl (upd g_67 (Int32.toNatClampNeg y_29) v_63)) := by rw [ef_69]; exact up_self
        refine lv_aload_n hx hb dX8_begin_32 rfl (lv_at hl 1 rfl) ?_
        refine tk_getP (D := (dC, dI)) (ci := 8) (v := .ref a_3) (C := RX8) (T := TX8) (N := 5) hx hb hU inlX8 hown hK hP mo0 hfo_70 rfl 1 (by decide) (hU _ wd_121) (fun _ h9 => h9) rfl dX8_begin_33 ?_
        refine lv_iload_n hx hb dX8_begin_36 rfl (lv_at hl 0 rfl) ?_
        refine lv_iconst (v := 0) hx hb dX8_begin_37 (by decide) ?_
        obtain ⟨g_76, hfo_75, hbg_76⟩ := un_517 (hG _ ma_3) ka_3
        refine tk_istP hx hb hK hP hD hS 0 ma_3 hfo_75 rfl (vp_in_iff.mpr (by constructor <;> omega)) dX8_begin_38 (fun H locs hP hD hS => ?_)
        obtain ⟨f_78, ef_78⟩ : ∃ y : Nat → va_E, y = va_up f_69 a_3 (.inl (cI, 80, .inl (upd g_76 (Int32.toNatClampNeg y_29) 0))) := ⟨_, rfl⟩
        have hP : va_P (dC, dI) vwCl (va_pl L f_78) H := by rw [ef_78]; exact hP
        have hD : va_D (fun q => q ∈ L) (va_pl L f_78) := by rw [ef_78]; exact hD
        have hG : GI (okc cI cL cZ cR cG cH L kd) kd L f_78 := by rw [ef_78]; exact hG.set a_3 (mk_517 ka_3 ⟨_, rfl, okI_up hbg_76 ⟨i32_lo _, i32_hi _⟩ _⟩)
        have hfo_79 : f_78 o0 = .inr (8, [.ref a_2, .ref a_3, .ref a_4, .ref a_5, .ref a_6]) := by rw [ef_78, up_ne (kd_ne ka_3 ko0 (by decide))]; exact hfo_70
        have hfo_80 : f_78 o1 = .inr (7, [.ref a_34, .int v_35, .ref a_36, .ref a_37, .ref a_38, .ref a_39, .int v_40, .ref a_41, .ref a_42, .ref a_43, .ref a_44, .ref a_45, .int v_46, .ref a_47, .ref a_48, .ref a_49]) := by rw [ef_78, up_ne (kd_ne ka_3 ko1 (by decide))]; exact hfo_71
        have hfo_81 : f_78 a_45 = .inl (cR, 8, .inr (.inr (.inr (.inr g_52)))) := by rw [ef_78, up_ne (kd_ne ka_3 ka_45 (by decide))]; exact hfo_72
        have hfo_82 : f_78 a_53 = .inr (4, [.int v_55, .int v_56, .int v_57, .int v_58, .ref a_59, .ref a_60, .ref a_61, .ref a_62, .int v_63, .int v_64, .int v_65]) := by rw [ef_78, up_ne (kd_ne ka_3 ka_53 (by decide))]; exact hfo_73
        have hfr0 : ∀ b, kd b ≠ 517 → kd b ≠ 518 → kd b ≠ 520 → f_78 b = f b := fun b q517 q518 q520 => (congrFun ef_78 b).trans ((up_ne (fun e9 => q517 (by rw [e9]; exact ka_3))).trans (hfr0 b q517 q518 q520))
        have hfo_83 : f_78 a_3 = .inl (cI, 80, .inl (upd g_76 (Int32.toNatClampNeg y_29) 0)) := by rw [ef_78]; exact up_self
        refine lv_aload_n hx hb dX8_begin_39 rfl (lv_at hl 1 rfl) ?_
        refine tk_getP (D := (dC, dI)) (ci := 8) (v := .ref a_4) (C := RX8) (T := TX8) (N := 5) hx hb hU inlX8 hown hK hP mo0 hfo_79 rfl 2 (by decide) (hU _ wd_122) (fun _ h9 => h9) rfl dX8_begin_40 ?_
        refine lv_iload_n hx hb dX8_begin_43 rfl (lv_at hl 0 rfl) ?_
        refine lv_iconst (v := 0) hx hb dX8_begin_44 (by decide) ?_
        obtain ⟨g_85, hfo_84, hbg_85⟩ := un_518 (hG _ ma_4) ka_4
        refine tk_istP hx hb hK hP hD hS 0 ma_4 hfo_84 rfl (vp_in_iff.mpr (by constructor <;> omega)) dX8_begin_45 (fun H locs hP hD hS => ?_)
        obtain ⟨f_87, ef_87⟩ : ∃ y : Nat → va_E, y = va_up f_78 a_4 (.inl (cI, 80, .inl (upd g_85 (Int32.toNatClampNeg y_29) 0))) := ⟨_, rfl⟩
        have hP : va_P (dC, dI) vwCl (va_pl L f_87) H := by rw [ef_87]; exact hP
        have hD : va_D (fun q => q ∈ L) (va_pl L f_87) := by rw [ef_87]; exact hD
        have hG : GI (okc cI cL cZ cR cG cH L kd) kd L f_87 := by rw [ef_87]; exact hG.set a_4 (mk_518 ka_4 ⟨_, rfl, okI_up hbg_85 (by decide) _⟩)
        have hfo_88 : f_87 o0 = .inr (8, [.ref a_2, .ref a_3, .ref a_4, .ref a_5, .ref a_6]) := by rw [ef_87, up_ne (kd_ne ka_4 ko0 (by decide))]; exact hfo_79
        have hfo_89 : f_87 o1 = .inr (7, [.ref a_34, .int v_35, .ref a_36, .ref a_37, .ref a_38, .ref a_39, .int v_40, .ref a_41, .ref a_42, .ref a_43, .ref a_44, .ref a_45, .int v_46, .ref a_47, .ref a_48, .ref a_49]) := by rw [ef_87, up_ne (kd_ne ka_4 ko1 (by decide))]; exact hfo_80
        have hfo_90 : f_87 a_45 = .inl (cR, 8, .inr (.inr (.inr (.inr g_52)))) := by rw [ef_87, up_ne (kd_ne ka_4 ka_45 (by decide))]; exact hfo_81
        have hfo_91 : f_87 a_53 = .inr (4, [.int v_55, .int v_56, .int v_57, .int v_58, .ref a_59, .ref a_60, .ref a_61, .ref a_62, .int v_63, .int v_64, .int v_65]) := by rw [ef_87, up_ne (kd_ne ka_4 ka_53 (by decide))]; exact hfo_82
        have hfr0 : ∀ b, kd b ≠ 517 → kd b ≠ 518 → kd b ≠ 520 → f_87 b = f b := fun b q517 q518 q520 => (congrFun ef_87 b).trans ((up_ne (fun e9 => q518 (by rw [e9]; exact ka_4))).trans (hfr0 b q517 q518 q520))
        have hfo_92 : f_87 a_4 = .inl (cI, 80, .inl (upd g_85 (Int32.toNatClampNeg y_29) 0)) := by rw [ef_87]; exact up_self
        obtain ⟨x_93, ex_93⟩ : ∃ y : Int32, y_29 + 1 = y := ⟨_, rfl⟩
        have hx_93 : x_93.toInt = y_29.toInt + 1 := by rw [← ex_93, ad_I (by rw [ti_1]; omega) (by rw [ti_1]; omega), ti_1]
        have bx_93 : (1 ≤ x_93.toInt ∧ x_93.toInt ≤ 8) := by constructor <;> omega
        refine lv_iinc (v := x_93) (lv' := [(2, .int x_93), (0, .ref o0), (1, .ref o1)]) hx hb dX8_begin_46 hl (k := 0) rfl ex_93 (by decide) rfl (fun ls hl => ?_)
        refine lv_goto (tgt := 9) hx hb dX8_begin_49 (by decide) ?_
        exact ih_hloop_28 x_93 (by constructor <;> omega) f_87 hG _ _ hP hS hD hfr0 hfo_88 (by omega) ls (lv_sub hl [0, 1, 2] rfl)
  exact hloop_28 9 0 (by decide) f_10 hG _ _ hP hS hD hfr0 hfo_11 (by (try rw [ti_0]) <;> omega) ls hl
set_option maxHeartbeats 8000000 in
set_option maxRecDepth 100000 in
theorem s_X8_owe_k8_k4 (l : Launch) (D : va_G) (cI cL cZ cR cG cH : ClassId) (Z : zT) (kd : Nat → Nat) (L : List Nat) (f : Nat → va_E) (hG : GI (okc cI cL cZ cR cG cH L kd) kd L f) (o0 : Nat) (mo0 : o0 ∈ L) (ko0 : kd o0 = 8) (o1 : Nat) (mo1 : o1 ∈ L) (ko1 : kd o1 = 4) (p2 : Int32) (bp2 : (0 ≤ p2.toInt ∧ p2.toInt ≤ 79)) (p3 : Int32) : mPI l D cI cL cZ cR cG cH Z yX8_owe cX8_owe 8 (some .boolean) 0 0 [.ref o0, .ref o1, .int p2, .int p3] L f (fun (r : Int32) (f9 : Nat → va_E) => GI (okc cI cL cZ cR cG cH L kd) kd L f9 ∧ (0 ≤ r.toInt ∧ r.toInt ≤ 1) ∧ (∀ b, kd b ≠ 518 → kd b ≠ 519 → f9 b = f b)) := by
  obtain ⟨dC, dI⟩ := D
  refine Met.ofW (cc := cX8_owe) (maxL := 8) (ret := (some .boolean)) (by decide) rfl ?_
  intro p e s m args below meth c s₁ B hml hv
  obtain ⟨rfl, hP, hK, hD0, hN, hZ⟩ := hv
  have hx := B.exec
  have hb := B.bytes
  have hr := B.returns
  have hU : ∀ w ∈ wsU, w.before _ s = true := fun w h => atoms_spec (ws := wU yX8_owe cX8_owe 8 (some .boolean)) B.pre w (List.mem_cons_of_mem _ h)
  have hown : s.vm.findClass RX8 = some m.cls := findClass_of_methodNamed B.named
  have hlocks := B.notSynchronized
  have hD := pl_in hD0
  have hS : va_S (fun q => q ∈ L) s.heap s.heap [] := va_S.rf
  have hl := lv_entry ([.ref o0, .ref o1, .int p2, .int p3]) (n := 8) (Nat.le_of_ble_eq_true rfl)
  rw [lg_entry_eq]
  generalize (lg_sl ([.ref o0, .ref o1, .int p2, .int p3]) ++ List.replicate (8 - (lg_sl ([.ref o0, .ref o1, .int p2, .int p3])).length) Slot.unset).toArray = ls at hl ⊢
  have hl : lv_has ls 8 [(0, .ref o0), (1, .ref o1), (2, .int p2), (3, .int p3)] := hl
  have bp3 : ((-2147483648) ≤ p3.toInt ∧ p3.toInt ≤ 2147483647) := ⟨i32_lo _, i32_hi _⟩
  have hfr0 : ∀ b, kd b ≠ 518 → kd b ≠ 519 → f b = f b := fun _ _ _ => rfl
  refine lv_iload_n hx hb dX8_owe_0 rfl (lv_at hl 3 rfl) ?_
  refine lv_aload_n hx hb dX8_owe_1 rfl (lv_at hl 1 rfl) ?_
  obtain ⟨v_2, v_3, v_4, v_5, a_6, a_7, a_8, a_9, v_10, v_11, v_12, hfo_1, bv_2, bv_3, bv_4, bv_5, ⟨ma_6, ka_6⟩, ⟨ma_7, ka_7⟩, ⟨ma_8, ka_8⟩, ⟨ma_9, ka_9⟩⟩ := un_4 (hG _ mo1) ko1
  have bv_10 : ((-2147483648) ≤ v_10.toInt ∧ v_10.toInt ≤ 2147483647) := ⟨i32_lo _, i32_hi _⟩
  have bv_11 : ((-2147483648) ≤ v_11.toInt ∧ v_11.toInt ≤ 2147483647) := ⟨i32_lo _, i32_hi _⟩
  have bv_12 : ((-2147483648) ≤ v_12.toInt ∧ v_12.toInt ≤ 2147483647) := ⟨i32_lo _, i32_hi _⟩
  refine tk_getP (D := (dC, dI)) (ci := 4) (v := .int v_12) (C := RX4) (T := TX4) (N := 11) hx hb hU inlX4 hown hK hP mo1 hfo_1 rfl 10 (by decide) (hU _ wd_842) (fun _ h9 => h9) rfl dX8_owe_2 ?_
  refine lv_iand hx hb dX8_owe_5 ?_
  refine lv_topi (fun x_13 ex_13 => ?_)
  have bx_13 : ((-2147483648) ≤ x_13.toInt ∧ x_13.toInt ≤ 2147483647) := ⟨i32_lo _, i32_hi _⟩
  refine lv_if_eq (tgt := 11) hx hb dX8_owe_6 (by decide) (fun c_14 => ?_) (fun c_14 => ?_)
  · skip
    rw [← Int32.toInt_inj, ti_0] at c_14
    refine lv_iload_n hx hb dX8_owe_11 rfl (lv_at hl 2 rfl) ?_
    refine lv_bipush (v := 10) hx hb dX8_owe_12 (by decide) ?_
    refine lv_imul hx hb dX8_owe_14 ?_
    refine lv_topi (fun x_15 ex_15 => ?_)
    have hx_15 : x_15.toInt = p2.toInt * 10 := by rw [ex_15, ml_I (by rw [ti_10]; omega) (by rw [ti_10]; omega), ti_10]
    have bx_15 : (0 ≤ x_15.toInt ∧ x_15.toInt ≤ 790) := by constructor <;> omega
    refine lv_istore (lv' := [(4, .int x_15), (0, .ref o0), (1, .ref o1), (2, .int p2), (3, .int p3)]) hx hb dX8_owe_15 hl (by decide) rfl (fun ls hl => ?_)
    refine lv_iload hx hb dX8_owe_17 (lv_at hl 0 rfl) ?_
    refine lv_aload_n hx hb dX8_owe_19 rfl (lv_at hl 1 rfl) ?_
    obtain ⟨a_17, a_18, a_19, a_20, a_21, hfo_16, ⟨ma_17, ka_17⟩, ⟨ma_18, ka_18⟩, ⟨ma_19, ka_19⟩, ⟨ma_20, ka_20⟩, ⟨ma_21, ka_21⟩⟩ := un_8 (hG _ mo0) ko0
    refine tk_getP (D := (dC, dI)) (ci := 8) (v := .ref a_19) (C := RX8) (T := TX8) (N := 5) hx hb hU inlX8 hown hK hP mo0 hfo_16 rfl 2 (by decide) (hU _ wd_122) (fun _ h9 => h9) rfl dX8_owe_20 ?_
    refine lv_iload_n hx hb dX8_owe_23 rfl (lv_at hl 3 rfl) ?_
    obtain ⟨g_23, hfo_22, hbg_23⟩ := un_518 (hG _ ma_19) ka_19
    refine tk_ildP hx hb hK hP 0 ma_19 hfo_22 rfl (vp_in_iff.mpr (by constructor <;> omega)) dX8_owe_24 ?_
    refine lv_topi (fun x_24 ex_24 => ?_)
    have bx_24 : (0 ≤ x_24.toInt ∧ x_24.toInt ≤ 10) := by rw [ex_24]; exact hbg_23 _
    refine lv_iadd hx hb dX8_owe_25 ?_
    refine lv_topi (fun x_25 ex_25 => ?_)
    have hx_25 : x_25.toInt = x_15.toInt + x_24.toInt := by rw [ex_25, ad_I (by omega) (by omega)]
    have bx_25 : (0 ≤ x_25.toInt ∧ x_25.toInt ≤ 800) := by constructor <;> omega
    refine lv_istore (lv' := [(5, .int x_25), (4, .int x_15), (0, .ref o0), (1, .ref o1), (2, .int p2), (3, .int p3)]) hx hb dX8_owe_26 hl (by decide) rfl (fun ls hl => ?_)
    have hloop_28 : ∀ (n : Nat), ∀ (y_29 : Int32), (0 ≤ y_29.toInt ∧ y_29.toInt ≤ 800) → (y_29.toInt ≤ x_25.toInt) → y_29.toInt - 0 < (n : Int) → ∀ (ls : Array Slot), lv_has ls 8 [(5, .int y_29), (4, .int x_15), (0, .ref o0), (1, .ref o1), (2, .int p2), (3, .int p3)] → W p l e (headSpec (wU yX8_owe cX8_owe 8 (some .boolean)) { frames := 0, cells := 0, slots := 0, locals := 0 }).room s m [.ref o0, .ref o1, .int p2, .int p3].toArray below meth c s.heap [] 0 0 (MQ below (va_Qi (fun (r : Int32) (f9 : Nat → va_E) => GI (okc cI cL cZ cR cG cH L kd) kd L f9 ∧ (0 ≤ r.toInt ∧ r.toInt ≤ 1) ∧ (∀ b, kd b ≠ 518 → kd b ≠ 519 → f9 b = f b)) (qP (dC, dI) cI cL cZ cR cG cH L) (fun q => q ∈ L)) [.ref o0, .ref o1, .int p2, .int p3].toArray s 0 0 (fun q => q ∈ L)) (F0 m 28 ls []) := by
      intro n
      induction n with
      | zero => intro y_29 by_29 hrelhloop_28_0 hmuhloop_28 ls hl; exfalso; omega
      | succ n ih_hloop_28 =>
        intro y_29 by_29 hrelhloop_28_0 hmuhloop_28 ls hl
        refine lv_iload hx hb dX8_owe_28 (lv_at hl 0 rfl) ?_
        refine lv_iload hx hb dX8_owe_30 (lv_at hl 1 rfl) ?_
        have hcut_30 : ∀ (ls : Array Slot), lv_has ls 8 [(5, .int y_29), (4, .int x_15), (0, .ref o0), (1, .ref o1), (2, .int p2), (3, .int p3)] → W p l e (headSpec (wU yX8_owe cX8_owe 8 (some .boolean)) { frames := 0, cells := 0, slots := 0, locals := 0 }).room s m [.ref o0, .ref o1, .int p2, .int p3].toArray below meth c s.heap [] 0 0 (MQ below (va_Qi (fun (r : Int32) (f9 : Nat → va_E) => GI (okc cI cL cZ cR cG cH L kd) kd L f9 ∧ (0 ≤ r.toInt ∧ r.toInt ≤ 1) ∧ (∀ b, kd b ≠ 518 → kd b ≠ 519 → f9 b = f b)) (qP (dC, dI) cI cL cZ cR cG cH L) (fun q => q ∈ L)) [.ref o0, .ref o1, .int p2, .int p3].toArray s 0 0 (fun q => q ∈ L)) (F0 m 54 ls []) := by
          intro ls hl
          refine lv_iload hx hb dX8_owe_54 (lv_at hl 0 rfl) ?_
          refine lv_iload hx hb dX8_owe_56 (lv_at hl 1 rfl) ?_
          have hcut_32 : ∀ (y_31 : Int32), (0 ≤ y_31.toInt ∧ y_31.toInt ≤ 1) → ∀ (ls : Array Slot), lv_has ls 8 [(5, .int y_29), (4, .int x_15), (0, .ref o0), (1, .ref o1), (2, .int p2), (3, .int p3)] → W p l e (headSpec (wU yX8_owe cX8_owe 8 (some .boolean)) { frames := 0, cells := 0, slots := 0, locals := 0 }).room s m [.ref o0, .ref o1, .int p2, .int p3].toArray below meth c s.heap [] 0 0 (MQ below (va_Qi (fun (r : Int32) (f9 : Nat → va_E) => GI (okc cI cL cZ cR cG cH L kd) kd L f9 ∧ (0 ≤ r.toInt ∧ r.toInt ≤ 1) ∧ (∀ b, kd b ≠ 518 → kd b ≠ 519 → f9 b = f b)) (qP (dC, dI) cI cL cZ cR cG cH L) (fun q => q ∈ L)) [.ref o0, .ref o1, .int p2, .int p3].toArray s 0 0 (fun q => q ∈ L)) (F0 m 79 ls [.int y_31]) := by
            intro y_31 by_31 ls hl
            refine lv_istore (lv' := [(6, .int y_31), (5, .int y_29), (4, .int x_15), (0, .ref o0), (1, .ref o1), (2, .int p2), (3, .int p3)]) hx hb dX8_owe_79 hl (by decide) rfl (fun ls hl => ?_)
            refine lv_iload_n hx hb dX8_owe_81 rfl (lv_at hl 6 rfl) ?_
            refine lv_if_eq (tgt := 101) hx hb dX8_owe_82 (by decide) (fun c_33 => ?_) (fun c_33 => ?_)
            · skip
              rw [← Int32.toInt_inj, ti_0] at c_33
              refine lv_iload_n hx hb dX8_owe_101 rfl (lv_at hl 6 rfl) ?_
              refine lv_if_eq (tgt := 109) hx hb dX8_owe_102 (by decide) (fun c_34 => ?_) (fun c_34 => ?_)
              · skip
                rw [← Int32.toInt_inj, ti_0] at c_34
                refine lv_iconst (v := 0) hx hb dX8_owe_109 (by decide) ?_
                exact W.zret (v := 0) (ty := .boolean) hx hb hr rfl (fun t ht hW => ⟨⟨0, f, rfl, ⟨hG, (by decide), hfr0⟩, by rw [ht]; exact hP, va_K.moved hW.alike hK, pl_in hD⟩, hS.F ht⟩) hS.2.2 dX8_owe_110
              · skip
                rw [← Int32.toInt_inj, ti_0] at c_34
                exfalso
                omega
            · skip
              rw [← Int32.toInt_inj, ti_0] at c_33
              refine lv_iload hx hb dX8_owe_85 (lv_at hl 0 rfl) ?_
              refine lv_if_ne (tgt := 101) hx hb dX8_owe_87 (by decide) (fun c_35 => ?_) (fun c_35 => ?_)
              · skip
                rw [← Int32.toInt_inj, ti_0] at c_35
                refine lv_iload_n hx hb dX8_owe_101 rfl (lv_at hl 6 rfl) ?_
                refine lv_if_eq (tgt := 109) hx hb dX8_owe_102 (by decide) (fun c_36 => ?_) (fun c_36 => ?_)
                · skip
                  rw [← Int32.toInt_inj, ti_0] at c_36
                  refine lv_iconst (v := 0) hx hb dX8_owe_109 (by decide) ?_
                  exact W.zret (v := 0) (ty := .boolean) hx hb hr rfl (fun t ht hW => ⟨⟨0, f, rfl, ⟨hG, (by decide), hfr0⟩, by rw [ht]; exact hP, va_K.moved hW.alike hK, pl_in hD⟩, hS.F ht⟩) hS.2.2 dX8_owe_110
                · skip
                  rw [← Int32.toInt_inj, ti_0] at c_36
                  refine lv_iconst (v := 1) hx hb dX8_owe_105 (by decide) ?_
                  refine lv_goto (tgt := 110) hx hb dX8_owe_106 (by decide) ?_
                  exact W.zret (v := 1) (ty := .boolean) hx hb hr rfl (fun t ht hW => ⟨⟨1, f, rfl, ⟨hG, (by decide), hfr0⟩, by rw [ht]; exact hP, va_K.moved hW.alike hK, pl_in hD⟩, hS.F ht⟩) hS.2.2 dX8_owe_110
              · skip
                rw [← Int32.toInt_inj, ti_0] at c_35
                refine lv_aload_n hx hb dX8_owe_90 rfl (lv_at hl 3 rfl) ?_
                refine tk_getP (D := (dC, dI)) (ci := 8) (v := .ref a_19) (C := RX8) (T := TX8) (N := 5) hx hb hU inlX8 hown hK hP mo0 hfo_16 rfl 2 (by decide) (hU _ wd_122) (fun _ h9 => h9) rfl dX8_owe_91 ?_
                refine lv_iload_n hx hb dX8_owe_94 rfl (lv_at hl 5 rfl) ?_
                refine tk_ildP hx hb hK hP 0 ma_19 hfo_22 rfl (vp_in_iff.mpr (by constructor <;> omega)) dX8_owe_95 ?_
                refine tk_topi (y := x_24) ex_24.symm ?_
                refine lv_bipush (v := 10) hx hb dX8_owe_96 (by decide) ?_
                refine lv_icmp_lt (tgt := 111) hx hb dX8_owe_98 (by decide) (fun c_37 => ?_) (fun c_37 => ?_)
                · skip
                  rw [Int32.lt_iff_toInt_lt, ti_10] at c_37
                  refine lv_iload hx hb dX8_owe_111 (lv_at hl 2 rfl) ?_
                  refine lv_aload_n hx hb dX8_owe_113 rfl (lv_at hl 3 rfl) ?_
                  refine tk_getP (D := (dC, dI)) (ci := 8) (v := .ref a_19) (C := RX8) (T := TX8) (N := 5) hx hb hU inlX8 hown hK hP mo0 hfo_16 rfl 2 (by decide) (hU _ wd_122) (fun _ h9 => h9) rfl dX8_owe_114 ?_
                  refine lv_iload_n hx hb dX8_owe_117 rfl (lv_at hl 5 rfl) ?_
                  refine tk_ildP hx hb hK hP 0 ma_19 hfo_22 rfl (vp_in_iff.mpr (by constructor <;> omega)) dX8_owe_118 ?_
                  refine tk_topi (y := x_24) ex_24.symm ?_
                  refine lv_iadd hx hb dX8_owe_119 ?_
                  refine lv_topi (fun x_38 ex_38 => ?_)
                  have hx_38 : x_38.toInt = x_15.toInt + x_24.toInt := by rw [ex_38, ad_I (by omega) (by omega)]
                  have bx_38 : (0 ≤ x_38.toInt ∧ x_38.toInt ≤ 799) := by constructor <;> omega
                  refine lv_istore (lv' := [(7, .int x_38), (6, .int y_31), (5, .int y_29), (4, .int x_15), (0, .ref o0), (1, .ref o1), (2, .int p2), (3, .int p3)]) hx hb dX8_owe_120 hl (by decide) rfl (fun ls hl => ?_)
                  have hloop_46 : ∀ (n : Nat), ∀ (y_47 : Int32), (0 ≤ y_47.toInt ∧ y_47.toInt ≤ 799) → ∀ (f_49 : Nat → va_E), GI (okc cI cL cZ cR cG cH L kd) kd L f_49 → ∀ (H : Heap) (locs : List Loc), va_P (dC, dI) vwCl (va_pl L f_49) H → va_S (fun q => q ∈ L) s.heap H locs → va_D (fun q => q ∈ L) (va_pl L f_49) → (∀ b, kd b ≠ 518 → kd b ≠ 519 → f_49 b = f b) → (f_49 o1 = .inr (4, [.int v_2, .int v_3, .int v_4, .int v_5, .ref a_6, .ref a_7, .ref a_8, .ref a_9, .int v_10, .int v_11, .int v_12])) → (f_49 o0 = .inr (8, [.ref a_17, .ref a_18, .ref a_19, .ref a_20, .ref a_21])) → (f_49 a_19 = .inl (cI, 80, .inl g_23)) → y_47.toInt - 0 < (n : Int) → ∀ (ls : Array Slot), lv_has ls 8 [(7, .int y_47), (6, .int y_31), (5, .int y_29), (4, .int x_15), (0, .ref o0), (1, .ref o1), (2, .int p2), (3, .int p3)] → W p l e (headSpec (wU yX8_owe cX8_owe 8 (some .boolean)) { frames := 0, cells := 0, slots := 0, locals := 0 }).room s m [.ref o0, .ref o1, .int p2, .int p3].toArray below meth c H locs 0 0 (MQ below (va_Qi (fun (r : Int32) (f9 : Nat → va_E) => GI (okc cI cL cZ cR cG cH L kd) kd L f9 ∧ (0 ≤ r.toInt ∧ r.toInt ≤ 1) ∧ (∀ b, kd b ≠ 518 → kd b ≠ 519 → f9 b = f b)) (qP (dC, dI) cI cL cZ cR cG cH L) (fun q => q ∈ L)) [.ref o0, .ref o1, .int p2, .int p3].toArray s 0 0 (fun q => q ∈ L)) (F0 m 122 ls []) := by
                    intro n
                    induction n with
                    | zero => intro y_47 by_47 f_49 hG H locs hP hS hD hfr0 hfo_50 hfo_51 hfo_52 hmuhloop_46 ls hl; exfalso; omega
                    | succ n ih_hloop_46 =>
                      intro y_47 by_47 f_49 hG H locs hP hS hD hfr0 hfo_50 hfo_51 hfo_52 hmuhloop_46 ls hl
                      refine lv_iload hx hb dX8_owe_122 (lv_at hl 0 rfl) ?_
                      refine lv_iload hx hb dX8_owe_124 (lv_at hl 2 rfl) ?_
                      refine lv_icmp_le (tgt := 151) hx hb dX8_owe_126 (by decide) (fun c_53 => ?_) (fun c_53 => ?_)
                      · skip
                        rw [Int32.le_iff_toInt_le] at c_53
                        refine lv_aload_n hx hb dX8_owe_151 rfl (lv_at hl 4 rfl) ?_
                        refine tk_getP (D := (dC, dI)) (ci := 8) (v := .ref a_20) (C := RX8) (T := TX8) (N := 5) hx hb hU inlX8 hown hK hP mo0 hfo_51 rfl 3 (by decide) (hU _ wd_123) (fun _ h9 => h9) rfl dX8_owe_152 ?_
                        refine lv_iload hx hb dX8_owe_155 (lv_at hl 2 rfl) ?_
                        refine lv_iload_n hx hb dX8_owe_157 rfl (lv_at hl 7 rfl) ?_
                        obtain ⟨g_55, hfo_54, hbg_55⟩ := un_519 (hG _ ma_20) ka_20
                        refine tk_istP hx hb hK hP hD hS 0 ma_20 hfo_54 rfl (vp_in_iff.mpr (by constructor <;> omega)) dX8_owe_158 (fun H locs hP hD hS => ?_)
                        obtain ⟨f_57, ef_57⟩ : ∃ y : Nat → va_E, y = va_up f_49 a_20 (.inl (cI, 800, .inl (upd g_55 (Int32.toNatClampNeg y_29) p3))) := ⟨_, rfl⟩
                        have hP : va_P (dC, dI) vwCl (va_pl L f_57) H := by rw [ef_57]; exact hP
                        have hD : va_D (fun q => q ∈ L) (va_pl L f_57) := by rw [ef_57]; exact hD
                        have hG : GI (okc cI cL cZ cR cG cH L kd) kd L f_57 := by rw [ef_57]; exact hG.set a_20 (mk_519 ka_20 ⟨_, rfl, okI_up hbg_55 ⟨i32_lo _, i32_hi _⟩ _⟩)
                        have hfo_58 : f_57 o1 = .inr (4, [.int v_2, .int v_3, .int v_4, .int v_5, .ref a_6, .ref a_7, .ref a_8, .ref a_9, .int v_10, .int v_11, .int v_12]) := by rw [ef_57, up_ne (kd_ne ka_20 ko1 (by decide))]; exact hfo_50
                        have hfo_59 : f_57 o0 = .inr (8, [.ref a_17, .ref a_18, .ref a_19, .ref a_20, .ref a_21]) := by rw [ef_57, up_ne (kd_ne ka_20 ko0 (by decide))]; exact hfo_51
                        have hfo_60 : f_57 a_19 = .inl (cI, 80, .inl g_23) := by rw [ef_57, up_ne (kd_ne ka_20 ka_19 (by decide))]; exact hfo_52
                        have hfr0 : ∀ b, kd b ≠ 518 → kd b ≠ 519 → f_57 b = f b := fun b q518 q519 => (congrFun ef_57 b).trans ((up_ne (fun e9 => q519 (by rw [e9]; exact ka_20))).trans (hfr0 b q518 q519))
                        have hfo_61 : f_57 a_20 = .inl (cI, 800, .inl (upd g_55 (Int32.toNatClampNeg y_29) p3)) := by rw [ef_57]; exact up_self
                        refine lv_aload_n hx hb dX8_owe_159 rfl (lv_at hl 4 rfl) ?_
                        refine tk_getP (D := (dC, dI)) (ci := 8) (v := .ref a_19) (C := RX8) (T := TX8) (N := 5) hx hb hU inlX8 hown hK hP mo0 hfo_59 rfl 2 (by decide) (hU _ wd_122) (fun _ h9 => h9) rfl dX8_owe_160 ?_
                        refine lv_iload_n hx hb dX8_owe_163 rfl (lv_at hl 6 rfl) ?_
                        refine lv_dup2_11 hx hb dX8_owe_164 rfl rfl ?_
                        refine tk_ildP hx hb hK hP 0 ma_19 hfo_60 rfl (vp_in_iff.mpr (by constructor <;> omega)) dX8_owe_165 ?_
                        refine tk_topi (y := x_24) ex_24.symm ?_
                        refine lv_iconst (v := 1) hx hb dX8_owe_166 (by decide) ?_
                        refine lv_iadd hx hb dX8_owe_167 ?_
                        refine lv_topi (fun x_62 ex_62 => ?_)
                        have hx_62 : x_62.toInt = x_24.toInt + 1 := by rw [ex_62, ad_I (by rw [ti_1]; omega) (by rw [ti_1]; omega), ti_1]
                        have bx_62 : (1 ≤ x_62.toInt ∧ x_62.toInt ≤ 10) := by constructor <;> omega
                        refine tk_istP hx hb hK hP hD hS 0 ma_19 hfo_60 rfl (vp_in_iff.mpr (by constructor <;> omega)) dX8_owe_168 (fun H locs hP hD hS => ?_)
                        obtain ⟨f_64, ef_64⟩ : ∃ y : Nat → va_E, y = va_up f_57 a_19 (.inl (cI, 80, .inl (upd g_23 (Int32.toNatClampNeg p2) x_62))) := ⟨_, rfl⟩
                        have hP : va_P (dC, dI) vwCl (va_pl L f_64) H := by rw [ef_64]; exact hP
                        have hD : va_D (fun q => q ∈ L) (va_pl L f_64) := by rw [ef_64]; exact hD
                        have hG : GI (okc cI cL cZ cR cG cH L kd) kd L f_64 := by rw [ef_64]; exact hG.set a_19 (mk_518 ka_19 ⟨_, rfl, okI_up hbg_23 (by constructor <;> omega) _⟩)
                        have hfo_65 : f_64 o1 = .inr (4, [.int v_2, .int v_3, .int v_4, .int v_5, .ref a_6, .ref a_7, .ref a_8, .ref a_9, .int v_10, .int v_11, .int v_12]) := by rw [ef_64, up_ne (kd_ne ka_19 ko1 (by decide))]; exact hfo_58
                        have hfo_66 : f_64 o0 = .inr (8, [.ref a_17, .ref a_18, .ref a_19, .ref a_20, .ref a_21]) := by rw [ef_64, up_ne (kd_ne ka_19 ko0 (by decide))]; exact hfo_59
                        have hfr0 : ∀ b, kd b ≠ 518 → kd b ≠ 519 → f_64 b = f b := fun b q518 q519 => (congrFun ef_64 b).trans ((up_ne (fun e9 => q518 (by rw [e9]; exact ka_19))).trans (hfr0 b q518 q519))
                        have hfo_67 : f_64 a_19 = .inl (cI, 80, .inl (upd g_23 (Int32.toNatClampNeg p2) x_62)) := by rw [ef_64]; exact up_self
                        refine lv_iconst (v := 1) hx hb dX8_owe_169 (by decide) ?_
                        exact W.zret (v := 1) (ty := .boolean) hx hb hr rfl (fun t ht hW => ⟨⟨1, f_64, rfl, ⟨hG, (by decide), hfr0⟩, by rw [ht]; exact hP, va_K.moved hW.alike hK, pl_in hD⟩, hS.F ht⟩) hS.2.2 dX8_owe_170
                      · skip
                        rw [Int32.le_iff_toInt_le] at c_53
                        refine lv_aload_n hx hb dX8_owe_129 rfl (lv_at hl 4 rfl) ?_
                        refine tk_getP (D := (dC, dI)) (ci := 8) (v := .ref a_20) (C := RX8) (T := TX8) (N := 5) hx hb hU inlX8 hown hK hP mo0 hfo_51 rfl 3 (by decide) (hU _ wd_123) (fun _ h9 => h9) rfl dX8_owe_130 ?_
                        refine lv_iload hx hb dX8_owe_133 (lv_at hl 0 rfl) ?_
                        refine lv_aload_n hx hb dX8_owe_135 rfl (lv_at hl 4 rfl) ?_
                        refine tk_getP (D := (dC, dI)) (ci := 8) (v := .ref a_20) (C := RX8) (T := TX8) (N := 5) hx hb hU inlX8 hown hK hP mo0 hfo_51 rfl 3 (by decide) (hU _ wd_123) (fun _ h9 => h9) rfl dX8_owe_136 ?_
                        refine lv_iload hx hb dX8_owe_139 (lv_at hl 0 rfl) ?_
                        refine lv_iconst (v := 1) hx hb dX8_owe_141 (by decide) ?_
                        refine lv_isub hx hb dX8_owe_142 ?_
                        refine lv_topi (fun x_68 ex_68 => ?_)
                        have hx_68 : x_68.toInt = y_47.toInt - 1 := by rw [ex_68, sb_I (by rw [ti_1]; omega) (by rw [ti_1]; omega), ti_1]
                        have bx_68 : (0 ≤ x_68.toInt ∧ x_68.toInt ≤ 798) := by constructor <;> omega
                        obtain ⟨g_70, hfo_69, hbg_70⟩ := un_519 (hG _ ma_20) ka_20
                        refine tk_ildP hx hb hK hP 0 ma_20 hfo_69 rfl (vp_in_iff.mpr (by constructor <;> omega)) dX8_owe_143 ?_
                        refine lv_topi (fun x_71 ex_71 => ?_)
                        have bx_71 : ((-2147483648) ≤ x_71.toInt ∧ x_71.toInt ≤ 2147483647) := ⟨i32_lo _, i32_hi _⟩
                        refine tk_istP hx hb hK hP hD hS 0 ma_20 hfo_69 rfl (vp_in_iff.mpr (by constructor <;> omega)) dX8_owe_144 (fun H locs hP hD hS => ?_)
                        obtain ⟨f_73, ef_73⟩ : ∃ y : Nat → va_E, y = va_up f_49 a_20 (.inl (cI, 800, .inl (upd g_70 (Int32.toNatClampNeg y_47) x_71))) := ⟨_, rfl⟩
                        have hP : va_P (dC, dI) vwCl (va_pl L f_73) H := by rw [ef_73]; exact hP
                        have hD : va_D (fun q => q ∈ L) (va_pl L f_73) := by rw [ef_73]; exact hD
                        have hG : GI (okc cI cL cZ cR cG cH L kd) kd L f_73 := by rw [ef_73]; exact hG.set a_20 (mk_519 ka_20 ⟨_, rfl, okI_up hbg_70 ⟨i32_lo _, i32_hi _⟩ _⟩)
                        have hfo_74 : f_73 o1 = .inr (4, [.int v_2, .int v_3, .int v_4, .int v_5, .ref a_6, .ref a_7, .ref a_8, .ref a_9, .int v_10, .int v_11, .int v_12]) := by rw [ef_73, up_ne (kd_ne ka_20 ko1 (by decide))]; exact hfo_50
                        have hfo_75 : f_73 o0 = .inr (8, [.ref a_17, .ref a_18, .ref a_19, .ref a_20, .ref a_21]) := by rw [ef_73, up_ne (kd_ne ka_20 ko0 (by decide))]; exact hfo_51
                        have hfo_76 : f_73 a_19 = .inl (cI, 80, .inl g_23) := by rw [ef_73, up_ne (kd_ne ka_20 ka_19 (by decide))]; exact hfo_52
                        have hfr0 : ∀ b, kd b ≠ 518 → kd b ≠ 519 → f_73 b = f b := fun b q518 q519 => (congrFun ef_73 b).trans ((up_ne (fun e9 => q519 (by rw [e9]; exact ka_20))).trans (hfr0 b q518 q519))
                        have hfo_77 : f_73 a_20 = .inl (cI, 800, .inl (upd g_70 (Int32.toNatClampNeg y_47) x_71)) := by rw [ef_73]; exact up_self
                        obtain ⟨x_78, ex_78⟩ : ∃ y : Int32, y_47 + (-1) = y := ⟨_, rfl⟩
                        have hx_78 : x_78.toInt = y_47.toInt + (-1) := by rw [← ex_78, ad_I (by rw [ti_m1]; omega) (by rw [ti_m1]; omega), ti_m1]
                        have bx_78 : (0 ≤ x_78.toInt ∧ x_78.toInt ≤ 798) := by constructor <;> omega
                        refine lv_iinc (v := x_78) (lv' := [(7, .int x_78), (6, .int y_31), (5, .int y_29), (4, .int x_15), (0, .ref o0), (1, .ref o1), (2, .int p2), (3, .int p3)]) hx hb dX8_owe_145 hl (k := 0) rfl ex_78 (by decide) rfl (fun ls hl => ?_)
                        refine lv_goto (tgt := 122) hx hb dX8_owe_148 (by decide) ?_
                        exact ih_hloop_46 x_78 (by constructor <;> omega) f_73 hG _ _ hP hS hD hfr0 hfo_74 hfo_75 hfo_76 (by omega) ls (lv_sub hl [0, 1, 2, 3, 4, 5, 6, 7] rfl)
                  exact hloop_46 800 x_38 (by constructor <;> omega) f hG _ _ hP hS hD hfr0 hfo_1 hfo_16 hfo_22 (by omega) ls hl
                · skip
                  rw [Int32.lt_iff_toInt_lt, ti_10] at c_37
                  refine lv_iload_n hx hb dX8_owe_101 rfl (lv_at hl 6 rfl) ?_
                  refine lv_if_eq (tgt := 109) hx hb dX8_owe_102 (by decide) (fun c_79 => ?_) (fun c_79 => ?_)
                  · skip
                    rw [← Int32.toInt_inj, ti_0] at c_79
                    refine lv_iconst (v := 0) hx hb dX8_owe_109 (by decide) ?_
                    exact W.zret (v := 0) (ty := .boolean) hx hb hr rfl (fun t ht hW => ⟨⟨0, f, rfl, ⟨hG, (by decide), hfr0⟩, by rw [ht]; exact hP, va_K.moved hW.alike hK, pl_in hD⟩, hS.F ht⟩) hS.2.2 dX8_owe_110
                  · skip
                    rw [← Int32.toInt_inj, ti_0] at c_79
                    refine lv_iconst (v := 1) hx hb dX8_owe_105 (by decide) ?_
                    refine lv_goto (tgt := 110) hx hb dX8_owe_106 (by decide) ?_
                    exact W.zret (v := 1) (ty := .boolean) hx hb hr rfl (fun t ht hW => ⟨⟨1, f, rfl, ⟨hG, (by decide), hfr0⟩, by rw [ht]; exact hP, va_K.moved hW.alike hK, pl_in hD⟩, hS.F ht⟩) hS.2.2 dX8_owe_110
          refine lv_icmp_le (tgt := 78) hx hb dX8_owe_58 (by decide) (fun c_80 => ?_) (fun c_80 => ?_)
          · skip
            rw [Int32.le_iff_toInt_le] at c_80
            refine lv_iconst (v := 0) hx hb dX8_owe_78 (by decide) ?_
            exact hcut_32 0 (by decide) ls (lv_sub hl [0, 1, 2, 3, 4, 5] rfl)
          · skip
            rw [Int32.le_iff_toInt_le] at c_80
            refine lv_aload_n hx hb dX8_owe_61 rfl (lv_at hl 2 rfl) ?_
            refine tk_getP (D := (dC, dI)) (ci := 8) (v := .ref a_20) (C := RX8) (T := TX8) (N := 5) hx hb hU inlX8 hown hK hP mo0 hfo_16 rfl 3 (by decide) (hU _ wd_123) (fun _ h9 => h9) rfl dX8_owe_62 ?_
            refine lv_iload hx hb dX8_owe_65 (lv_at hl 0 rfl) ?_
            refine lv_iconst (v := 1) hx hb dX8_owe_67 (by decide) ?_
            refine lv_isub hx hb dX8_owe_68 ?_
            refine lv_topi (fun x_81 ex_81 => ?_)
            have hx_81 : x_81.toInt = y_29.toInt - 1 := by rw [ex_81, sb_I (by rw [ti_1]; omega) (by rw [ti_1]; omega), ti_1]
            have bx_81 : (0 ≤ x_81.toInt ∧ x_81.toInt ≤ 799) := by constructor <;> omega
            obtain ⟨g_83, hfo_82, hbg_83⟩ := un_519 (hG _ ma_20) ka_20
            refine tk_ildP hx hb hK hP 0 ma_20 hfo_82 rfl (vp_in_iff.mpr (by constructor <;> omega)) dX8_owe_69 ?_
            refine lv_topi (fun x_84 ex_84 => ?_)
            have bx_84 : ((-2147483648) ≤ x_84.toInt ∧ x_84.toInt ≤ 2147483647) := ⟨i32_lo _, i32_hi _⟩
            refine lv_iload_n hx hb dX8_owe_70 rfl (lv_at hl 5 rfl) ?_
            refine lv_icmp_ne (tgt := 78) hx hb dX8_owe_71 (by decide) (fun c_85 => ?_) (fun c_85 => ?_)
            · skip
              rw [← Int32.toInt_inj] at c_85
              refine lv_iconst (v := 0) hx hb dX8_owe_78 (by decide) ?_
              exact hcut_32 0 (by decide) ls (lv_sub hl [0, 1, 2, 3, 4, 5] rfl)
            · skip
              rw [← Int32.toInt_inj] at c_85
              refine lv_iconst (v := 1) hx hb dX8_owe_74 (by decide) ?_
              refine lv_goto (tgt := 79) hx hb dX8_owe_75 (by decide) ?_
              exact hcut_32 1 (by decide) ls (lv_sub hl [0, 1, 2, 3, 4, 5] rfl)
        refine lv_icmp_le (tgt := 54) hx hb dX8_owe_32 (by decide) (fun c_86 => ?_) (fun c_86 => ?_)
        · skip
          rw [Int32.le_iff_toInt_le] at c_86
          exact hcut_30 ls (lv_sub hl [0, 1, 2, 3, 4, 5] rfl)
        · skip
          rw [Int32.le_iff_toInt_le] at c_86
          refine lv_aload_n hx hb dX8_owe_35 rfl (lv_at hl 2 rfl) ?_
          refine tk_getP (D := (dC, dI)) (ci := 8) (v := .ref a_20) (C := RX8) (T := TX8) (N := 5) hx hb hU inlX8 hown hK hP mo0 hfo_16 rfl 3 (by decide) (hU _ wd_123) (fun _ h9 => h9) rfl dX8_owe_36 ?_
          refine lv_iload hx hb dX8_owe_39 (lv_at hl 0 rfl) ?_
          refine lv_iconst (v := 1) hx hb dX8_owe_41 (by decide) ?_
          refine lv_isub hx hb dX8_owe_42 ?_
          refine lv_topi (fun x_87 ex_87 => ?_)
          have hx_87 : x_87.toInt = y_29.toInt - 1 := by rw [ex_87, sb_I (by rw [ti_1]; omega) (by rw [ti_1]; omega), ti_1]
          have bx_87 : (0 ≤ x_87.toInt ∧ x_87.toInt ≤ 799) := by constructor <;> omega
          obtain ⟨g_89, hfo_88, hbg_89⟩ := un_519 (hG _ ma_20) ka_20
          refine tk_ildP hx hb hK hP 0 ma_20 hfo_88 rfl (vp_in_iff.mpr (by constructor <;> omega)) dX8_owe_43 ?_
          refine lv_topi (fun x_90 ex_90 => ?_)
          have bx_90 : ((-2147483648) ≤ x_90.toInt ∧ x_90.toInt ≤ 2147483647) := ⟨i32_lo _, i32_hi _⟩
          refine lv_iload_n hx hb dX8_owe_44 rfl (lv_at hl 5 rfl) ?_
          refine lv_icmp_le (tgt := 54) hx hb dX8_owe_45 (by decide) (fun c_91 => ?_) (fun c_91 => ?_)
          · skip
            rw [Int32.le_iff_toInt_le] at c_91
            exact hcut_30 ls (lv_sub hl [0, 1, 2, 3, 4, 5] rfl)
          · skip
            rw [Int32.le_iff_toInt_le] at c_91
            obtain ⟨x_92, ex_92⟩ : ∃ y : Int32, y_29 + (-1) = y := ⟨_, rfl⟩
            have hx_92 : x_92.toInt = y_29.toInt + (-1) := by rw [← ex_92, ad_I (by rw [ti_m1]; omega) (by rw [ti_m1]; omega), ti_m1]
            have bx_92 : (0 ≤ x_92.toInt ∧ x_92.toInt ≤ 799) := by constructor <;> omega
            refine lv_iinc (v := x_92) (lv' := [(5, .int x_92), (4, .int x_15), (0, .ref o0), (1, .ref o1), (2, .int p2), (3, .int p3)]) hx hb dX8_owe_48 hl (k := 0) rfl ex_92 (by decide) rfl (fun ls hl => ?_)
            refine lv_goto (tgt := 28) hx hb dX8_owe_51 (by decide) ?_
            exact ih_hloop_28 x_92 (by constructor <;> omega) (by omega) (by omega) ls (lv_sub hl [0, 1, 2, 3, 4, 5] rfl)
    exact hloop_28 801 x_25 (by constructor <;> omega) (by omega) (by omega) ls hl
  · skip
    rw [← Int32.toInt_inj, ti_0] at c_14
    refine lv_iconst (v := 1) hx hb dX8_owe_9 (by decide) ?_
    exact W.zret (v := 1) (ty := .boolean) hx hb hr rfl (fun t ht hW => ⟨⟨1, f, rfl, ⟨hG, (by decide), hfr0⟩, by rw [ht]; exact hP, va_K.moved hW.alike hK, pl_in hD⟩, hS.F ht⟩) hS.2.2 dX8_owe_10
set_option maxHeartbeats 8000000 in
set_option maxRecDepth 100000 in
theorem s_X8_endsWell_k8 (l : Launch) (D : va_G) (cI cL cZ cR cG cH : ClassId) (Z : zT) (kd : Nat → Nat) (L : List Nat) (f : Nat → va_E) (hG : GI (okc cI cL cZ cR cG cH L kd) kd L f) (o0 : Nat) (mo0 : o0 ∈ L) (ko0 : kd o0 = 8) (p1 : Int32) (bp1 : (0 ≤ p1.toInt ∧ p1.toInt ≤ 79)) : mPI l D cI cL cZ cR cG cH Z yX8_endsWell cX8_endsWell 3 (some .boolean) 0 0 [.ref o0, .int p1] L f (fun (r : Int32) (f9 : Nat → va_E) => f = f9 ∧ (0 ≤ r.toInt ∧ r.toInt ≤ 1)) := by
  obtain ⟨dC, dI⟩ := D
  refine Met.ofW (cc := cX8_endsWell) (maxL := 3) (ret := (some .boolean)) (by decide) rfl ?_
  intro p e s m args below meth c s₁ B hml hv
  obtain ⟨rfl, hP, hK, hD0, hN, hZ⟩ := hv
  have hx := B.exec
  have hb := B.bytes
  have hr := B.returns
  have hU : ∀ w ∈ wsU, w.before _ s = true := fun w h => atoms_spec (ws := wU yX8_endsWell cX8_endsWell 3 (some .boolean)) B.pre w (List.mem_cons_of_mem _ h)
  have hown : s.vm.findClass RX8 = some m.cls := findClass_of_methodNamed B.named
  have hlocks := B.notSynchronized
  have hD := pl_in hD0
  have hS : va_S (fun q => q ∈ L) s.heap s.heap [] := va_S.rf
  have hl := lv_entry ([.ref o0, .int p1]) (n := 3) (Nat.le_of_ble_eq_true rfl)
  rw [lg_entry_eq]
  generalize (lg_sl ([.ref o0, .int p1]) ++ List.replicate (3 - (lg_sl ([.ref o0, .int p1])).length) Slot.unset).toArray = ls at hl ⊢
  have hl : lv_has ls 3 [(0, .ref o0), (1, .int p1)] := hl
  refine lv_aload_n hx hb dX8_endsWell_0 rfl (lv_at hl 0 rfl) ?_
  obtain ⟨a_2, a_3, a_4, a_5, a_6, hfo_1, ⟨ma_2, ka_2⟩, ⟨ma_3, ka_3⟩, ⟨ma_4, ka_4⟩, ⟨ma_5, ka_5⟩, ⟨ma_6, ka_6⟩⟩ := un_8 (hG _ mo0) ko0
  refine tk_getP (D := (dC, dI)) (ci := 8) (v := .ref a_3) (C := RX8) (T := TX8) (N := 5) hx hb hU inlX8 hown hK hP mo0 hfo_1 rfl 1 (by decide) (hU _ wd_121) (fun _ h9 => h9) rfl dX8_endsWell_1 ?_
  refine lv_iload_n hx hb dX8_endsWell_4 rfl (lv_at hl 1 rfl) ?_
  obtain ⟨g_8, hfo_7, hbg_8⟩ := un_517 (hG _ ma_3) ka_3
  refine tk_ildP hx hb hK hP 0 ma_3 hfo_7 rfl (vp_in_iff.mpr (by constructor <;> omega)) dX8_endsWell_5 ?_
  refine lv_topi (fun x_9 ex_9 => ?_)
  have bx_9 : ((-2147483648) ≤ x_9.toInt ∧ x_9.toInt ≤ 2147483647) := ⟨i32_lo _, i32_hi _⟩
  refine lv_ldc (v := 133152) hx hb hown (hU _ wd_805) dX8_endsWell_6 ?_
  refine lv_iand hx hb dX8_endsWell_8 ?_
  refine lv_topi (fun x_10 ex_10 => ?_)
  have bx_10 : (0 ≤ x_10.toInt ∧ x_10.toInt ≤ 133152) := by rw [ex_10]; have h8 := an_C x_9 (m := 133152) (by decide); rw [ti_133152] at h8; exact h8
  refine lv_if_eq (tgt := 14) hx hb dX8_endsWell_9 (by decide) (fun c_11 => ?_) (fun c_11 => ?_)
  · skip
    rw [← Int32.toInt_inj, ti_0] at c_11
    refine lv_iconst (v := 0) hx hb dX8_endsWell_14 (by decide) ?_
    refine lv_istore_n (lv' := [(2, .int 0), (0, .ref o0), (1, .int p1)]) hx hb dX8_endsWell_15 rfl hl (by decide) rfl (fun ls hl => ?_)
    have hloop_18 : ∀ (n : Nat), ∀ (y_19 : Int32), (0 ≤ y_19.toInt ∧ y_19.toInt ≤ 10) → 10 - y_19.toInt < (n : Int) → ∀ (ls : Array Slot), lv_has ls 3 [(2, .int y_19), (0, .ref o0), (1, .int p1)] → W p l e (headSpec (wU yX8_endsWell cX8_endsWell 3 (some .boolean)) { frames := 0, cells := 0, slots := 0, locals := 0 }).room s m [.ref o0, .int p1].toArray below meth c s.heap [] 0 0 (MQ below (va_Qi (fun (r : Int32) (f9 : Nat → va_E) => f = f9 ∧ (0 ≤ r.toInt ∧ r.toInt ≤ 1)) (qP (dC, dI) cI cL cZ cR cG cH L) (fun q => q ∈ L)) [.ref o0, .int p1].toArray s 0 0 (fun q => q ∈ L)) (F0 m 16 ls []) := by
      intro n
      induction n with
      | zero => intro y_19 by_19 hmuhloop_18 ls hl; exfalso; omega
      | succ n ih_hloop_18 =>
        intro y_19 by_19 hmuhloop_18 ls hl
        refine lv_iload_n hx hb dX8_endsWell_16 rfl (lv_at hl 0 rfl) ?_
        refine lv_aload_n hx hb dX8_endsWell_17 rfl (lv_at hl 1 rfl) ?_
        refine tk_getP (D := (dC, dI)) (ci := 8) (v := .ref a_4) (C := RX8) (T := TX8) (N := 5) hx hb hU inlX8 hown hK hP mo0 hfo_1 rfl 2 (by decide) (hU _ wd_122) (fun _ h9 => h9) rfl dX8_endsWell_18 ?_
        refine lv_iload_n hx hb dX8_endsWell_21 rfl (lv_at hl 2 rfl) ?_
        obtain ⟨g_21, hfo_20, hbg_21⟩ := un_518 (hG _ ma_4) ka_4
        refine tk_ildP hx hb hK hP 0 ma_4 hfo_20 rfl (vp_in_iff.mpr (by constructor <;> omega)) dX8_endsWell_22 ?_
        refine lv_topi (fun x_22 ex_22 => ?_)
        have bx_22 : (0 ≤ x_22.toInt ∧ x_22.toInt ≤ 10) := by rw [ex_22]; exact hbg_21 _
        refine lv_icmp_ge (tgt := 51) hx hb dX8_endsWell_23 (by decide) (fun c_23 => ?_) (fun c_23 => ?_)
        · skip
          rw [Int32.le_iff_toInt_le] at c_23
          refine lv_iconst (v := 1) hx hb dX8_endsWell_51 (by decide) ?_
          exact W.zret (v := 1) (ty := .boolean) hx hb hr rfl (fun t ht hW => ⟨⟨1, f, rfl, ⟨rfl, (by decide)⟩, by rw [ht]; exact hP, va_K.moved hW.alike hK, pl_in hD⟩, hS.F ht⟩) hS.2.2 dX8_endsWell_52
        · skip
          rw [Int32.le_iff_toInt_le] at c_23
          refine lv_aload_n hx hb dX8_endsWell_26 rfl (lv_at hl 1 rfl) ?_
          refine tk_getP (D := (dC, dI)) (ci := 8) (v := .ref a_5) (C := RX8) (T := TX8) (N := 5) hx hb hU inlX8 hown hK hP mo0 hfo_1 rfl 3 (by decide) (hU _ wd_123) (fun _ h9 => h9) rfl dX8_endsWell_27 ?_
          refine lv_iload_n hx hb dX8_endsWell_30 rfl (lv_at hl 2 rfl) ?_
          refine lv_bipush (v := 10) hx hb dX8_endsWell_31 (by decide) ?_
          refine lv_imul hx hb dX8_endsWell_33 ?_
          refine lv_topi (fun x_24 ex_24 => ?_)
          have hx_24 : x_24.toInt = p1.toInt * 10 := by rw [ex_24, ml_I (by rw [ti_10]; omega) (by rw [ti_10]; omega), ti_10]
          have bx_24 : (0 ≤ x_24.toInt ∧ x_24.toInt ≤ 790) := by constructor <;> omega
          refine lv_iload_n hx hb dX8_endsWell_34 rfl (lv_at hl 0 rfl) ?_
          refine lv_iadd hx hb dX8_endsWell_35 ?_
          refine lv_topi (fun x_25 ex_25 => ?_)
          have hx_25 : x_25.toInt = x_24.toInt + y_19.toInt := by rw [ex_25, ad_I (by omega) (by omega)]
          have bx_25 : (0 ≤ x_25.toInt ∧ x_25.toInt ≤ 799) := by constructor <;> omega
          obtain ⟨g_27, hfo_26, hbg_27⟩ := un_519 (hG _ ma_5) ka_5
          refine tk_ildP hx hb hK hP 0 ma_5 hfo_26 rfl (vp_in_iff.mpr (by constructor <;> omega)) dX8_endsWell_36 ?_
          refine lv_topi (fun x_28 ex_28 => ?_)
          have bx_28 : ((-2147483648) ≤ x_28.toInt ∧ x_28.toInt ≤ 2147483647) := ⟨i32_lo _, i32_hi _⟩
          refine lv_ldc (v := 133152) hx hb hown (hU _ wd_805) dX8_endsWell_37 ?_
          refine lv_iand hx hb dX8_endsWell_39 ?_
          refine lv_topi (fun x_29 ex_29 => ?_)
          have bx_29 : (0 ≤ x_29.toInt ∧ x_29.toInt ≤ 133152) := by rw [ex_29]; have h8 := an_C x_28 (m := 133152) (by decide); rw [ti_133152] at h8; exact h8
          refine lv_if_ne (tgt := 45) hx hb dX8_endsWell_40 (by decide) (fun c_30 => ?_) (fun c_30 => ?_)
          · skip
            rw [← Int32.toInt_inj, ti_0] at c_30
            obtain ⟨x_31, ex_31⟩ : ∃ y : Int32, y_19 + 1 = y := ⟨_, rfl⟩
            have hx_31 : x_31.toInt = y_19.toInt + 1 := by rw [← ex_31, ad_I (by rw [ti_1]; omega) (by rw [ti_1]; omega), ti_1]
            have bx_31 : (1 ≤ x_31.toInt ∧ x_31.toInt ≤ 10) := by constructor <;> omega
            refine lv_iinc (v := x_31) (lv' := [(2, .int x_31), (0, .ref o0), (1, .int p1)]) hx hb dX8_endsWell_45 hl (k := 0) rfl ex_31 (by decide) rfl (fun ls hl => ?_)
            refine lv_goto (tgt := 16) hx hb dX8_endsWell_48 (by decide) ?_
            exact ih_hloop_18 x_31 (by constructor <;> omega) (by omega) ls (lv_sub hl [0, 1, 2] rfl)
          · skip
            rw [← Int32.toInt_inj, ti_0] at c_30
            refine lv_iconst (v := 0) hx hb dX8_endsWell_43 (by decide) ?_
            exact W.zret (v := 0) (ty := .boolean) hx hb hr rfl (fun t ht hW => ⟨⟨0, f, rfl, ⟨rfl, (by decide)⟩, by rw [ht]; exact hP, va_K.moved hW.alike hK, pl_in hD⟩, hS.F ht⟩) hS.2.2 dX8_endsWell_44
    exact hloop_18 11 0 (by decide) (by (try rw [ti_0]) <;> omega) ls hl
  · skip
    rw [← Int32.toInt_inj, ti_0] at c_11
    refine lv_iconst (v := 0) hx hb dX8_endsWell_12 (by decide) ?_
    exact W.zret (v := 0) (ty := .boolean) hx hb hr rfl (fun t ht hW => ⟨⟨0, f, rfl, ⟨rfl, (by decide)⟩, by rw [ht]; exact hP, va_K.moved hW.alike hK, pl_in hD⟩, hS.F ht⟩) hS.2.2 dX8_endsWell_13
set_option maxHeartbeats 8000000 in
set_option maxRecDepth 100000 in
theorem s_X8_finish_k8 (l : Launch) (D : va_G) (cI cL cZ cR cG cH : ClassId) (Z : zT) (kd : Nat → Nat) (L : List Nat) (f : Nat → va_E) (hG : GI (okc cI cL cZ cR cG cH L kd) kd L f) (o0 : Nat) (mo0 : o0 ∈ L) (ko0 : kd o0 = 8) (p1 : Int32) (p2 : Int32) (bp2 : (0 ≤ p2.toInt ∧ p2.toInt ≤ 9)) : mPI l D cI cL cZ cR cG cH Z yX8_finish cX8_finish 8 (some .int) 1 22 [.ref o0, .int p1, .int p2] L f (fun (r : Int32) (f9 : Nat → va_E) => f = f9 ∧ (0 ≤ r.toInt ∧ r.toInt ≤ 255)) := by
  obtain ⟨dC, dI⟩ := D
  refine Met.ofW (cc := cX8_finish) (maxL := 8) (ret := (some .int)) (by decide) rfl ?_
  intro p e s m args below meth c s₁ B hml hv
  obtain ⟨rfl, hP, hK, hD0, hN, hZ⟩ := hv
  have hx := B.exec
  have hb := B.bytes
  have hr := B.returns
  have hU : ∀ w ∈ wsU, w.before _ s = true := fun w h => atoms_spec (ws := wU yX8_finish cX8_finish 8 (some .int)) B.pre w (List.mem_cons_of_mem _ h)
  have hown : s.vm.findClass RX8 = some m.cls := findClass_of_methodNamed B.named
  have hlocks := B.notSynchronized
  have hD := pl_in hD0
  have hS : va_S (fun q => q ∈ L) s.heap s.heap [] := va_S.rf
  have hl := lv_entry ([.ref o0, .int p1, .int p2]) (n := 8) (Nat.le_of_ble_eq_true rfl)
  rw [lg_entry_eq]
  generalize (lg_sl ([.ref o0, .int p1, .int p2]) ++ List.replicate (8 - (lg_sl ([.ref o0, .int p1, .int p2])).length) Slot.unset).toArray = ls at hl ⊢
  have hl : lv_has ls 8 [(0, .ref o0), (1, .int p1), (2, .int p2)] := hl
  have bp1 : ((-2147483648) ≤ p1.toInt ∧ p1.toInt ≤ 2147483647) := ⟨i32_lo _, i32_hi _⟩
  refine lv_aload_n hx hb dX8_finish_0 rfl (lv_at hl 0 rfl) ?_
  obtain ⟨a_2, a_3, a_4, a_5, a_6, hfo_1, ⟨ma_2, ka_2⟩, ⟨ma_3, ka_3⟩, ⟨ma_4, ka_4⟩, ⟨ma_5, ka_5⟩, ⟨ma_6, ka_6⟩⟩ := un_8 (hG _ mo0) ko0
  refine tk_getP (D := (dC, dI)) (ci := 8) (v := .ref a_6) (C := RX8) (T := TX8) (N := 5) hx hb hU inlX8 hown hK hP mo0 hfo_1 rfl 4 (by decide) (hU _ wd_124) (fun _ h9 => h9) rfl dX8_finish_1 ?_
  refine lv_iload_n hx hb dX8_finish_4 rfl (lv_at hl 2 rfl) ?_
  obtain ⟨g_8, hfo_7, hbg_8⟩ := un_520 (hG _ ma_6) ka_6
  refine tk_ildP hx hb hK hP 0 ma_6 hfo_7 rfl (vp_in_iff.mpr (by constructor <;> omega)) dX8_finish_5 ?_
  refine lv_topi (fun x_9 ex_9 => ?_)
  have bx_9 : (0 ≤ x_9.toInt ∧ x_9.toInt ≤ 255) := by rw [ex_9]; exact hbg_8 _
  refine lv_istore_n (lv' := [(3, .int x_9), (0, .ref o0), (1, .int p1), (2, .int p2)]) hx hb dX8_finish_6 rfl hl (by decide) rfl (fun ls hl => ?_)
  refine lv_iload_n hx hb dX8_finish_7 rfl (lv_at hl 2 rfl) ?_
  refine lv_iload_n hx hb dX8_finish_8 rfl (lv_at hl 0 rfl) ?_
  refine lv_iconst (v := (-1)) hx hb dX8_finish_9 (by decide) ?_
  refine lv_ixor hx hb dX8_finish_10 ?_
  refine lv_topi (fun x_10 ex_10 => ?_)
  have bx_10 : ((-2147483648) ≤ x_10.toInt ∧ x_10.toInt ≤ 2147483647) := ⟨i32_lo _, i32_hi _⟩
  refine lv_iand hx hb dX8_finish_11 ?_
  refine lv_topi (fun x_11 ex_11 => ?_)
  have bx_11 : ((-2147483648) ≤ x_11.toInt ∧ x_11.toInt ≤ 2147483647) := ⟨i32_lo _, i32_hi _⟩
  refine lv_istore (lv' := [(4, .int x_11), (3, .int x_9), (0, .ref o0), (1, .int p1), (2, .int p2)]) hx hb dX8_finish_12 hl (by decide) rfl (fun ls hl => ?_)
  refine lv_iload_n hx hb dX8_finish_14 rfl (lv_at hl 4 rfl) ?_
  refine lv_bipush (v := 8) hx hb dX8_finish_15 (by decide) ?_
  refine lv_imul hx hb dX8_finish_17 ?_
  refine lv_topi (fun x_12 ex_12 => ?_)
  have hx_12 : x_12.toInt = p2.toInt * 8 := by rw [ex_12, ml_I (by rw [ti_8]; omega) (by rw [ti_8]; omega), ti_8]
  have bx_12 : (0 ≤ x_12.toInt ∧ x_12.toInt ≤ 72) := by constructor <;> omega
  refine lv_istore (lv' := [(5, .int x_12), (4, .int x_11), (3, .int x_9), (0, .ref o0), (1, .int p1), (2, .int p2)]) hx hb dX8_finish_18 hl (by decide) rfl (fun ls hl => ?_)
  refine lv_iconst (v := 0) hx hb dX8_finish_20 (by decide) ?_
  refine lv_istore (lv' := [(6, .int 0), (5, .int x_12), (4, .int x_11), (3, .int x_9), (0, .ref o0), (1, .int p1), (2, .int p2)]) hx hb dX8_finish_21 hl (by decide) rfl (fun ls hl => ?_)
  have hloop_34 : ∀ (n : Nat), ∀ (y_35 : Int32), (0 ≤ y_35.toInt ∧ y_35.toInt ≤ 8) → ∀ (y_36 : Int32), (0 ≤ y_36.toInt ∧ y_36.toInt ≤ 255) → ∀ (H : Heap) (locs : List Loc), va_P (dC, dI) vwCl (va_pl L f) H → va_S (fun q => q ∈ L) s.heap H locs → 8 - y_35.toInt < (n : Int) → ∀ (ls : Array Slot), lv_has ls 8 [(6, .int y_35), (5, .int x_12), (4, .int x_11), (3, .int y_36), (0, .ref o0), (1, .int p1), (2, .int p2)] → W p l e (headSpec (wU yX8_finish cX8_finish 8 (some .int)) { frames := 1, cells := 0, slots := 0, locals := 22 }).room s m [.ref o0, .int p1, .int p2].toArray below meth c H locs 0 0 (MQ below (va_Qi (fun (r : Int32) (f9 : Nat → va_E) => f = f9 ∧ (0 ≤ r.toInt ∧ r.toInt ≤ 255)) (qP (dC, dI) cI cL cZ cR cG cH L) (fun q => q ∈ L)) [.ref o0, .int p1, .int p2].toArray s 0 0 (fun q => q ∈ L)) (F0 m 23 ls []) := by
    intro n
    induction n with
    | zero => intro y_35 by_35 y_36 by_36 H locs hP hS hmuhloop_34 ls hl; exfalso; omega
    | succ n ih_hloop_34 =>
      intro y_35 by_35 y_36 by_36 H locs hP hS hmuhloop_34 ls hl
      refine lv_iload hx hb dX8_finish_23 (lv_at hl 0 rfl) ?_
      refine lv_bipush (v := 8) hx hb dX8_finish_25 (by decide) ?_
      have hcut_38 : ∀ (ls : Array Slot), lv_has ls 8 [(6, .int y_35), (5, .int x_12), (4, .int x_11), (3, .int y_36), (0, .ref o0), (1, .int p1), (2, .int p2)] → W p l e (headSpec (wU yX8_finish cX8_finish 8 (some .int)) { frames := 1, cells := 0, slots := 0, locals := 22 }).room s m [.ref o0, .int p1, .int p2].toArray below meth c H locs 0 0 (MQ below (va_Qi (fun (r : Int32) (f9 : Nat → va_E) => f = f9 ∧ (0 ≤ r.toInt ∧ r.toInt ≤ 255)) (qP (dC, dI) cI cL cZ cR cG cH L) (fun q => q ∈ L)) [.ref o0, .int p1, .int p2].toArray s 0 0 (fun q => q ∈ L)) (F0 m 110 ls []) := by
        intro ls hl
        refine lv_iload_n hx hb dX8_finish_110 rfl (lv_at hl 3 rfl) ?_
        exact W.iret (v := y_36) hx hb hr (fun t ht hW => ⟨⟨y_36, f, rfl, ⟨rfl, (by constructor <;> omega)⟩, by rw [ht]; exact hP, va_K.moved hW.alike hK, pl_in hD⟩, hS.F ht⟩) hS.2.2 dX8_finish_111
      refine lv_icmp_ge (tgt := 110) hx hb dX8_finish_27 (by decide) (fun c_39 => ?_) (fun c_39 => ?_)
      · skip
        rw [Int32.le_iff_toInt_le, ti_8] at c_39
        exact hcut_38 ls (lv_sub hl [0, 1, 2, 3, 4, 5, 6] rfl)
      · skip
        rw [Int32.le_iff_toInt_le, ti_8] at c_39
        refine lv_iload hx hb dX8_finish_30 (lv_at hl 2 rfl) ?_
        refine lv_iload hx hb dX8_finish_32 (lv_at hl 0 rfl) ?_
        refine lv_ishr hx hb dX8_finish_34 ?_
        refine lv_topi (fun x_40 ex_40 => ?_)
        have bx_40 : ((-2147483648) ≤ x_40.toInt ∧ x_40.toInt ≤ 2147483647) := ⟨i32_lo _, i32_hi _⟩
        refine lv_if_eq (tgt := 110) hx hb dX8_finish_35 (by decide) (fun c_41 => ?_) (fun c_41 => ?_)
        · skip
          rw [← Int32.toInt_inj, ti_0] at c_41
          exact hcut_38 ls (lv_sub hl [0, 1, 2, 3, 4, 5, 6] rfl)
        · skip
          rw [← Int32.toInt_inj, ti_0] at c_41
          refine lv_aload_n hx hb dX8_finish_38 rfl (lv_at hl 4 rfl) ?_
          refine tk_getP (D := (dC, dI)) (ci := 8) (v := .ref a_3) (C := RX8) (T := TX8) (N := 5) hx hb hU inlX8 hown hK hP mo0 hfo_1 rfl 1 (by decide) (hU _ wd_121) (fun _ h9 => h9) rfl dX8_finish_39 ?_
          refine lv_iload hx hb dX8_finish_42 (lv_at hl 1 rfl) ?_
          refine lv_iload hx hb dX8_finish_44 (lv_at hl 0 rfl) ?_
          refine lv_iadd hx hb dX8_finish_46 ?_
          refine lv_topi (fun x_42 ex_42 => ?_)
          have hx_42 : x_42.toInt = x_12.toInt + y_35.toInt := by rw [ex_42, ad_I (by omega) (by omega)]
          have bx_42 : (0 ≤ x_42.toInt ∧ x_42.toInt ≤ 79) := by constructor <;> omega
          obtain ⟨g_44, hfo_43, hbg_44⟩ := un_517 (hG _ ma_3) ka_3
          refine tk_ildP hx hb hK hP 0 ma_3 hfo_43 rfl (vp_in_iff.mpr (by constructor <;> omega)) dX8_finish_47 ?_
          refine lv_topi (fun x_45 ex_45 => ?_)
          have bx_45 : ((-2147483648) ≤ x_45.toInt ∧ x_45.toInt ≤ 2147483647) := ⟨i32_lo _, i32_hi _⟩
          refine lv_aload_n hx hb dX8_finish_48 rfl (lv_at hl 4 rfl) ?_
          refine tk_getP (D := (dC, dI)) (ci := 8) (v := .ref a_4) (C := RX8) (T := TX8) (N := 5) hx hb hU inlX8 hown hK hP mo0 hfo_1 rfl 2 (by decide) (hU _ wd_122) (fun _ h9 => h9) rfl dX8_finish_49 ?_
          refine lv_iload hx hb dX8_finish_52 (lv_at hl 1 rfl) ?_
          refine lv_iload hx hb dX8_finish_54 (lv_at hl 0 rfl) ?_
          refine lv_iadd hx hb dX8_finish_56 ?_
          refine lv_topi (fun x_46 ex_46 => ?_)
          have hx_46 : x_46.toInt = x_12.toInt + y_35.toInt := by rw [ex_46, ad_I (by omega) (by omega)]
          have bx_46 : (0 ≤ x_46.toInt ∧ x_46.toInt ≤ 79) := by constructor <;> omega
          obtain ⟨g_48, hfo_47, hbg_48⟩ := un_518 (hG _ ma_4) ka_4
          refine tk_ildP hx hb hK hP 0 ma_4 hfo_47 rfl (vp_in_iff.mpr (by constructor <;> omega)) dX8_finish_57 ?_
          refine lv_topi (fun x_49 ex_49 => ?_)
          have bx_49 : (0 ≤ x_49.toInt ∧ x_49.toInt ≤ 10) := by rw [ex_49]; exact hbg_48 _
          refine lv_ior hx hb dX8_finish_58 ?_
          refine lv_topi (fun x_50 ex_50 => ?_)
          have bx_50 : ((-2147483648) ≤ x_50.toInt ∧ x_50.toInt ≤ 2147483647) := ⟨i32_lo _, i32_hi _⟩
          have hcut_52 : ∀ (y_51 : Int32), (0 ≤ y_51.toInt ∧ y_51.toInt ≤ 1) → ∀ (ls : Array Slot), lv_has ls 8 [(6, .int y_35), (5, .int x_12), (4, .int x_11), (3, .int y_36), (0, .ref o0), (1, .int p1), (2, .int p2)] → W p l e (headSpec (wU yX8_finish cX8_finish 8 (some .int)) { frames := 1, cells := 0, slots := 0, locals := 22 }).room s m [.ref o0, .int p1, .int p2].toArray below meth c H locs 0 0 (MQ below (va_Qi (fun (r : Int32) (f9 : Nat → va_E) => f = f9 ∧ (0 ≤ r.toInt ∧ r.toInt ≤ 255)) (qP (dC, dI) cI cL cZ cR cG cH L) (fun q => q ∈ L)) [.ref o0, .int p1, .int p2].toArray s 0 0 (fun q => q ∈ L)) (F0 m 67 ls [.int y_51]) := by
            intro y_51 by_51 ls hl
            refine lv_istore (lv' := [(7, .int y_51), (6, .int y_35), (5, .int x_12), (4, .int x_11), (3, .int y_36), (0, .ref o0), (1, .int p1), (2, .int p2)]) hx hb dX8_finish_67 hl (by decide) rfl (fun ls hl => ?_)
            refine lv_iload hx hb dX8_finish_69 (lv_at hl 3 rfl) ?_
            refine lv_iload hx hb dX8_finish_71 (lv_at hl 1 rfl) ?_
            refine lv_ishr hx hb dX8_finish_73 ?_
            refine lv_topi (fun x_53 ex_53 => ?_)
            have bx_53 : ((-2147483648) ≤ x_53.toInt ∧ x_53.toInt ≤ 2147483647) := ⟨i32_lo _, i32_hi _⟩
            refine lv_iconst (v := 1) hx hb dX8_finish_74 (by decide) ?_
            refine lv_iand hx hb dX8_finish_75 ?_
            refine lv_topi (fun x_54 ex_54 => ?_)
            have bx_54 : (0 ≤ x_54.toInt ∧ x_54.toInt ≤ 1) := by rw [ex_54]; have h8 := an_C x_53 (m := 1) (by decide); rw [ti_1] at h8; exact h8
            refine lv_iconst (v := 1) hx hb dX8_finish_76 (by decide) ?_
            have hcut_57 : ∀ (y_55 : Int32), (0 ≤ y_55.toInt ∧ y_55.toInt ≤ 255) → ∀ (H : Heap) (locs : List Loc), va_P (dC, dI) vwCl (va_pl L f) H → va_S (fun q => q ∈ L) s.heap H locs → ∀ (ls : Array Slot), lv_has ls 8 [(7, .int y_51), (6, .int y_35), (5, .int x_12), (4, .int x_11), (3, .int y_55), (0, .ref o0), (1, .int p1), (2, .int p2)] → W p l e (headSpec (wU yX8_finish cX8_finish 8 (some .int)) { frames := 1, cells := 0, slots := 0, locals := 22 }).room s m [.ref o0, .int p1, .int p2].toArray below meth c H locs 0 0 (MQ below (va_Qi (fun (r : Int32) (f9 : Nat → va_E) => f = f9 ∧ (0 ≤ r.toInt ∧ r.toInt ≤ 255)) (qP (dC, dI) cI cL cZ cR cG cH L) (fun q => q ∈ L)) [.ref o0, .int p1, .int p2].toArray s 0 0 (fun q => q ∈ L)) (F0 m 104 ls []) := by
              intro y_55 by_55 H locs hP hS ls hl
              obtain ⟨x_58, ex_58⟩ : ∃ y : Int32, y_35 + 1 = y := ⟨_, rfl⟩
              have hx_58 : x_58.toInt = y_35.toInt + 1 := by rw [← ex_58, ad_I (by rw [ti_1]; omega) (by rw [ti_1]; omega), ti_1]
              have bx_58 : (1 ≤ x_58.toInt ∧ x_58.toInt ≤ 8) := by constructor <;> omega
              refine lv_iinc (v := x_58) (lv' := [(6, .int x_58), (7, .int y_51), (5, .int x_12), (4, .int x_11), (3, .int y_55), (0, .ref o0), (1, .int p1), (2, .int p2)]) hx hb dX8_finish_104 hl (k := 1) rfl ex_58 (by decide) rfl (fun ls hl => ?_)
              refine lv_goto (tgt := 23) hx hb dX8_finish_107 (by decide) ?_
              exact ih_hloop_34 x_58 (by constructor <;> omega) y_55 (by constructor <;> omega) _ _ hP hS (by omega) ls (lv_sub hl [0, 2, 3, 4, 5, 6, 7] rfl)
            refine lv_icmp_ne (tgt := 104) hx hb dX8_finish_77 (by decide) (fun c_59 => ?_) (fun c_59 => ?_)
            · skip
              rw [← Int32.toInt_inj, ti_1] at c_59
              exact hcut_57 y_36 (by constructor <;> omega) _ _ hP hS ls (lv_sub hl [0, 1, 2, 3, 4, 5, 6, 7] rfl)
            · skip
              rw [← Int32.toInt_inj, ti_1] at c_59
              refine lv_iload hx hb dX8_finish_80 (lv_at hl 0 rfl) ?_
              refine lv_if_ne (tgt := 104) hx hb dX8_finish_82 (by decide) (fun c_60 => ?_) (fun c_60 => ?_)
              · skip
                rw [← Int32.toInt_inj, ti_0] at c_60
                exact hcut_57 y_36 (by constructor <;> omega) _ _ hP hS ls (lv_sub hl [0, 1, 2, 3, 4, 5, 6, 7] rfl)
              · skip
                rw [← Int32.toInt_inj, ti_0] at c_60
                refine lv_aload_n hx hb dX8_finish_85 rfl (lv_at hl 5 rfl) ?_
                refine lv_iload hx hb dX8_finish_86 (lv_at hl 2 rfl) ?_
                refine lv_iload hx hb dX8_finish_88 (lv_at hl 1 rfl) ?_
                refine lv_iadd hx hb dX8_finish_90 ?_
                refine lv_topi (fun x_61 ex_61 => ?_)
                have hx_61 : x_61.toInt = x_12.toInt + y_35.toInt := by rw [ex_61, ad_I (by omega) (by omega)]
                have bx_61 : (0 ≤ x_61.toInt ∧ x_61.toInt ≤ 79) := by constructor <;> omega
                refine tk_ViP (As := [.int x_61]) (rest := []) (n := 1) hx hb hml hown hU hN hZ (s_X8_endsWell_k8 l (dC, dI) cI cL cZ cR cG cH Z kd L f hG o0 mo0 ko0 x_61 (by constructor <;> omega)) wd_801 wd_802 wd_803 wd_55 wd_804 (by decide +kernel) ⟨Nat.le_of_ble_eq_true rfl, Nat.le_of_ble_eq_true rfl⟩ hK hP hD hS mo0 hfo_1 8 rfl rfl rfl hl.1 rfl (Nat.le_of_ble_eq_true rfl) dX8_finish_91 ⟨Nat.le_of_ble_eq_true rfl, Nat.le_of_ble_eq_true rfl⟩ (fun x_62 f_63 H locs hw hP hD hS => ?_)
                obtain ⟨rfl, bx_62⟩ := hw
                refine lv_if_ne (tgt := 104) hx hb dX8_finish_94 (by decide) (fun c_65 => ?_) (fun c_65 => ?_)
                · skip
                  rw [← Int32.toInt_inj, ti_0] at c_65
                  exact hcut_57 y_36 (by constructor <;> omega) _ _ hP hS ls (lv_sub hl [0, 1, 2, 3, 4, 5, 6, 7] rfl)
                · skip
                  rw [← Int32.toInt_inj, ti_0] at c_65
                  refine lv_iload_n hx hb dX8_finish_97 rfl (lv_at hl 4 rfl) ?_
                  refine lv_iconst (v := 1) hx hb dX8_finish_98 (by decide) ?_
                  refine lv_iload hx hb dX8_finish_99 (lv_at hl 1 rfl) ?_
                  refine lv_ishl hx hb dX8_finish_101 ?_
                  refine lv_topi (fun x_66 ex_66 => ?_)
                  have bx_66 : (1 ≤ x_66.toInt ∧ x_66.toInt ≤ 128) := by rw [ex_66]; exact sh_7 (by constructor <;> omega)
                  refine lv_ior hx hb dX8_finish_102 ?_
                  refine lv_topi (fun x_67 ex_67 => ?_)
                  have bx_67 : (0 ≤ x_67.toInt ∧ x_67.toInt ≤ 255) := by rw [ex_67]; exact or_K 8 (by decide) (by constructor <;> omega) (by constructor <;> omega)
                  refine lv_istore_n (lv' := [(3, .int x_67), (7, .int y_51), (6, .int y_35), (5, .int x_12), (4, .int x_11), (0, .ref o0), (1, .int p1), (2, .int p2)]) hx hb dX8_finish_103 rfl hl (by decide) rfl (fun ls hl => ?_)
                  exact hcut_57 x_67 (by constructor <;> omega) _ _ hP hS ls (lv_sub hl [1, 2, 3, 4, 0, 5, 6, 7] rfl)
          refine lv_if_ne (tgt := 66) hx hb dX8_finish_59 (by decide) (fun c_68 => ?_) (fun c_68 => ?_)
          · skip
            rw [← Int32.toInt_inj, ti_0] at c_68
            refine lv_iconst (v := 0) hx hb dX8_finish_66 (by decide) ?_
            exact hcut_52 0 (by decide) ls (lv_sub hl [0, 1, 2, 3, 4, 5, 6] rfl)
          · skip
            rw [← Int32.toInt_inj, ti_0] at c_68
            refine lv_iconst (v := 1) hx hb dX8_finish_62 (by decide) ?_
            refine lv_goto (tgt := 67) hx hb dX8_finish_63 (by decide) ?_
            exact hcut_52 1 (by decide) ls (lv_sub hl [0, 1, 2, 3, 4, 5, 6] rfl)
  exact hloop_34 9 0 (by decide) x_9 (by constructor <;> omega) _ _ hP hS (by (try rw [ti_0]) <;> omega) ls hl
