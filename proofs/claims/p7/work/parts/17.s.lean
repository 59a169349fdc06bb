set_option maxHeartbeats 8000000 in
set_option maxRecDepth 100000 in
theorem s_X7_compile_k7 (l : Launch) (D : va_G) (cI cL cZ cR : ClassId) (kd : Nat → Nat) (L : List Nat) (f : Nat → va_E) (hG : GI (okc cI cL cZ cR L kd) kd L f) (o0 : Nat) (mo0 : o0 ∈ L) (ko0 : kd o0 = 7) : mPV l D cI cL cZ cR yX7_compile cX7_compile 2 none 4 88 [.ref o0] L f (fun (f9 : Nat → va_E) => GI (okc cI cL cZ cR L kd) kd L f9) := by
  obtain ⟨dC, dI⟩ := D
  refine Met.ofW (cc := cX7_compile) (maxL := 2) (ret := none) (by decide) rfl ?_
  intro p e s m args below meth c s₁ B hml hv
  obtain ⟨rfl, hP, hK, hD0, hN⟩ := hv
  have hx := B.exec
  have hb := B.bytes
  have hr := B.returns
  have hU : ∀ w ∈ wsU, w.before _ s = true := fun w h => atoms_spec (ws := wU yX7_compile cX7_compile 2 none) B.pre w (List.mem_cons_of_mem _ h)
  have hown : s.vm.findClass RX7 = some m.cls := findClass_of_methodNamed B.named
  have hlocks := B.notSynchronized
  have hD := pl_in hD0
  have hS : va_S (fun q => q ∈ L) s.heap s.heap [] := va_S.rf
  have hl := lv_entry ([.ref o0]) (n := 2) (Nat.le_of_ble_eq_true rfl)
  rw [lg_entry_eq]
  generalize (lg_sl ([.ref o0]) ++ List.replicate (2 - (lg_sl ([.ref o0])).length) Slot.unset).toArray = ls at hl ⊢
  have hl : lv_has ls 2 [(0, .ref o0)] := hl
  refine lv_iconst (v := 0) hx hb dX7_compile_0 (by decide) ?_
  refine lv_istore_n (lv' := [(1, .int 0), (0, .ref o0)]) hx hb dX7_compile_1 rfl hl (by decide) rfl (fun ls hl => ?_)
  have hloop_9 : ∀ (n : Nat), ∀ (y_7 : Int32), (0 ≤ y_7.toInt ∧ y_7.toInt ≤ 8) → ∀ (f_8 : Nat → va_E), GI (okc cI cL cZ cR L kd) kd L f_8 → ∀ (H : Heap) (locs : List Loc), va_P (dC, dI) vwCl (va_pl L f_8) H → va_D (fun q => q ∈ L) (va_pl L f_8) → va_S (fun q => q ∈ L) s.heap H locs → 8 - y_7.toInt < (n : Int) → ∀ (ls : Array Slot), lv_has ls 2 [(1, .int y_7), (0, .ref o0)] → W p l e (headSpec (wU yX7_compile cX7_compile 2 none) { frames := 4, cells := 0, slots := 0, locals := 88 }).room s m [.ref o0].toArray below meth c H locs 0 0 (MQ below (va_Qv (fun (f9 : Nat → va_E) => GI (okc cI cL cZ cR L kd) kd L f9) (qP (dC, dI) cI cL cZ cR L) (fun q => q ∈ L)) [.ref o0].toArray s 0 0 (fun q => q ∈ L)) (F0 m 2 ls []) := by
    intro n
    induction n with
    | zero => intro y_7 by_7 f_8 hG H locs hP hD hS hmuhloop_9 ls hl; exfalso; omega
    | succ n ih_hloop_9 =>
      intro y_7 by_7 f_8 hG H locs hP hD hS hmuhloop_9 ls hl
      refine lv_iload_n hx hb dX7_compile_2 rfl (lv_at hl 0 rfl) ?_
      refine lv_aload_n hx hb dX7_compile_3 rfl (lv_at hl 1 rfl) ?_
      obtain ⟨a_11, v_12, a_13, a_14, a_15, a_16, v_17, a_18, a_19, a_20, a_21, a_22, v_23, a_24, a_25, a_26, hfo_10, ⟨ma_11, ka_11⟩, bv_12, ⟨ma_13, ka_13⟩, ⟨ma_14, ka_14⟩, ⟨ma_15, ka_15⟩, ⟨ma_16, ka_16⟩, bv_17, ⟨ma_18, ka_18⟩, ⟨ma_19, ka_19⟩, ⟨ma_20, ka_20⟩, ⟨ma_21, ka_21⟩, ⟨ma_22, ka_22⟩, bv_23, ⟨ma_24, ka_24⟩, ⟨ma_25, ka_25⟩, ⟨ma_26, ka_26⟩⟩ := un_7 (hG _ mo0) ko0
      refine tk_getP (D := (dC, dI)) (ci := 7) (v := .int v_23) (C := RX7) (T := TX7) (N := 16) hx hb hU inlX7 hown hK hP mo0 hfo_10 rfl 12 (by decide) (hU _ wd_264) (fun _ h9 => h9) rfl dX7_compile_4 ?_
      refine lv_icmp_ge (tgt := 26) hx hb dX7_compile_7 (by decide) (fun c_27 => ?_) (fun c_27 => ?_)
      · skip
        rw [Int32.le_iff_toInt_le] at c_27
        exact W.vret hx hb hr (fun t ht hW => ⟨⟨f_8, rfl, hG, by rw [ht]; exact hP, va_K.moved hW.alike hK, pl_in hD⟩, hS.F ht⟩) hS.2.2 dX7_compile_26
      · skip
        rw [Int32.le_iff_toInt_le] at c_27
        refine lv_aload_n hx hb dX7_compile_10 rfl (lv_at hl 1 rfl) ?_
        refine tk_getP (D := (dC, dI)) (ci := 7) (v := .ref a_22) (C := RX7) (T := TX7) (N := 16) hx hb hU inlX7 hown hK hP mo0 hfo_10 rfl 11 (by decide) (hU _ wd_82) (fun _ h9 => h9) rfl dX7_compile_11 ?_
        refine lv_iload_n hx hb dX7_compile_14 rfl (lv_at hl 0 rfl) ?_
        obtain ⟨g_29, hfo_28, hbg_29⟩ := un_35 (hG _ ma_22) ka_22
        obtain ⟨a_30, hga_30, ma_30, ka_30⟩ := hbg_29 (Int32.toNatClampNeg y_7) (in_lt (vp_in_iff.mpr (by constructor <;> omega)))
        refine tk_aldP hx hb hK hP 3 ma_22 hfo_28 rfl (vp_in_iff.mpr (by constructor <;> omega)) hga_30 dX7_compile_15 ?_
        refine lv_aload_n hx hb dX7_compile_16 rfl (lv_at hl 1 rfl) ?_
        obtain ⟨v_32, v_33, v_34, v_35, a_36, a_37, a_38, a_39, v_40, v_41, v_42, hfo_31, bv_32, bv_33, bv_34, bv_35, ⟨ma_36, ka_36⟩, ⟨ma_37, ka_37⟩, ⟨ma_38, ka_38⟩, ⟨ma_39, ka_39⟩⟩ := un_4 (hG _ ma_30) ka_30
        have bv_40 : ((-2147483648) ≤ v_40.toInt ∧ v_40.toInt ≤ 2147483647) := ⟨i32_lo _, i32_hi _⟩
        have bv_41 : ((-2147483648) ≤ v_41.toInt ∧ v_41.toInt ≤ 2147483647) := ⟨i32_lo _, i32_hi _⟩
        have bv_42 : ((-2147483648) ≤ v_42.toInt ∧ v_42.toInt ≤ 2147483647) := ⟨i32_lo _, i32_hi _⟩
        refine tk_VvP (As := [.ref o0]) (rest := []) (n := 1) hx hb hml hown hU hN (s_X4_compile_k4_k7 l (dC, dI) cI cL cZ cR kd L f_8 hG a_30 ma_30 ka_30 o0 mo0 ko0) wd_485 wd_486 wd_487 wd_90 wd_488 (by decide +kernel) ⟨Nat.le_of_ble_eq_true rfl, Nat.le_of_ble_eq_true rfl⟩ hK hP hD hS ma_30 hfo_31 4 rfl rfl rfl hl.1 rfl (Nat.le_of_ble_eq_true rfl) dX7_compile_17 ⟨Nat.le_of_ble_eq_true rfl, Nat.le_of_ble_eq_true rfl⟩ (fun f_44 H locs hw hP hD hS => ?_)
        have hG : GI (okc cI cL cZ cR L kd) kd L f_44 := hw
        obtain ⟨x_45, ex_45⟩ : ∃ y : Int32, y_7 + 1 = y := ⟨_, rfl⟩
        have hx_45 : x_45.toInt = y_7.toInt + 1 := by rw [← ex_45, ad_I (by rw [ti_1]; omega) (by rw [ti_1]; omega), ti_1]
        have bx_45 : (1 ≤ x_45.toInt ∧ x_45.toInt ≤ 8) := by constructor <;> omega
        refine lv_iinc (v := x_45) (lv' := [(1, .int x_45), (0, .ref o0)]) hx hb dX7_compile_20 hl (k := 0) rfl ex_45 (by decide) rfl (fun ls hl => ?_)
        refine lv_goto (tgt := 2) hx hb dX7_compile_23 (by decide) ?_
        exact ih_hloop_9 x_45 (by constructor <;> omega) f_44 hG _ _ hP hD hS (by omega) ls (lv_sub hl [0, 1] rfl)
  exact hloop_9 9 0 (by decide) f hG _ _ hP hD hS (by (try simp only [ti_0]); omega) ls hl
set_option maxHeartbeats 8000000 in
set_option maxRecDepth 100000 in
theorem s_X7_clear_k7 (l : Launch) (D : va_G) (cI cL cZ cR : ClassId) (kd : Nat → Nat) (L : List Nat) (f : Nat → va_E) (hG : GI (okc cI cL cZ cR L kd) kd L f) (o0 : Nat) (mo0 : o0 ∈ L) (ko0 : kd o0 = 7) : mPV l D cI cL cZ cR yX7_clear cX7_clear 1 none 1 23 [.ref o0] L f (fun (f9 : Nat → va_E) => GI (okc cI cL cZ cR L kd) kd L f9) := by
  obtain ⟨dC, dI⟩ := D
  refine Met.ofW (cc := cX7_clear) (maxL := 1) (ret := none) (by decide) rfl ?_
  intro p e s m args below meth c s₁ B hml hv
  obtain ⟨rfl, hP, hK, hD0, hN⟩ := hv
  have hx := B.exec
  have hb := B.bytes
  have hr := B.returns
  have hU : ∀ w ∈ wsU, w.before _ s = true := fun w h => atoms_spec (ws := wU yX7_clear cX7_clear 1 none) B.pre w (List.mem_cons_of_mem _ h)
  have hown : s.vm.findClass RX7 = some m.cls := findClass_of_methodNamed B.named
  have hlocks := B.notSynchronized
  have hD := pl_in hD0
  have hS : va_S (fun q => q ∈ L) s.heap s.heap [] := va_S.rf
  have hl := lv_entry ([.ref o0]) (n := 1) (Nat.le_of_ble_eq_true rfl)
  rw [lg_entry_eq]
  generalize (lg_sl ([.ref o0]) ++ List.replicate (1 - (lg_sl ([.ref o0])).length) Slot.unset).toArray = ls at hl ⊢
  have hl : lv_has ls 1 [(0, .ref o0)] := hl
  refine lv_aload_n hx hb dX7_clear_0 rfl (lv_at hl 0 rfl) ?_
  obtain ⟨a_2, v_3, a_4, a_5, a_6, a_7, v_8, a_9, a_10, a_11, a_12, a_13, v_14, a_15, a_16, a_17, hfo_1, ⟨ma_2, ka_2⟩, bv_3, ⟨ma_4, ka_4⟩, ⟨ma_5, ka_5⟩, ⟨ma_6, ka_6⟩, ⟨ma_7, ka_7⟩, bv_8, ⟨ma_9, ka_9⟩, ⟨ma_10, ka_10⟩, ⟨ma_11, ka_11⟩, ⟨ma_12, ka_12⟩, ⟨ma_13, ka_13⟩, bv_14, ⟨ma_15, ka_15⟩, ⟨ma_16, ka_16⟩, ⟨ma_17, ka_17⟩⟩ := un_7 (hG _ mo0) ko0
  refine tk_getP (D := (dC, dI)) (ci := 7) (v := .ref a_2) (C := RX7) (T := TX7) (N := 16) hx hb hU inlX7 hown hK hP mo0 hfo_1 rfl 0 (by decide) (hU _ wd_72) (fun _ h9 => h9) rfl dX7_clear_1 ?_
  refine lv_iconst (v := 0) hx hb dX7_clear_4 (by decide) ?_
  refine tk_SvP (As := [.ref a_2, .int 0]) (rest := []) (n := 2) hx hb hml hown hU hN (s_J7_fill_53178_k28 l (dC, dI) cI cL cZ cR kd L f hG a_2 ma_2 ka_2 0 (by decide)) wd_265 wd_266 wd_267 wd_268 (by decide +kernel) ⟨Nat.le_of_ble_eq_true rfl, Nat.le_of_ble_eq_true rfl⟩ hK hP hD hS rfl hl.1 rfl (Nat.le_of_ble_eq_true rfl) dX7_clear_5 ⟨Nat.le_of_ble_eq_true rfl, Nat.le_of_ble_eq_true rfl⟩ (fun f_19 H locs hw hP hD hS => ?_)
  have hG : GI (okc cI cL cZ cR L kd) kd L f_19 := hw
  refine lv_aload_n hx hb dX7_clear_8 rfl (lv_at hl 0 rfl) ?_
  refine lv_iconst (v := 0) hx hb dX7_clear_9 (by decide) ?_
  obtain ⟨a_21, v_22, a_23, a_24, a_25, a_26, v_27, a_28, a_29, a_30, a_31, a_32, v_33, a_34, a_35, a_36, hfo_20, ⟨ma_21, ka_21⟩, bv_22, ⟨ma_23, ka_23⟩, ⟨ma_24, ka_24⟩, ⟨ma_25, ka_25⟩, ⟨ma_26, ka_26⟩, bv_27, ⟨ma_28, ka_28⟩, ⟨ma_29, ka_29⟩, ⟨ma_30, ka_30⟩, ⟨ma_31, ka_31⟩, ⟨ma_32, ka_32⟩, bv_33, ⟨ma_34, ka_34⟩, ⟨ma_35, ka_35⟩, ⟨ma_36, ka_36⟩⟩ := un_7 (hG _ mo0) ko0
  refine tk_putP (D := (dC, dI)) (ci := 7) (v := .int 0) (ty := .int) (C := RX7) (T := TX7) (N := 16) hx hb hU inlX7 tyX7 tyX7_ok nmX7 hown hK hP hD hS mo0 hfo_20 rfl 1 (by decide) (hU _ wd_262) (fun _ h9 => h9) rfl (by decide +kernel) rfl rfl (Nat.le_of_ble_eq_true rfl) dX7_clear_10 (fun H locs hP hD hS => ?_)
  obtain ⟨f_37, ef_37⟩ : ∃ y : Nat → va_E, y = va_up f_19 o0 (.inr (7, [.ref a_21, .int 0, .ref a_23, .ref a_24, .ref a_25, .ref a_26, .int v_27, .ref a_28, .ref a_29, .ref a_30, .ref a_31, .ref a_32, .int v_33, .ref a_34, .ref a_35, .ref a_36])) := ⟨_, rfl⟩
  have hP : va_P (dC, dI) vwCl (va_pl L f_37) H := by rw [ef_37]; exact hP
  have hD : va_D (fun q => q ∈ L) (va_pl L f_37) := by rw [ef_37]; exact hD
  have hG : GI (okc cI cL cZ cR L kd) kd L f_37 := by rw [ef_37]; exact hG.set o0 (mk_7 ko0 ⟨a_21, 0, a_23, a_24, a_25, a_26, v_27, a_28, a_29, a_30, a_31, a_32, v_33, a_34, a_35, a_36, rfl, ⟨ma_21, ka_21⟩, (by decide), ⟨ma_23, ka_23⟩, ⟨ma_24, ka_24⟩, ⟨ma_25, ka_25⟩, ⟨ma_26, ka_26⟩, (by constructor <;> omega), ⟨ma_28, ka_28⟩, ⟨ma_29, ka_29⟩, ⟨ma_30, ka_30⟩, ⟨ma_31, ka_31⟩, ⟨ma_32, ka_32⟩, (by constructor <;> omega), ⟨ma_34, ka_34⟩, ⟨ma_35, ka_35⟩, ⟨ma_36, ka_36⟩⟩)
  have hfo_38 : f_37 o0 = .inr (7, [.ref a_21, .int 0, .ref a_23, .ref a_24, .ref a_25, .ref a_26, .int v_27, .ref a_28, .ref a_29, .ref a_30, .ref a_31, .ref a_32, .int v_33, .ref a_34, .ref a_35, .ref a_36]) := by rw [ef_37]; exact up_self
  refine lv_aload_n hx hb dX7_clear_13 rfl (lv_at hl 0 rfl) ?_
  refine tk_getP (D := (dC, dI)) (ci := 7) (v := .ref a_23) (C := RX7) (T := TX7) (N := 16) hx hb hU inlX7 hown hK hP mo0 hfo_38 rfl 2 (by decide) (hU _ wd_73) (fun _ h9 => h9) rfl dX7_clear_14 ?_
  refine lv_iconst (v := 0) hx hb dX7_clear_17 (by decide) ?_
  refine tk_SvP (As := [.ref a_23, .int 0]) (rest := []) (n := 2) hx hb hml hown hU hN (s_J7_fill_53178_k29 l (dC, dI) cI cL cZ cR kd L f_37 hG a_23 ma_23 ka_23 0 (by decide)) wd_265 wd_266 wd_267 wd_268 (by decide +kernel) ⟨Nat.le_of_ble_eq_true rfl, Nat.le_of_ble_eq_true rfl⟩ hK hP hD hS rfl hl.1 rfl (Nat.le_of_ble_eq_true rfl) dX7_clear_18 ⟨Nat.le_of_ble_eq_true rfl, Nat.le_of_ble_eq_true rfl⟩ (fun f_40 H locs hw hP hD hS => ?_)
  have hG : GI (okc cI cL cZ cR L kd) kd L f_40 := hw
  refine lv_aload_n hx hb dX7_clear_21 rfl (lv_at hl 0 rfl) ?_
  obtain ⟨a_42, v_43, a_44, a_45, a_46, a_47, v_48, a_49, a_50, a_51, a_52, a_53, v_54, a_55, a_56, a_57, hfo_41, ⟨ma_42, ka_42⟩, bv_43, ⟨ma_44, ka_44⟩, ⟨ma_45, ka_45⟩, ⟨ma_46, ka_46⟩, ⟨ma_47, ka_47⟩, bv_48, ⟨ma_49, ka_49⟩, ⟨ma_50, ka_50⟩, ⟨ma_51, ka_51⟩, ⟨ma_52, ka_52⟩, ⟨ma_53, ka_53⟩, bv_54, ⟨ma_55, ka_55⟩, ⟨ma_56, ka_56⟩, ⟨ma_57, ka_57⟩⟩ := un_7 (hG _ mo0) ko0
  refine tk_getP (D := (dC, dI)) (ci := 7) (v := .ref a_45) (C := RX7) (T := TX7) (N := 16) hx hb hU inlX7 hown hK hP mo0 hfo_41 rfl 3 (by decide) (hU _ wd_74) (fun _ h9 => h9) rfl dX7_clear_22 ?_
  refine lv_iconst (v := 0) hx hb dX7_clear_25 (by decide) ?_
  refine tk_SvP (As := [.ref a_45, .int 0]) (rest := []) (n := 2) hx hb hml hown hU hN (s_J7_fill_53178_k30 l (dC, dI) cI cL cZ cR kd L f_40 hG a_45 ma_45 ka_45 0 (by decide)) wd_265 wd_266 wd_267 wd_268 (by decide +kernel) ⟨Nat.le_of_ble_eq_true rfl, Nat.le_of_ble_eq_true rfl⟩ hK hP hD hS rfl hl.1 rfl (Nat.le_of_ble_eq_true rfl) dX7_clear_26 ⟨Nat.le_of_ble_eq_true rfl, Nat.le_of_ble_eq_true rfl⟩ (fun f_59 H locs hw hP hD hS => ?_)
  have hG : GI (okc cI cL cZ cR L kd) kd L f_59 := hw
  refine lv_aload_n hx hb dX7_clear_29 rfl (lv_at hl 0 rfl) ?_
  refine lv_iconst (v := 0) hx hb dX7_clear_30 (by decide) ?_
  obtain ⟨a_61, v_62, a_63, a_64, a_65, a_66, v_67, a_68, a_69, a_70, a_71, a_72, v_73, a_74, a_75, a_76, hfo_60, ⟨ma_61, ka_61⟩, bv_62, ⟨ma_63, ka_63⟩, ⟨ma_64, ka_64⟩, ⟨ma_65, ka_65⟩, ⟨ma_66, ka_66⟩, bv_67, ⟨ma_68, ka_68⟩, ⟨ma_69, ka_69⟩, ⟨ma_70, ka_70⟩, ⟨ma_71, ka_71⟩, ⟨ma_72, ka_72⟩, bv_73, ⟨ma_74, ka_74⟩, ⟨ma_75, ka_75⟩, ⟨ma_76, ka_76⟩⟩ := un_7 (hG _ mo0) ko0
  refine tk_putP (D := (dC, dI)) (ci := 7) (v := .int 0) (ty := .int) (C := RX7) (T := TX7) (N := 16) hx hb hU inlX7 tyX7 tyX7_ok nmX7 hown hK hP hD hS mo0 hfo_60 rfl 6 (by decide) (hU _ wd_263) (fun _ h9 => h9) rfl (by decide +kernel) rfl rfl (Nat.le_of_ble_eq_true rfl) dX7_clear_31 (fun H locs hP hD hS => ?_)
  obtain ⟨f_77, ef_77⟩ : ∃ y : Nat → va_E, y = va_up f_59 o0 (.inr (7, [.ref a_61, .int v_62, .ref a_63, .ref a_64, .ref a_65, .ref a_66, .int 0, .ref a_68, .ref a_69, .ref a_70, .ref a_71, .ref a_72, .int v_73, .ref a_74, .ref a_75, .ref a_76])) := ⟨_, rfl⟩
  have hP : va_P (dC, dI) vwCl (va_pl L f_77) H := by rw [ef_77]; exact hP
  have hD : va_D (fun q => q ∈ L) (va_pl L f_77) := by rw [ef_77]; exact hD
  have hG : GI (okc cI cL cZ cR L kd) kd L f_77 := by rw [ef_77]; exact hG.set o0 (mk_7 ko0 ⟨a_61, v_62, a_63, a_64, a_65, a_66, 0, a_68, a_69, a_70, a_71, a_72, v_73, a_74, a_75, a_76, rfl, ⟨ma_61, ka_61⟩, (by constructor <;> omega), ⟨ma_63, ka_63⟩, ⟨ma_64, ka_64⟩, ⟨ma_65, ka_65⟩, ⟨ma_66, ka_66⟩, (by decide), ⟨ma_68, ka_68⟩, ⟨ma_69, ka_69⟩, ⟨ma_70, ka_70⟩, ⟨ma_71, ka_71⟩, ⟨ma_72, ka_72⟩, (by constructor <;> omega), ⟨ma_74, ka_74⟩, ⟨ma_75, ka_75⟩, ⟨ma_76, ka_76⟩⟩)
  have hfo_78 : f_77 o0 = .inr (7, [.ref a_61, .int v_62, .ref a_63, .ref a_64, .ref a_65, .ref a_66, .int 0, .ref a_68, .ref a_69, .ref a_70, .ref a_71, .ref a_72, .int v_73, .ref a_74, .ref a_75, .ref a_76]) := by rw [ef_77]; exact up_self
  refine lv_aload_n hx hb dX7_clear_34 rfl (lv_at hl 0 rfl) ?_
  refine tk_getP (D := (dC, dI)) (ci := 7) (v := .ref a_68) (C := RX7) (T := TX7) (N := 16) hx hb hU inlX7 hown hK hP mo0 hfo_78 rfl 7 (by decide) (hU _ wd_77) (fun _ h9 => h9) rfl dX7_clear_35 ?_
  refine lv_iconst (v := 0) hx hb dX7_clear_38 (by decide) ?_
  refine tk_SvP (As := [.ref a_68, .int 0]) (rest := []) (n := 2) hx hb hml hown hU hN (s_J7_fill_53178_k32 l (dC, dI) cI cL cZ cR kd L f_77 hG a_68 ma_68 ka_68 0 (by decide)) wd_265 wd_266 wd_267 wd_268 (by decide +kernel) ⟨Nat.le_of_ble_eq_true rfl, Nat.le_of_ble_eq_true rfl⟩ hK hP hD hS rfl hl.1 rfl (Nat.le_of_ble_eq_true rfl) dX7_clear_39 ⟨Nat.le_of_ble_eq_true rfl, Nat.le_of_ble_eq_true rfl⟩ (fun f_80 H locs hw hP hD hS => ?_)
  have hG : GI (okc cI cL cZ cR L kd) kd L f_80 := hw
  refine lv_aload_n hx hb dX7_clear_42 rfl (lv_at hl 0 rfl) ?_
  obtain ⟨a_82, v_83, a_84, a_85, a_86, a_87, v_88, a_89, a_90, a_91, a_92, a_93, v_94, a_95, a_96, a_97, hfo_81, ⟨ma_82, ka_82⟩, bv_83, ⟨ma_84, ka_84⟩, ⟨ma_85, ka_85⟩, ⟨ma_86, ka_86⟩, ⟨ma_87, ka_87⟩, bv_88, ⟨ma_89, ka_89⟩, ⟨ma_90, ka_90⟩, ⟨ma_91, ka_91⟩, ⟨ma_92, ka_92⟩, ⟨ma_93, ka_93⟩, bv_94, ⟨ma_95, ka_95⟩, ⟨ma_96, ka_96⟩, ⟨ma_97, ka_97⟩⟩ := un_7 (hG _ mo0) ko0
  refine tk_getP (D := (dC, dI)) (ci := 7) (v := .ref a_90) (C := RX7) (T := TX7) (N := 16) hx hb hU inlX7 hown hK hP mo0 hfo_81 rfl 8 (by decide) (hU _ wd_78) (fun _ h9 => h9) rfl dX7_clear_43 ?_
  refine lv_iconst (v := 0) hx hb dX7_clear_46 (by decide) ?_
  refine tk_SvP (As := [.ref a_90, .int 0]) (rest := []) (n := 2) hx hb hml hown hU hN (s_J7_fill_53178_k33 l (dC, dI) cI cL cZ cR kd L f_80 hG a_90 ma_90 ka_90 0 (by decide)) wd_265 wd_266 wd_267 wd_268 (by decide +kernel) ⟨Nat.le_of_ble_eq_true rfl, Nat.le_of_ble_eq_true rfl⟩ hK hP hD hS rfl hl.1 rfl (Nat.le_of_ble_eq_true rfl) dX7_clear_47 ⟨Nat.le_of_ble_eq_true rfl, Nat.le_of_ble_eq_true rfl⟩ (fun f_99 H locs hw hP hD hS => ?_)
  have hG : GI (okc cI cL cZ cR L kd) kd L f_99 := hw
  refine lv_aload_n hx hb dX7_clear_50 rfl (lv_at hl 0 rfl) ?_
  obtain ⟨a_101, v_102, a_103, a_104, a_105, a_106, v_107, a_108, a_109, a_110, a_111, a_112, v_113, a_114, a_115, a_116, hfo_100, ⟨ma_101, ka_101⟩, bv_102, ⟨ma_103, ka_103⟩, ⟨ma_104, ka_104⟩, ⟨ma_105, ka_105⟩, ⟨ma_106, ka_106⟩, bv_107, ⟨ma_108, ka_108⟩, ⟨ma_109, ka_109⟩, ⟨ma_110, ka_110⟩, ⟨ma_111, ka_111⟩, ⟨ma_112, ka_112⟩, bv_113, ⟨ma_114, ka_114⟩, ⟨ma_115, ka_115⟩, ⟨ma_116, ka_116⟩⟩ := un_7 (hG _ mo0) ko0
  refine tk_getP (D := (dC, dI)) (ci := 7) (v := .ref a_110) (C := RX7) (T := TX7) (N := 16) hx hb hU inlX7 hown hK hP mo0 hfo_100 rfl 9 (by decide) (hU _ wd_79) (fun _ h9 => h9) rfl dX7_clear_51 ?_
  refine lv_iconst (v := 0) hx hb dX7_clear_54 (by decide) ?_
  refine tk_SvP (As := [.ref a_110, .int 0]) (rest := []) (n := 2) hx hb hml hown hU hN (s_J7_fill_53178_k34 l (dC, dI) cI cL cZ cR kd L f_99 hG a_110 ma_110 ka_110 0 (by decide)) wd_265 wd_266 wd_267 wd_268 (by decide +kernel) ⟨Nat.le_of_ble_eq_true rfl, Nat.le_of_ble_eq_true rfl⟩ hK hP hD hS rfl hl.1 rfl (Nat.le_of_ble_eq_true rfl) dX7_clear_55 ⟨Nat.le_of_ble_eq_true rfl, Nat.le_of_ble_eq_true rfl⟩ (fun f_118 H locs hw hP hD hS => ?_)
  have hG : GI (okc cI cL cZ cR L kd) kd L f_118 := hw
  refine lv_aload_n hx hb dX7_clear_58 rfl (lv_at hl 0 rfl) ?_
  obtain ⟨a_120, v_121, a_122, a_123, a_124, a_125, v_126, a_127, a_128, a_129, a_130, a_131, v_132, a_133, a_134, a_135, hfo_119, ⟨ma_120, ka_120⟩, bv_121, ⟨ma_122, ka_122⟩, ⟨ma_123, ka_123⟩, ⟨ma_124, ka_124⟩, ⟨ma_125, ka_125⟩, bv_126, ⟨ma_127, ka_127⟩, ⟨ma_128, ka_128⟩, ⟨ma_129, ka_129⟩, ⟨ma_130, ka_130⟩, ⟨ma_131, ka_131⟩, bv_132, ⟨ma_133, ka_133⟩, ⟨ma_134, ka_134⟩, ⟨ma_135, ka_135⟩⟩ := un_7 (hG _ mo0) ko0
  refine tk_getP (D := (dC, dI)) (ci := 7) (v := .ref a_130) (C := RX7) (T := TX7) (N := 16) hx hb hU inlX7 hown hK hP mo0 hfo_119 rfl 10 (by decide) (hU _ wd_80) (fun _ h9 => h9) rfl dX7_clear_59 ?_
  refine lv_iconst (v := 0) hx hb dX7_clear_62 (by decide) ?_
  refine tk_SvP (As := [.ref a_130, .int 0]) (rest := []) (n := 2) hx hb hml hown hU hN (s_J7_fill_53178_k34 l (dC, dI) cI cL cZ cR kd L f_118 hG a_130 ma_130 ka_130 0 (by decide)) wd_265 wd_266 wd_267 wd_268 (by decide +kernel) ⟨Nat.le_of_ble_eq_true rfl, Nat.le_of_ble_eq_true rfl⟩ hK hP hD hS rfl hl.1 rfl (Nat.le_of_ble_eq_true rfl) dX7_clear_63 ⟨Nat.le_of_ble_eq_true rfl, Nat.le_of_ble_eq_true rfl⟩ (fun f_137 H locs hw hP hD hS => ?_)
  have hG : GI (okc cI cL cZ cR L kd) kd L f_137 := hw
  refine lv_aload_n hx hb dX7_clear_66 rfl (lv_at hl 0 rfl) ?_
  refine lv_iconst (v := 0) hx hb dX7_clear_67 (by decide) ?_
  obtain ⟨a_139, v_140, a_141, a_142, a_143, a_144, v_145, a_146, a_147, a_148, a_149, a_150, v_151, a_152, a_153, a_154, hfo_138, ⟨ma_139, ka_139⟩, bv_140, ⟨ma_141, ka_141⟩, ⟨ma_142, ka_142⟩, ⟨ma_143, ka_143⟩, ⟨ma_144, ka_144⟩, bv_145, ⟨ma_146, ka_146⟩, ⟨ma_147, ka_147⟩, ⟨ma_148, ka_148⟩, ⟨ma_149, ka_149⟩, ⟨ma_150, ka_150⟩, bv_151, ⟨ma_152, ka_152⟩, ⟨ma_153, ka_153⟩, ⟨ma_154, ka_154⟩⟩ := un_7 (hG _ mo0) ko0
  refine tk_putP (D := (dC, dI)) (ci := 7) (v := .int 0) (ty := .int) (C := RX7) (T := TX7) (N := 16) hx hb hU inlX7 tyX7 tyX7_ok nmX7 hown hK hP hD hS mo0 hfo_138 rfl 12 (by decide) (hU _ wd_264) (fun _ h9 => h9) rfl (by decide +kernel) rfl rfl (Nat.le_of_ble_eq_true rfl) dX7_clear_68 (fun H locs hP hD hS => ?_)
  obtain ⟨f_155, ef_155⟩ : ∃ y : Nat → va_E, y = va_up f_137 o0 (.inr (7, [.ref a_139, .int v_140, .ref a_141, .ref a_142, .ref a_143, .ref a_144, .int v_145, .ref a_146, .ref a_147, .ref a_148, .ref a_149, .ref a_150, .int 0, .ref a_152, .ref a_153, .ref a_154])) := ⟨_, rfl⟩
  have hP : va_P (dC, dI) vwCl (va_pl L f_155) H := by rw [ef_155]; exact hP
  have hD : va_D (fun q => q ∈ L) (va_pl L f_155) := by rw [ef_155]; exact hD
  have hG : GI (okc cI cL cZ cR L kd) kd L f_155 := by rw [ef_155]; exact hG.set o0 (mk_7 ko0 ⟨a_139, v_140, a_141, a_142, a_143, a_144, v_145, a_146, a_147, a_148, a_149, a_150, 0, a_152, a_153, a_154, rfl, ⟨ma_139, ka_139⟩, (by constructor <;> omega), ⟨ma_141, ka_141⟩, ⟨ma_142, ka_142⟩, ⟨ma_143, ka_143⟩, ⟨ma_144, ka_144⟩, (by constructor <;> omega), ⟨ma_146, ka_146⟩, ⟨ma_147, ka_147⟩, ⟨ma_148, ka_148⟩, ⟨ma_149, ka_149⟩, ⟨ma_150, ka_150⟩, (by decide), ⟨ma_152, ka_152⟩, ⟨ma_153, ka_153⟩, ⟨ma_154, ka_154⟩⟩)
  have hfo_156 : f_155 o0 = .inr (7, [.ref a_139, .int v_140, .ref a_141, .ref a_142, .ref a_143, .ref a_144, .int v_145, .ref a_146, .ref a_147, .ref a_148, .ref a_149, .ref a_150, .int 0, .ref a_152, .ref a_153, .ref a_154]) := by rw [ef_155]; exact up_self
  refine lv_aload_n hx hb dX7_clear_71 rfl (lv_at hl 0 rfl) ?_
  refine tk_getP (D := (dC, dI)) (ci := 7) (v := .ref a_152) (C := RX7) (T := TX7) (N := 16) hx hb hU inlX7 hown hK hP mo0 hfo_156 rfl 13 (by decide) (hU _ wd_86) (fun _ h9 => h9) rfl dX7_clear_72 ?_
  obtain ⟨a_158, a_159, v_160, hfo_157, ⟨ma_158, ka_158⟩, ⟨ma_159, ka_159⟩, bv_160⟩ := un_9 (hG _ ma_152) ka_152
  refine tk_VvP (As := []) (rest := []) (n := 0) hx hb hml hown hU hN (s_X9_clear_k9 l (dC, dI) cI cL cZ cR kd L f_155 hG a_152 ma_152 ka_152) wd_269 wd_270 wd_271 wd_85 wd_272 (by decide +kernel) ⟨Nat.le_of_ble_eq_true rfl, Nat.le_of_ble_eq_true rfl⟩ hK hP hD hS ma_152 hfo_157 9 rfl rfl rfl hl.1 rfl (Nat.le_of_ble_eq_true rfl) dX7_clear_75 ⟨Nat.le_of_ble_eq_true rfl, Nat.le_of_ble_eq_true rfl⟩ (fun f_162 H locs hw hP hD hS => ?_)
  have hG : GI (okc cI cL cZ cR L kd) kd L f_162 := hw
  refine lv_aload_n hx hb dX7_clear_78 rfl (lv_at hl 0 rfl) ?_
  obtain ⟨a_164, v_165, a_166, a_167, a_168, a_169, v_170, a_171, a_172, a_173, a_174, a_175, v_176, a_177, a_178, a_179, hfo_163, ⟨ma_164, ka_164⟩, bv_165, ⟨ma_166, ka_166⟩, ⟨ma_167, ka_167⟩, ⟨ma_168, ka_168⟩, ⟨ma_169, ka_169⟩, bv_170, ⟨ma_171, ka_171⟩, ⟨ma_172, ka_172⟩, ⟨ma_173, ka_173⟩, ⟨ma_174, ka_174⟩, ⟨ma_175, ka_175⟩, bv_176, ⟨ma_177, ka_177⟩, ⟨ma_178, ka_178⟩, ⟨ma_179, ka_179⟩⟩ := un_7 (hG _ mo0) ko0
  refine tk_getP (D := (dC, dI)) (ci := 7) (v := .ref a_178) (C := RX7) (T := TX7) (N := 16) hx hb hU inlX7 hown hK hP mo0 hfo_163 rfl 14 (by decide) (hU _ wd_87) (fun _ h9 => h9) rfl dX7_clear_79 ?_
  obtain ⟨a_181, a_182, v_183, hfo_180, ⟨ma_181, ka_181⟩, ⟨ma_182, ka_182⟩, bv_183⟩ := un_13 (hG _ ma_178) ka_178
  refine tk_VvP (As := []) (rest := []) (n := 0) hx hb hml hown hU hN (s_X9_clear_k13 l (dC, dI) cI cL cZ cR kd L f_162 hG a_178 ma_178 ka_178) wd_269 wd_270 wd_271 wd_85 wd_272 (by decide +kernel) ⟨Nat.le_of_ble_eq_true rfl, Nat.le_of_ble_eq_true rfl⟩ hK hP hD hS ma_178 hfo_180 9 rfl rfl rfl hl.1 rfl (Nat.le_of_ble_eq_true rfl) dX7_clear_82 ⟨Nat.le_of_ble_eq_true rfl, Nat.le_of_ble_eq_true rfl⟩ (fun f_185 H locs hw hP hD hS => ?_)
  have hG : GI (okc cI cL cZ cR L kd) kd L f_185 := hw
  exact W.vret hx hb hr (fun t ht hW => ⟨⟨f_185, rfl, hG, by rw [ht]; exact hP, va_K.moved hW.alike hK, pl_in hD⟩, hS.F ht⟩) hS.2.2 dX7_clear_85
set_option maxHeartbeats 8000000 in
set_option maxRecDepth 100000 in
theorem s_X7_copyFrom_k7_k7 (l : Launch) (D : va_G) (cI cL cZ cR : ClassId) (kd : Nat → Nat) (L : List Nat) (f : Nat → va_E) (hG : GI (okc cI cL cZ cR L kd) kd L f) (o0 : Nat) (mo0 : o0 ∈ L) (ko0 : kd o0 = 7) (o1 : Nat) (mo1 : o1 ∈ L) (ko1 : kd o1 = 7) : mPV l D cI cL cZ cR yX7_copyFrom cX7_copyFrom 3 none 3 82 [.ref o0, .ref o1] L f (fun (f9 : Nat → va_E) => GI (okc cI cL cZ cR L kd) kd L f9) := by
  obtain ⟨dC, dI⟩ := D
  refine Met.ofW (cc := cX7_copyFrom) (maxL := 3) (ret := none) (by decide) rfl ?_
  intro p e s m args below meth c s₁ B hml hv
  obtain ⟨rfl, hP, hK, hD0, hN⟩ := hv
  have hx := B.exec
  have hb := B.bytes
  have hr := B.returns
  have hU : ∀ w ∈ wsU, w.before _ s = true := fun w h => atoms_spec (ws := wU yX7_copyFrom cX7_copyFrom 3 none) B.pre w (List.mem_cons_of_mem _ h)
  have hown : s.vm.findClass RX7 = some m.cls := findClass_of_methodNamed B.named
  have hlocks := B.notSynchronized
  have hD := pl_in hD0
  have hS : va_S (fun q => q ∈ L) s.heap s.heap [] := va_S.rf
  have hl := lv_entry ([.ref o0, .ref o1]) (n := 3) (Nat.le_of_ble_eq_true rfl)
  rw [lg_entry_eq]
  generalize (lg_sl ([.ref o0, .ref o1]) ++ List.replicate (3 - (lg_sl ([.ref o0, .ref o1])).length) Slot.unset).toArray = ls at hl ⊢
  have hl : lv_has ls 3 [(0, .ref o0), (1, .ref o1)] := hl
  refine lv_aload_n hx hb dX7_copyFrom_0 rfl (lv_at hl 1 rfl) ?_
  obtain ⟨a_2, v_3, a_4, a_5, a_6, a_7, v_8, a_9, a_10, a_11, a_12, a_13, v_14, a_15, a_16, a_17, hfo_1, ⟨ma_2, ka_2⟩, bv_3, ⟨ma_4, ka_4⟩, ⟨ma_5, ka_5⟩, ⟨ma_6, ka_6⟩, ⟨ma_7, ka_7⟩, bv_8, ⟨ma_9, ka_9⟩, ⟨ma_10, ka_10⟩, ⟨ma_11, ka_11⟩, ⟨ma_12, ka_12⟩, ⟨ma_13, ka_13⟩, bv_14, ⟨ma_15, ka_15⟩, ⟨ma_16, ka_16⟩, ⟨ma_17, ka_17⟩⟩ := un_7 (hG _ mo1) ko1
  refine tk_getP (D := (dC, dI)) (ci := 7) (v := .ref a_2) (C := RX7) (T := TX7) (N := 16) hx hb hU inlX7 hown hK hP mo1 hfo_1 rfl 0 (by decide) (hU _ wd_72) (fun _ h9 => h9) rfl dX7_copyFrom_1 ?_
  refine lv_iconst (v := 0) hx hb dX7_copyFrom_4 (by decide) ?_
  refine lv_aload_n hx hb dX7_copyFrom_5 rfl (lv_at hl 0 rfl) ?_
  obtain ⟨a_19, v_20, a_21, a_22, a_23, a_24, v_25, a_26, a_27, a_28, a_29, a_30, v_31, a_32, a_33, a_34, hfo_18, ⟨ma_19, ka_19⟩, bv_20, ⟨ma_21, ka_21⟩, ⟨ma_22, ka_22⟩, ⟨ma_23, ka_23⟩, ⟨ma_24, ka_24⟩, bv_25, ⟨ma_26, ka_26⟩, ⟨ma_27, ka_27⟩, ⟨ma_28, ka_28⟩, ⟨ma_29, ka_29⟩, ⟨ma_30, ka_30⟩, bv_31, ⟨ma_32, ka_32⟩, ⟨ma_33, ka_33⟩, ⟨ma_34, ka_34⟩⟩ := un_7 (hG _ mo0) ko0
  refine tk_getP (D := (dC, dI)) (ci := 7) (v := .ref a_19) (C := RX7) (T := TX7) (N := 16) hx hb hU inlX7 hown hK hP mo0 hfo_18 rfl 0 (by decide) (hU _ wd_72) (fun _ h9 => h9) rfl dX7_copyFrom_6 ?_
  refine lv_iconst (v := 0) hx hb dX7_copyFrom_9 (by decide) ?_
  refine lv_aload_n hx hb dX7_copyFrom_10 rfl (lv_at hl 0 rfl) ?_
  refine tk_getP (D := (dC, dI)) (ci := 7) (v := .ref a_19) (C := RX7) (T := TX7) (N := 16) hx hb hU inlX7 hown hK hP mo0 hfo_18 rfl 0 (by decide) (hU _ wd_72) (fun _ h9 => h9) rfl dX7_copyFrom_11 ?_
  obtain ⟨g_36, hfo_35, hbg_36⟩ := un_28 (hG _ ma_19) ka_19
  refine tk_alenP (v := 26) hx hb hK hP 0 ma_19 hfo_35 rfl rfl dX7_copyFrom_14 ?_
  obtain ⟨g_38, hfo_37, hbg_38⟩ := un_28 (hG _ ma_2) ka_2
  refine tk_copyP hx hb (by rw [hml]; exact hl.1.symm) hown (hU _ wd_534) (hU _ wd_253) (hU _ wd_254) (hU _ wd_255) hK hP hD hS 0 ma_2 ma_19 hfo_37 hfo_35 rfl (by decide) (by decide) (by decide) (by decide) (by decide) (Nat.le_of_ble_eq_true rfl) (Nat.le_of_ble_eq_true rfl) dX7_copyFrom_15 (fun H locs hP hD hS => ?_)
  obtain ⟨f_39, ef_39⟩ : ∃ y : Nat → va_E, y = va_up f a_19 (.inl (cI, 26, .inl (va_cpy g_38 g_36 (Int32.toNatClampNeg 0) (Int32.toNatClampNeg 0) (Int32.toNatClampNeg 26)))) := ⟨_, rfl⟩
  have hP : va_P (dC, dI) vwCl (va_pl L f_39) H := by rw [ef_39]; exact hP
  have hD : va_D (fun q => q ∈ L) (va_pl L f_39) := by rw [ef_39]; exact hD
  have hG : GI (okc cI cL cZ cR L kd) kd L f_39 := by rw [ef_39]; exact hG.set a_19 (mk_28 ka_19 ⟨_, rfl, okI_cpy (fun j => by have := hbg_38 j; constructor <;> omega) hbg_36 _ _ _⟩)
  have hfo_40 : f_39 o1 = .inr (7, [.ref a_2, .int v_3, .ref a_4, .ref a_5, .ref a_6, .ref a_7, .int v_8, .ref a_9, .ref a_10, .ref a_11, .ref a_12, .ref a_13, .int v_14, .ref a_15, .ref a_16, .ref a_17]) := by rw [ef_39, up_ne (kd_ne ka_19 ko1 (by decide))]; exact hfo_1
  have hfo_41 : f_39 o0 = .inr (7, [.ref a_19, .int v_20, .ref a_21, .ref a_22, .ref a_23, .ref a_24, .int v_25, .ref a_26, .ref a_27, .ref a_28, .ref a_29, .ref a_30, .int v_31, .ref a_32, .ref a_33, .ref a_34]) := by rw [ef_39, up_ne (kd_ne ka_19 ko0 (by decide))]; exact hfo_18
  have hfo_42 : f_39 a_19 = .inl (cI, 26, .inl (va_cpy g_38 g_36 (Int32.toNatClampNeg 0) (Int32.toNatClampNeg 0) (Int32.toNatClampNeg 26))) := by rw [ef_39]; exact up_self
  refine lv_aload_n hx hb dX7_copyFrom_18 rfl (lv_at hl 0 rfl) ?_
  refine lv_aload_n hx hb dX7_copyFrom_19 rfl (lv_at hl 1 rfl) ?_
  refine tk_getP (D := (dC, dI)) (ci := 7) (v := .int v_3) (C := RX7) (T := TX7) (N := 16) hx hb hU inlX7 hown hK hP mo1 hfo_40 rfl 1 (by decide) (hU _ wd_262) (fun _ h9 => h9) rfl dX7_copyFrom_20 ?_
  refine tk_putP (D := (dC, dI)) (ci := 7) (v := .int v_3) (ty := .int) (C := RX7) (T := TX7) (N := 16) hx hb hU inlX7 tyX7 tyX7_ok nmX7 hown hK hP hD hS mo0 hfo_41 rfl 1 (by decide) (hU _ wd_262) (fun _ h9 => h9) rfl (by decide +kernel) rfl rfl (Nat.le_of_ble_eq_true rfl) dX7_copyFrom_23 (fun H locs hP hD hS => ?_)
  obtain ⟨f_43, ef_43⟩ : ∃ y : Nat → va_E, y = va_up f_39 o0 (.inr (7, [.ref a_19, .int v_3, .ref a_21, .ref a_22, .ref a_23, .ref a_24, .int v_25, .ref a_26, .ref a_27, .ref a_28, .ref a_29, .ref a_30, .int v_31, .ref a_32, .ref a_33, .ref a_34])) := ⟨_, rfl⟩
  have hP : va_P (dC, dI) vwCl (va_pl L f_43) H := by rw [ef_43]; exact hP
  have hD : va_D (fun q => q ∈ L) (va_pl L f_43) := by rw [ef_43]; exact hD
  have hG : GI (okc cI cL cZ cR L kd) kd L f_43 := by rw [ef_43]; exact hG.set o0 (mk_7 ko0 ⟨a_19, v_3, a_21, a_22, a_23, a_24, v_25, a_26, a_27, a_28, a_29, a_30, v_31, a_32, a_33, a_34, rfl, ⟨ma_19, ka_19⟩, (by constructor <;> omega), ⟨ma_21, ka_21⟩, ⟨ma_22, ka_22⟩, ⟨ma_23, ka_23⟩, ⟨ma_24, ka_24⟩, (by constructor <;> omega), ⟨ma_26, ka_26⟩, ⟨ma_27, ka_27⟩, ⟨ma_28, ka_28⟩, ⟨ma_29, ka_29⟩, ⟨ma_30, ka_30⟩, (by constructor <;> omega), ⟨ma_32, ka_32⟩, ⟨ma_33, ka_33⟩, ⟨ma_34, ka_34⟩⟩)
  have hfo_44 : f_43 o0 = .inr (7, [.ref a_19, .int v_3, .ref a_21, .ref a_22, .ref a_23, .ref a_24, .int v_25, .ref a_26, .ref a_27, .ref a_28, .ref a_29, .ref a_30, .int v_31, .ref a_32, .ref a_33, .ref a_34]) := by rw [ef_43]; exact up_self
  refine lv_aload_n hx hb dX7_copyFrom_26 rfl (lv_at hl 1 rfl) ?_
  obtain ⟨a_46, v_47, a_48, a_49, a_50, a_51, v_52, a_53, a_54, a_55, a_56, a_57, v_58, a_59, a_60, a_61, hfo_45, ⟨ma_46, ka_46⟩, bv_47, ⟨ma_48, ka_48⟩, ⟨ma_49, ka_49⟩, ⟨ma_50, ka_50⟩, ⟨ma_51, ka_51⟩, bv_52, ⟨ma_53, ka_53⟩, ⟨ma_54, ka_54⟩, ⟨ma_55, ka_55⟩, ⟨ma_56, ka_56⟩, ⟨ma_57, ka_57⟩, bv_58, ⟨ma_59, ka_59⟩, ⟨ma_60, ka_60⟩, ⟨ma_61, ka_61⟩⟩ := un_7 (hG _ mo1) ko1
  refine tk_getP (D := (dC, dI)) (ci := 7) (v := .ref a_48) (C := RX7) (T := TX7) (N := 16) hx hb hU inlX7 hown hK hP mo1 hfo_45 rfl 2 (by decide) (hU _ wd_73) (fun _ h9 => h9) rfl dX7_copyFrom_27 ?_
  refine lv_iconst (v := 0) hx hb dX7_copyFrom_30 (by decide) ?_
  refine lv_aload_n hx hb dX7_copyFrom_31 rfl (lv_at hl 0 rfl) ?_
  refine tk_getP (D := (dC, dI)) (ci := 7) (v := .ref a_21) (C := RX7) (T := TX7) (N := 16) hx hb hU inlX7 hown hK hP mo0 hfo_44 rfl 2 (by decide) (hU _ wd_73) (fun _ h9 => h9) rfl dX7_copyFrom_32 ?_
  refine lv_iconst (v := 0) hx hb dX7_copyFrom_35 (by decide) ?_
  refine lv_aload_n hx hb dX7_copyFrom_36 rfl (lv_at hl 0 rfl) ?_
  refine tk_getP (D := (dC, dI)) (ci := 7) (v := .ref a_21) (C := RX7) (T := TX7) (N := 16) hx hb hU inlX7 hown hK hP mo0 hfo_44 rfl 2 (by decide) (hU _ wd_73) (fun _ h9 => h9) rfl dX7_copyFrom_37 ?_
  obtain ⟨g_63, hfo_62, hbg_63⟩ := un_29 (hG _ ma_21) ka_21
  refine tk_alenP (v := 6) hx hb hK hP 0 ma_21 hfo_62 rfl rfl dX7_copyFrom_40 ?_
  obtain ⟨g_65, hfo_64, hbg_65⟩ := un_29 (hG _ ma_48) ka_48
  refine tk_copyP hx hb (by rw [hml]; exact hl.1.symm) hown (hU _ wd_534) (hU _ wd_253) (hU _ wd_254) (hU _ wd_255) hK hP hD hS 0 ma_48 ma_21 hfo_64 hfo_62 rfl (by decide) (by decide) (by decide) (by decide) (by decide) (Nat.le_of_ble_eq_true rfl) (Nat.le_of_ble_eq_true rfl) dX7_copyFrom_41 (fun H locs hP hD hS => ?_)
  obtain ⟨f_66, ef_66⟩ : ∃ y : Nat → va_E, y = va_up f_43 a_21 (.inl (cI, 6, .inl (va_cpy g_65 g_63 (Int32.toNatClampNeg 0) (Int32.toNatClampNeg 0) (Int32.toNatClampNeg 6)))) := ⟨_, rfl⟩
  have hP : va_P (dC, dI) vwCl (va_pl L f_66) H := by rw [ef_66]; exact hP
  have hD : va_D (fun q => q ∈ L) (va_pl L f_66) := by rw [ef_66]; exact hD
  have hG : GI (okc cI cL cZ cR L kd) kd L f_66 := by rw [ef_66]; exact hG.set a_21 (mk_29 ka_21 ⟨_, rfl, okI_cpy (fun j => by have := hbg_65 j; constructor <;> omega) hbg_63 _ _ _⟩)
  have hfo_67 : f_66 o0 = .inr (7, [.ref a_19, .int v_3, .ref a_21, .ref a_22, .ref a_23, .ref a_24, .int v_25, .ref a_26, .ref a_27, .ref a_28, .ref a_29, .ref a_30, .int v_31, .ref a_32, .ref a_33, .ref a_34]) := by rw [ef_66, up_ne (kd_ne ka_21 ko0 (by decide))]; exact hfo_44
  have hfo_68 : f_66 o1 = .inr (7, [.ref a_46, .int v_47, .ref a_48, .ref a_49, .ref a_50, .ref a_51, .int v_52, .ref a_53, .ref a_54, .ref a_55, .ref a_56, .ref a_57, .int v_58, .ref a_59, .ref a_60, .ref a_61]) := by rw [ef_66, up_ne (kd_ne ka_21 ko1 (by decide))]; exact hfo_45
  have hfo_69 : f_66 a_21 = .inl (cI, 6, .inl (va_cpy g_65 g_63 (Int32.toNatClampNeg 0) (Int32.toNatClampNeg 0) (Int32.toNatClampNeg 6))) := by rw [ef_66]; exact up_self
  refine lv_aload_n hx hb dX7_copyFrom_44 rfl (lv_at hl 1 rfl) ?_
  refine tk_getP (D := (dC, dI)) (ci := 7) (v := .ref a_49) (C := RX7) (T := TX7) (N := 16) hx hb hU inlX7 hown hK hP mo1 hfo_68 rfl 3 (by decide) (hU _ wd_74) (fun _ h9 => h9) rfl dX7_copyFrom_45 ?_
  refine lv_iconst (v := 0) hx hb dX7_copyFrom_48 (by decide) ?_
  refine lv_aload_n hx hb dX7_copyFrom_49 rfl (lv_at hl 0 rfl) ?_
  refine tk_getP (D := (dC, dI)) (ci := 7) (v := .ref a_22) (C := RX7) (T := TX7) (N := 16) hx hb hU inlX7 hown hK hP mo0 hfo_67 rfl 3 (by decide) (hU _ wd_74) (fun _ h9 => h9) rfl dX7_copyFrom_50 ?_
  refine lv_iconst (v := 0) hx hb dX7_copyFrom_53 (by decide) ?_
  refine lv_aload_n hx hb dX7_copyFrom_54 rfl (lv_at hl 0 rfl) ?_
  refine tk_getP (D := (dC, dI)) (ci := 7) (v := .ref a_22) (C := RX7) (T := TX7) (N := 16) hx hb hU inlX7 hown hK hP mo0 hfo_67 rfl 3 (by decide) (hU _ wd_74) (fun _ h9 => h9) rfl dX7_copyFrom_55 ?_
  obtain ⟨g_71, hfo_70, hbg_71⟩ := un_30 (hG _ ma_22) ka_22
  refine tk_alenP (v := 81) hx hb hK hP 0 ma_22 hfo_70 rfl rfl dX7_copyFrom_58 ?_
  obtain ⟨g_73, hfo_72, hbg_73⟩ := un_30 (hG _ ma_49) ka_49
  refine tk_copyP hx hb (by rw [hml]; exact hl.1.symm) hown (hU _ wd_534) (hU _ wd_253) (hU _ wd_254) (hU _ wd_255) hK hP hD hS 0 ma_49 ma_22 hfo_72 hfo_70 rfl (by decide) (by decide) (by decide) (by decide) (by decide) (Nat.le_of_ble_eq_true rfl) (Nat.le_of_ble_eq_true rfl) dX7_copyFrom_59 (fun H locs hP hD hS => ?_)
  obtain ⟨f_74, ef_74⟩ : ∃ y : Nat → va_E, y = va_up f_66 a_22 (.inl (cI, 81, .inl (va_cpy g_73 g_71 (Int32.toNatClampNeg 0) (Int32.toNatClampNeg 0) (Int32.toNatClampNeg 81)))) := ⟨_, rfl⟩
  have hP : va_P (dC, dI) vwCl (va_pl L f_74) H := by rw [ef_74]; exact hP
  have hD : va_D (fun q => q ∈ L) (va_pl L f_74) := by rw [ef_74]; exact hD
  have hG : GI (okc cI cL cZ cR L kd) kd L f_74 := by rw [ef_74]; exact hG.set a_22 (mk_30 ka_22 ⟨_, rfl, okI_cpy (fun j => by have := hbg_73 j; constructor <;> omega) hbg_71 _ _ _⟩)
  have hfo_75 : f_74 o0 = .inr (7, [.ref a_19, .int v_3, .ref a_21, .ref a_22, .ref a_23, .ref a_24, .int v_25, .ref a_26, .ref a_27, .ref a_28, .ref a_29, .ref a_30, .int v_31, .ref a_32, .ref a_33, .ref a_34]) := by rw [ef_74, up_ne (kd_ne ka_22 ko0 (by decide))]; exact hfo_67
  have hfo_76 : f_74 o1 = .inr (7, [.ref a_46, .int v_47, .ref a_48, .ref a_49, .ref a_50, .ref a_51, .int v_52, .ref a_53, .ref a_54, .ref a_55, .ref a_56, .ref a_57, .int v_58, .ref a_59, .ref a_60, .ref a_61]) := by rw [ef_74, up_ne (kd_ne ka_22 ko1 (by decide))]; exact hfo_68
  have hfo_77 : f_74 a_22 = .inl (cI, 81, .inl (va_cpy g_73 g_71 (Int32.toNatClampNeg 0) (Int32.toNatClampNeg 0) (Int32.toNatClampNeg 81))) := by rw [ef_74]; exact up_self
  refine lv_aload_n hx hb dX7_copyFrom_62 rfl (lv_at hl 1 rfl) ?_
  refine tk_getP (D := (dC, dI)) (ci := 7) (v := .ref a_50) (C := RX7) (T := TX7) (N := 16) hx hb hU inlX7 hown hK hP mo1 hfo_76 rfl 4 (by decide) (hU _ wd_75) (fun _ h9 => h9) rfl dX7_copyFrom_63 ?_
  refine lv_iconst (v := 0) hx hb dX7_copyFrom_66 (by decide) ?_
  refine lv_aload_n hx hb dX7_copyFrom_67 rfl (lv_at hl 0 rfl) ?_
  refine tk_getP (D := (dC, dI)) (ci := 7) (v := .ref a_23) (C := RX7) (T := TX7) (N := 16) hx hb hU inlX7 hown hK hP mo0 hfo_75 rfl 4 (by decide) (hU _ wd_75) (fun _ h9 => h9) rfl dX7_copyFrom_68 ?_
  refine lv_iconst (v := 0) hx hb dX7_copyFrom_71 (by decide) ?_
  refine lv_aload_n hx hb dX7_copyFrom_72 rfl (lv_at hl 0 rfl) ?_
  refine tk_getP (D := (dC, dI)) (ci := 7) (v := .ref a_23) (C := RX7) (T := TX7) (N := 16) hx hb hU inlX7 hown hK hP mo0 hfo_75 rfl 4 (by decide) (hU _ wd_75) (fun _ h9 => h9) rfl dX7_copyFrom_73 ?_
  obtain ⟨g_79, hfo_78, hbg_79⟩ := un_31 (hG _ ma_23) ka_23
  refine tk_alenP (v := 20) hx hb hK hP 0 ma_23 hfo_78 rfl rfl dX7_copyFrom_76 ?_
  obtain ⟨g_81, hfo_80, hbg_81⟩ := un_31 (hG _ ma_50) ka_50
  refine tk_copyP hx hb (by rw [hml]; exact hl.1.symm) hown (hU _ wd_534) (hU _ wd_253) (hU _ wd_254) (hU _ wd_255) hK hP hD hS 0 ma_50 ma_23 hfo_80 hfo_78 rfl (by decide) (by decide) (by decide) (by decide) (by decide) (Nat.le_of_ble_eq_true rfl) (Nat.le_of_ble_eq_true rfl) dX7_copyFrom_77 (fun H locs hP hD hS => ?_)
  obtain ⟨f_82, ef_82⟩ : ∃ y : Nat → va_E, y = va_up f_74 a_23 (.inl (cI, 20, .inl (va_cpy g_81 g_79 (Int32.toNatClampNeg 0) (Int32.toNatClampNeg 0) (Int32.toNatClampNeg 20)))) := ⟨_, rfl⟩
  have hP : va_P (dC, dI) vwCl (va_pl L f_82) H := by rw [ef_82]; exact hP
  have hD : va_D (fun q => q ∈ L) (va_pl L f_82) := by rw [ef_82]; exact hD
  have hG : GI (okc cI cL cZ cR L kd) kd L f_82 := by rw [ef_82]; exact hG.set a_23 (mk_31 ka_23 ⟨_, rfl, okI_cpy (fun j => by have := hbg_81 j; constructor <;> omega) hbg_79 _ _ _⟩)
  have hfo_83 : f_82 o0 = .inr (7, [.ref a_19, .int v_3, .ref a_21, .ref a_22, .ref a_23, .ref a_24, .int v_25, .ref a_26, .ref a_27, .ref a_28, .ref a_29, .ref a_30, .int v_31, .ref a_32, .ref a_33, .ref a_34]) := by rw [ef_82, up_ne (kd_ne ka_23 ko0 (by decide))]; exact hfo_75
  have hfo_84 : f_82 o1 = .inr (7, [.ref a_46, .int v_47, .ref a_48, .ref a_49, .ref a_50, .ref a_51, .int v_52, .ref a_53, .ref a_54, .ref a_55, .ref a_56, .ref a_57, .int v_58, .ref a_59, .ref a_60, .ref a_61]) := by rw [ef_82, up_ne (kd_ne ka_23 ko1 (by decide))]; exact hfo_76
  have hfo_85 : f_82 a_23 = .inl (cI, 20, .inl (va_cpy g_81 g_79 (Int32.toNatClampNeg 0) (Int32.toNatClampNeg 0) (Int32.toNatClampNeg 20))) := by rw [ef_82]; exact up_self
  refine lv_aload_n hx hb dX7_copyFrom_80 rfl (lv_at hl 1 rfl) ?_
  refine tk_getP (D := (dC, dI)) (ci := 7) (v := .ref a_51) (C := RX7) (T := TX7) (N := 16) hx hb hU inlX7 hown hK hP mo1 hfo_84 rfl 5 (by decide) (hU _ wd_76) (fun _ h9 => h9) rfl dX7_copyFrom_81 ?_
  refine lv_iconst (v := 0) hx hb dX7_copyFrom_84 (by decide) ?_
  refine lv_aload_n hx hb dX7_copyFrom_85 rfl (lv_at hl 0 rfl) ?_
  refine tk_getP (D := (dC, dI)) (ci := 7) (v := .ref a_24) (C := RX7) (T := TX7) (N := 16) hx hb hU inlX7 hown hK hP mo0 hfo_83 rfl 5 (by decide) (hU _ wd_76) (fun _ h9 => h9) rfl dX7_copyFrom_86 ?_
  refine lv_iconst (v := 0) hx hb dX7_copyFrom_89 (by decide) ?_
  refine lv_aload_n hx hb dX7_copyFrom_90 rfl (lv_at hl 0 rfl) ?_
  refine tk_getP (D := (dC, dI)) (ci := 7) (v := .ref a_24) (C := RX7) (T := TX7) (N := 16) hx hb hU inlX7 hown hK hP mo0 hfo_83 rfl 5 (by decide) (hU _ wd_76) (fun _ h9 => h9) rfl dX7_copyFrom_91 ?_
  obtain ⟨g_87, hfo_86, hbg_87⟩ := un_31 (hG _ ma_24) ka_24
  refine tk_alenP (v := 20) hx hb hK hP 0 ma_24 hfo_86 rfl rfl dX7_copyFrom_94 ?_
  obtain ⟨g_89, hfo_88, hbg_89⟩ := un_31 (hG _ ma_51) ka_51
  refine tk_copyP hx hb (by rw [hml]; exact hl.1.symm) hown (hU _ wd_534) (hU _ wd_253) (hU _ wd_254) (hU _ wd_255) hK hP hD hS 0 ma_51 ma_24 hfo_88 hfo_86 rfl (by decide) (by decide) (by decide) (by decide) (by decide) (Nat.le_of_ble_eq_true rfl) (Nat.le_of_ble_eq_true rfl) dX7_copyFrom_95 (fun H locs hP hD hS => ?_)
  obtain ⟨f_90, ef_90⟩ : ∃ y : Nat → va_E, y = va_up f_82 a_24 (.inl (cI, 20, .inl (va_cpy g_89 g_87 (Int32.toNatClampNeg 0) (Int32.toNatClampNeg 0) (Int32.toNatClampNeg 20)))) := ⟨_, rfl⟩
  have hP : va_P (dC, dI) vwCl (va_pl L f_90) H := by rw [ef_90]; exact hP
  have hD : va_D (fun q => q ∈ L) (va_pl L f_90) := by rw [ef_90]; exact hD
  have hG : GI (okc cI cL cZ cR L kd) kd L f_90 := by rw [ef_90]; exact hG.set a_24 (mk_31 ka_24 ⟨_, rfl, okI_cpy (fun j => by have := hbg_89 j; constructor <;> omega) hbg_87 _ _ _⟩)
  have hfo_91 : f_90 o0 = .inr (7, [.ref a_19, .int v_3, .ref a_21, .ref a_22, .ref a_23, .ref a_24, .int v_25, .ref a_26, .ref a_27, .ref a_28, .ref a_29, .ref a_30, .int v_31, .ref a_32, .ref a_33, .ref a_34]) := by rw [ef_90, up_ne (kd_ne ka_24 ko0 (by decide))]; exact hfo_83
  have hfo_92 : f_90 o1 = .inr (7, [.ref a_46, .int v_47, .ref a_48, .ref a_49, .ref a_50, .ref a_51, .int v_52, .ref a_53, .ref a_54, .ref a_55, .ref a_56, .ref a_57, .int v_58, .ref a_59, .ref a_60, .ref a_61]) := by rw [ef_90, up_ne (kd_ne ka_24 ko1 (by decide))]; exact hfo_84
  have hfo_93 : f_90 a_24 = .inl (cI, 20, .inl (va_cpy g_89 g_87 (Int32.toNatClampNeg 0) (Int32.toNatClampNeg 0) (Int32.toNatClampNeg 20))) := by rw [ef_90]; exact up_self
  refine lv_aload_n hx hb dX7_copyFrom_98 rfl (lv_at hl 0 rfl) ?_
  refine lv_aload_n hx hb dX7_copyFrom_99 rfl (lv_at hl 1 rfl) ?_
  refine tk_getP (D := (dC, dI)) (ci := 7) (v := .int v_52) (C := RX7) (T := TX7) (N := 16) hx hb hU inlX7 hown hK hP mo1 hfo_92 rfl 6 (by decide) (hU _ wd_263) (fun _ h9 => h9) rfl dX7_copyFrom_100 ?_
  refine tk_putP (D := (dC, dI)) (ci := 7) (v := .int v_52) (ty := .int) (C := RX7) (T := TX7) (N := 16) hx hb hU inlX7 tyX7 tyX7_ok nmX7 hown hK hP hD hS mo0 hfo_91 rfl 6 (by decide) (hU _ wd_263) (fun _ h9 => h9) rfl (by decide +kernel) rfl rfl (Nat.le_of_ble_eq_true rfl) dX7_copyFrom_103 (fun H locs hP hD hS => ?_)
  obtain ⟨f_94, ef_94⟩ : ∃ y : Nat → va_E, y = va_up f_90 o0 (.inr (7, [.ref a_19, .int v_3, .ref a_21, .ref a_22, .ref a_23, .ref a_24, .int v_52, .ref a_26, .ref a_27, .ref a_28, .ref a_29, .ref a_30, .int v_31, .ref a_32, .ref a_33, .ref a_34])) := ⟨_, rfl⟩
  have hP : va_P (dC, dI) vwCl (va_pl L f_94) H := by rw [ef_94]; exact hP
  have hD : va_D (fun q => q ∈ L) (va_pl L f_94) := by rw [ef_94]; exact hD
  have hG : GI (okc cI cL cZ cR L kd) kd L f_94 := by rw [ef_94]; exact hG.set o0 (mk_7 ko0 ⟨a_19, v_3, a_21, a_22, a_23, a_24, v_52, a_26, a_27, a_28, a_29, a_30, v_31, a_32, a_33, a_34, rfl, ⟨ma_19, ka_19⟩, (by constructor <;> omega), ⟨ma_21, ka_21⟩, ⟨ma_22, ka_22⟩, ⟨ma_23, ka_23⟩, ⟨ma_24, ka_24⟩, (by constructor <;> omega), ⟨ma_26, ka_26⟩, ⟨ma_27, ka_27⟩, ⟨ma_28, ka_28⟩, ⟨ma_29, ka_29⟩, ⟨ma_30, ka_30⟩, (by constructor <;> omega), ⟨ma_32, ka_32⟩, ⟨ma_33, ka_33⟩, ⟨ma_34, ka_34⟩⟩)
  have hfo_95 : f_94 o0 = .inr (7, [.ref a_19, .int v_3, .ref a_21, .ref a_22, .ref a_23, .ref a_24, .int v_52, .ref a_26, .ref a_27, .ref a_28, .ref a_29, .ref a_30, .int v_31, .ref a_32, .ref a_33, .ref a_34]) := by rw [ef_94]; exact up_self
  refine lv_aload_n hx hb dX7_copyFrom_106 rfl (lv_at hl 1 rfl) ?_
  obtain ⟨a_97, v_98, a_99, a_100, a_101, a_102, v_103, a_104, a_105, a_106, a_107, a_108, v_109, a_110, a_111, a_112, hfo_96, ⟨ma_97, ka_97⟩, bv_98, ⟨ma_99, ka_99⟩, ⟨ma_100, ka_100⟩, ⟨ma_101, ka_101⟩, ⟨ma_102, ka_102⟩, bv_103, ⟨ma_104, ka_104⟩, ⟨ma_105, ka_105⟩, ⟨ma_106, ka_106⟩, ⟨ma_107, ka_107⟩, ⟨ma_108, ka_108⟩, bv_109, ⟨ma_110, ka_110⟩, ⟨ma_111, ka_111⟩, ⟨ma_112, ka_112⟩⟩ := un_7 (hG _ mo1) ko1
  refine tk_getP (D := (dC, dI)) (ci := 7) (v := .ref a_106) (C := RX7) (T := TX7) (N := 16) hx hb hU inlX7 hown hK hP mo1 hfo_96 rfl 9 (by decide) (hU _ wd_79) (fun _ h9 => h9) rfl dX7_copyFrom_107 ?_
  refine lv_iconst (v := 0) hx hb dX7_copyFrom_110 (by decide) ?_
  refine lv_aload_n hx hb dX7_copyFrom_111 rfl (lv_at hl 0 rfl) ?_
  refine tk_getP (D := (dC, dI)) (ci := 7) (v := .ref a_28) (C := RX7) (T := TX7) (N := 16) hx hb hU inlX7 hown hK hP mo0 hfo_95 rfl 9 (by decide) (hU _ wd_79) (fun _ h9 => h9) rfl dX7_copyFrom_112 ?_
  refine lv_iconst (v := 0) hx hb dX7_copyFrom_115 (by decide) ?_
  refine lv_aload_n hx hb dX7_copyFrom_116 rfl (lv_at hl 0 rfl) ?_
  refine tk_getP (D := (dC, dI)) (ci := 7) (v := .ref a_28) (C := RX7) (T := TX7) (N := 16) hx hb hU inlX7 hown hK hP mo0 hfo_95 rfl 9 (by decide) (hU _ wd_79) (fun _ h9 => h9) rfl dX7_copyFrom_117 ?_
  obtain ⟨g_114, hfo_113, hbg_114⟩ := un_34 (hG _ ma_28) ka_28
  refine tk_alenP (v := 36) hx hb hK hP 0 ma_28 hfo_113 rfl rfl dX7_copyFrom_120 ?_
  obtain ⟨g_116, hfo_115, hbg_116⟩ := un_34 (hG _ ma_106) ka_106
  refine tk_copyP hx hb (by rw [hml]; exact hl.1.symm) hown (hU _ wd_534) (hU _ wd_253) (hU _ wd_254) (hU _ wd_255) hK hP hD hS 0 ma_106 ma_28 hfo_115 hfo_113 rfl (by decide) (by decide) (by decide) (by decide) (by decide) (Nat.le_of_ble_eq_true rfl) (Nat.le_of_ble_eq_true rfl) dX7_copyFrom_121 (fun H locs hP hD hS => ?_)
  obtain ⟨f_117, ef_117⟩ : ∃ y : Nat → va_E, y = va_up f_94 a_28 (.inl (cI, 36, .inl (va_cpy g_116 g_114 (Int32.toNatClampNeg 0) (Int32.toNatClampNeg 0) (Int32.toNatClampNeg 36)))) := ⟨_, rfl⟩
  have hP : va_P (dC, dI) vwCl (va_pl L f_117) H := by rw [ef_117]; exact hP
  have hD : va_D (fun q => q ∈ L) (va_pl L f_117) := by rw [ef_117]; exact hD
  have hG : GI (okc cI cL cZ cR L kd) kd L f_117 := by rw [ef_117]; exact hG.set a_28 (mk_34 ka_28 ⟨_, rfl, okI_cpy (fun j => by have := hbg_116 j; constructor <;> omega) hbg_114 _ _ _⟩)
  have hfo_118 : f_117 o0 = .inr (7, [.ref a_19, .int v_3, .ref a_21, .ref a_22, .ref a_23, .ref a_24, .int v_52, .ref a_26, .ref a_27, .ref a_28, .ref a_29, .ref a_30, .int v_31, .ref a_32, .ref a_33, .ref a_34]) := by rw [ef_117, up_ne (kd_ne ka_28 ko0 (by decide))]; exact hfo_95
  have hfo_119 : f_117 o1 = .inr (7, [.ref a_97, .int v_98, .ref a_99, .ref a_100, .ref a_101, .ref a_102, .int v_103, .ref a_104, .ref a_105, .ref a_106, .ref a_107, .ref a_108, .int v_109, .ref a_110, .ref a_111, .ref a_112]) := by rw [ef_117, up_ne (kd_ne ka_28 ko1 (by decide))]; exact hfo_96
  have hfo_120 : f_117 a_28 = .inl (cI, 36, .inl (va_cpy g_116 g_114 (Int32.toNatClampNeg 0) (Int32.toNatClampNeg 0) (Int32.toNatClampNeg 36))) := by rw [ef_117]; exact up_self
  refine lv_aload_n hx hb dX7_copyFrom_124 rfl (lv_at hl 1 rfl) ?_
  refine tk_getP (D := (dC, dI)) (ci := 7) (v := .ref a_107) (C := RX7) (T := TX7) (N := 16) hx hb hU inlX7 hown hK hP mo1 hfo_119 rfl 10 (by decide) (hU _ wd_80) (fun _ h9 => h9) rfl dX7_copyFrom_125 ?_
  refine lv_iconst (v := 0) hx hb dX7_copyFrom_128 (by decide) ?_
  refine lv_aload_n hx hb dX7_copyFrom_129 rfl (lv_at hl 0 rfl) ?_
  refine tk_getP (D := (dC, dI)) (ci := 7) (v := .ref a_29) (C := RX7) (T := TX7) (N := 16) hx hb hU inlX7 hown hK hP mo0 hfo_118 rfl 10 (by decide) (hU _ wd_80) (fun _ h9 => h9) rfl dX7_copyFrom_130 ?_
  refine lv_iconst (v := 0) hx hb dX7_copyFrom_133 (by decide) ?_
  refine lv_aload_n hx hb dX7_copyFrom_134 rfl (lv_at hl 0 rfl) ?_
  refine tk_getP (D := (dC, dI)) (ci := 7) (v := .ref a_29) (C := RX7) (T := TX7) (N := 16) hx hb hU inlX7 hown hK hP mo0 hfo_118 rfl 10 (by decide) (hU _ wd_80) (fun _ h9 => h9) rfl dX7_copyFrom_135 ?_
  obtain ⟨g_122, hfo_121, hbg_122⟩ := un_34 (hG _ ma_29) ka_29
  refine tk_alenP (v := 36) hx hb hK hP 0 ma_29 hfo_121 rfl rfl dX7_copyFrom_138 ?_
  obtain ⟨g_124, hfo_123, hbg_124⟩ := un_34 (hG _ ma_107) ka_107
  refine tk_copyP hx hb (by rw [hml]; exact hl.1.symm) hown (hU _ wd_534) (hU _ wd_253) (hU _ wd_254) (hU _ wd_255) hK hP hD hS 0 ma_107 ma_29 hfo_123 hfo_121 rfl (by decide) (by decide) (by decide) (by decide) (by decide) (Nat.le_of_ble_eq_true rfl) (Nat.le_of_ble_eq_true rfl) dX7_copyFrom_139 (fun H locs hP hD hS => ?_)
  obtain ⟨f_125, ef_125⟩ : ∃ y : Nat → va_E, y = va_up f_117 a_29 (.inl (cI, 36, .inl (va_cpy g_124 g_122 (Int32.toNatClampNeg 0) (Int32.toNatClampNeg 0) (Int32.toNatClampNeg 36)))) := ⟨_, rfl⟩
  have hP : va_P (dC, dI) vwCl (va_pl L f_125) H := by rw [ef_125]; exact hP
  have hD : va_D (fun q => q ∈ L) (va_pl L f_125) := by rw [ef_125]; exact hD
  have hG : GI (okc cI cL cZ cR L kd) kd L f_125 := by rw [ef_125]; exact hG.set a_29 (mk_34 ka_29 ⟨_, rfl, okI_cpy (fun j => by have := hbg_124 j; constructor <;> omega) hbg_122 _ _ _⟩)
  have hfo_126 : f_125 o0 = .inr (7, [.ref a_19, .int v_3, .ref a_21, .ref a_22, .ref a_23, .ref a_24, .int v_52, .ref a_26, .ref a_27, .ref a_28, .ref a_29, .ref a_30, .int v_31, .ref a_32, .ref a_33, .ref a_34]) := by rw [ef_125, up_ne (kd_ne ka_29 ko0 (by decide))]; exact hfo_118
  have hfo_127 : f_125 o1 = .inr (7, [.ref a_97, .int v_98, .ref a_99, .ref a_100, .ref a_101, .ref a_102, .int v_103, .ref a_104, .ref a_105, .ref a_106, .ref a_107, .ref a_108, .int v_109, .ref a_110, .ref a_111, .ref a_112]) := by rw [ef_125, up_ne (kd_ne ka_29 ko1 (by decide))]; exact hfo_119
  have hfo_128 : f_125 a_29 = .inl (cI, 36, .inl (va_cpy g_124 g_122 (Int32.toNatClampNeg 0) (Int32.toNatClampNeg 0) (Int32.toNatClampNeg 36))) := by rw [ef_125]; exact up_self
  refine lv_aload_n hx hb dX7_copyFrom_142 rfl (lv_at hl 0 rfl) ?_
  refine lv_aload_n hx hb dX7_copyFrom_143 rfl (lv_at hl 1 rfl) ?_
  refine tk_getP (D := (dC, dI)) (ci := 7) (v := .int v_109) (C := RX7) (T := TX7) (N := 16) hx hb hU inlX7 hown hK hP mo1 hfo_127 rfl 12 (by decide) (hU _ wd_264) (fun _ h9 => h9) rfl dX7_copyFrom_144 ?_
  refine tk_putP (D := (dC, dI)) (ci := 7) (v := .int v_109) (ty := .int) (C := RX7) (T := TX7) (N := 16) hx hb hU inlX7 tyX7 tyX7_ok nmX7 hown hK hP hD hS mo0 hfo_126 rfl 12 (by decide) (hU _ wd_264) (fun _ h9 => h9) rfl (by decide +kernel) rfl rfl (Nat.le_of_ble_eq_true rfl) dX7_copyFrom_147 (fun H locs hP hD hS => ?_)
  obtain ⟨f_129, ef_129⟩ : ∃ y : Nat → va_E, y = va_up f_125 o0 (.inr (7, [.ref a_19, .int v_3, .ref a_21, .ref a_22, .ref a_23, .ref a_24, .int v_52, .ref a_26, .ref a_27, .ref a_28, .ref a_29, .ref a_30, .int v_109, .ref a_32, .ref a_33, .ref a_34])) := ⟨_, rfl⟩
  have hP : va_P (dC, dI) vwCl (va_pl L f_129) H := by rw [ef_129]; exact hP
  have hD : va_D (fun q => q ∈ L) (va_pl L f_129) := by rw [ef_129]; exact hD
  have hG : GI (okc cI cL cZ cR L kd) kd L f_129 := by rw [ef_129]; exact hG.set o0 (mk_7 ko0 ⟨a_19, v_3, a_21, a_22, a_23, a_24, v_52, a_26, a_27, a_28, a_29, a_30, v_109, a_32, a_33, a_34, rfl, ⟨ma_19, ka_19⟩, (by constructor <;> omega), ⟨ma_21, ka_21⟩, ⟨ma_22, ka_22⟩, ⟨ma_23, ka_23⟩, ⟨ma_24, ka_24⟩, (by constructor <;> omega), ⟨ma_26, ka_26⟩, ⟨ma_27, ka_27⟩, ⟨ma_28, ka_28⟩, ⟨ma_29, ka_29⟩, ⟨ma_30, ka_30⟩, (by constructor <;> omega), ⟨ma_32, ka_32⟩, ⟨ma_33, ka_33⟩, ⟨ma_34, ka_34⟩⟩)
  have hfo_130 : f_129 o0 = .inr (7, [.ref a_19, .int v_3, .ref a_21, .ref a_22, .ref a_23, .ref a_24, .int v_52, .ref a_26, .ref a_27, .ref a_28, .ref a_29, .ref a_30, .int v_109, .ref a_32, .ref a_33, .ref a_34]) := by rw [ef_129]; exact up_self
  refine lv_iconst (v := 0) hx hb dX7_copyFrom_150 (by decide) ?_
  refine lv_istore_n (lv' := [(2, .int 0), (0, .ref o0), (1, .ref o1)]) hx hb dX7_copyFrom_151 rfl hl (by decide) rfl (fun ls hl => ?_)
  have hloop_139 : ∀ (n : Nat), ∀ (y_137 : Int32), (0 ≤ y_137.toInt ∧ y_137.toInt ≤ 8) → ∀ (f_138 : Nat → va_E), GI (okc cI cL cZ cR L kd) kd L f_138 → ∀ (H : Heap) (locs : List Loc), va_P (dC, dI) vwCl (va_pl L f_138) H → va_D (fun q => q ∈ L) (va_pl L f_138) → va_S (fun q => q ∈ L) s.heap H locs → 8 - y_137.toInt < (n : Int) → ∀ (ls : Array Slot), lv_has ls 3 [(2, .int y_137), (0, .ref o0), (1, .ref o1)] → W p l e (headSpec (wU yX7_copyFrom cX7_copyFrom 3 none) { frames := 3, cells := 0, slots := 0, locals := 82 }).room s m [.ref o0, .ref o1].toArray below meth c H locs 0 0 (MQ below (va_Qv (fun (f9 : Nat → va_E) => GI (okc cI cL cZ cR L kd) kd L f9) (qP (dC, dI) cI cL cZ cR L) (fun q => q ∈ L)) [.ref o0, .ref o1].toArray s 0 0 (fun q => q ∈ L)) (F0 m 152 ls []) := by
    intro n
    induction n with
    | zero => intro y_137 by_137 f_138 hG H locs hP hD hS hmuhloop_139 ls hl; exfalso; omega
    | succ n ih_hloop_139 =>
      intro y_137 by_137 f_138 hG H locs hP hD hS hmuhloop_139 ls hl
      refine lv_iload_n hx hb dX7_copyFrom_152 rfl (lv_at hl 0 rfl) ?_
      refine lv_aload_n hx hb dX7_copyFrom_153 rfl (lv_at hl 1 rfl) ?_
      obtain ⟨a_141, v_142, a_143, a_144, a_145, a_146, v_147, a_148, a_149, a_150, a_151, a_152, v_153, a_154, a_155, a_156, hfo_140, ⟨ma_141, ka_141⟩, bv_142, ⟨ma_143, ka_143⟩, ⟨ma_144, ka_144⟩, ⟨ma_145, ka_145⟩, ⟨ma_146, ka_146⟩, bv_147, ⟨ma_148, ka_148⟩, ⟨ma_149, ka_149⟩, ⟨ma_150, ka_150⟩, ⟨ma_151, ka_151⟩, ⟨ma_152, ka_152⟩, bv_153, ⟨ma_154, ka_154⟩, ⟨ma_155, ka_155⟩, ⟨ma_156, ka_156⟩⟩ := un_7 (hG _ mo0) ko0
      refine tk_getP (D := (dC, dI)) (ci := 7) (v := .int v_153) (C := RX7) (T := TX7) (N := 16) hx hb hU inlX7 hown hK hP mo0 hfo_140 rfl 12 (by decide) (hU _ wd_264) (fun _ h9 => h9) rfl dX7_copyFrom_154 ?_
      refine lv_icmp_ge (tgt := 181) hx hb dX7_copyFrom_157 (by decide) (fun c_157 => ?_) (fun c_157 => ?_)
      · skip
        rw [Int32.le_iff_toInt_le] at c_157
        refine lv_aload_n hx hb dX7_copyFrom_181 rfl (lv_at hl 1 rfl) ?_
        refine tk_getP (D := (dC, dI)) (ci := 7) (v := .ref a_154) (C := RX7) (T := TX7) (N := 16) hx hb hU inlX7 hown hK hP mo0 hfo_140 rfl 13 (by decide) (hU _ wd_86) (fun _ h9 => h9) rfl dX7_copyFrom_182 ?_
        refine lv_aload_n hx hb dX7_copyFrom_185 rfl (lv_at hl 2 rfl) ?_
        obtain ⟨a_159, v_160, a_161, a_162, a_163, a_164, v_165, a_166, a_167, a_168, a_169, a_170, v_171, a_172, a_173, a_174, hfo_158, ⟨ma_159, ka_159⟩, bv_160, ⟨ma_161, ka_161⟩, ⟨ma_162, ka_162⟩, ⟨ma_163, ka_163⟩, ⟨ma_164, ka_164⟩, bv_165, ⟨ma_166, ka_166⟩, ⟨ma_167, ka_167⟩, ⟨ma_168, ka_168⟩, ⟨ma_169, ka_169⟩, ⟨ma_170, ka_170⟩, bv_171, ⟨ma_172, ka_172⟩, ⟨ma_173, ka_173⟩, ⟨ma_174, ka_174⟩⟩ := un_7 (hG _ mo1) ko1
        refine tk_getP (D := (dC, dI)) (ci := 7) (v := .ref a_172) (C := RX7) (T := TX7) (N := 16) hx hb hU inlX7 hown hK hP mo1 hfo_158 rfl 13 (by decide) (hU _ wd_86) (fun _ h9 => h9) rfl dX7_copyFrom_186 ?_
        obtain ⟨a_176, a_177, v_178, hfo_175, ⟨ma_176, ka_176⟩, ⟨ma_177, ka_177⟩, bv_178⟩ := un_9 (hG _ ma_154) ka_154
        refine tk_VvP (As := [.ref a_172]) (rest := []) (n := 1) hx hb hml hown hU hN (s_X9_copyFrom_k9_k9 l (dC, dI) cI cL cZ cR kd L f_138 hG a_154 ma_154 ka_154 a_172 ma_172 ka_172) wd_544 wd_545 wd_546 wd_85 wd_547 (by decide +kernel) ⟨Nat.le_of_ble_eq_true rfl, Nat.le_of_ble_eq_true rfl⟩ hK hP hD hS ma_154 hfo_175 9 rfl rfl rfl hl.1 rfl (Nat.le_of_ble_eq_true rfl) dX7_copyFrom_189 ⟨Nat.le_of_ble_eq_true rfl, Nat.le_of_ble_eq_true rfl⟩ (fun f_180 H locs hw hP hD hS => ?_)
        have hG : GI (okc cI cL cZ cR L kd) kd L f_180 := hw
        refine lv_aload_n hx hb dX7_copyFrom_192 rfl (lv_at hl 1 rfl) ?_
        obtain ⟨a_182, v_183, a_184, a_185, a_186, a_187, v_188, a_189, a_190, a_191, a_192, a_193, v_194, a_195, a_196, a_197, hfo_181, ⟨ma_182, ka_182⟩, bv_183, ⟨ma_184, ka_184⟩, ⟨ma_185, ka_185⟩, ⟨ma_186, ka_186⟩, ⟨ma_187, ka_187⟩, bv_188, ⟨ma_189, ka_189⟩, ⟨ma_190, ka_190⟩, ⟨ma_191, ka_191⟩, ⟨ma_192, ka_192⟩, ⟨ma_193, ka_193⟩, bv_194, ⟨ma_195, ka_195⟩, ⟨ma_196, ka_196⟩, ⟨ma_197, ka_197⟩⟩ := un_7 (hG _ mo0) ko0
        refine tk_getP (D := (dC, dI)) (ci := 7) (v := .ref a_196) (C := RX7) (T := TX7) (N := 16) hx hb hU inlX7 hown hK hP mo0 hfo_181 rfl 14 (by decide) (hU _ wd_87) (fun _ h9 => h9) rfl dX7_copyFrom_193 ?_
        refine lv_aload_n hx hb dX7_copyFrom_196 rfl (lv_at hl 2 rfl) ?_
        obtain ⟨a_199, v_200, a_201, a_202, a_203, a_204, v_205, a_206, a_207, a_208, a_209, a_210, v_211, a_212, a_213, a_214, hfo_198, ⟨ma_199, ka_199⟩, bv_200, ⟨ma_201, ka_201⟩, ⟨ma_202, ka_202⟩, ⟨ma_203, ka_203⟩, ⟨ma_204, ka_204⟩, bv_205, ⟨ma_206, ka_206⟩, ⟨ma_207, ka_207⟩, ⟨ma_208, ka_208⟩, ⟨ma_209, ka_209⟩, ⟨ma_210, ka_210⟩, bv_211, ⟨ma_212, ka_212⟩, ⟨ma_213, ka_213⟩, ⟨ma_214, ka_214⟩⟩ := un_7 (hG _ mo1) ko1
        refine tk_getP (D := (dC, dI)) (ci := 7) (v := .ref a_213) (C := RX7) (T := TX7) (N := 16) hx hb hU inlX7 hown hK hP mo1 hfo_198 rfl 14 (by decide) (hU _ wd_87) (fun _ h9 => h9) rfl dX7_copyFrom_197 ?_
        obtain ⟨a_216, a_217, v_218, hfo_215, ⟨ma_216, ka_216⟩, ⟨ma_217, ka_217⟩, bv_218⟩ := un_13 (hG _ ma_196) ka_196
        refine tk_VvP (As := [.ref a_213]) (rest := []) (n := 1) hx hb hml hown hU hN (s_X9_copyFrom_k13_k13 l (dC, dI) cI cL cZ cR kd L f_180 hG a_196 ma_196 ka_196 a_213 ma_213 ka_213) wd_544 wd_545 wd_546 wd_85 wd_547 (by decide +kernel) ⟨Nat.le_of_ble_eq_true rfl, Nat.le_of_ble_eq_true rfl⟩ hK hP hD hS ma_196 hfo_215 9 rfl rfl rfl hl.1 rfl (Nat.le_of_ble_eq_true rfl) dX7_copyFrom_200 ⟨Nat.le_of_ble_eq_true rfl, Nat.le_of_ble_eq_true rfl⟩ (fun f_220 H locs hw hP hD hS => ?_)
        have hG : GI (okc cI cL cZ cR L kd) kd L f_220 := hw
        exact W.vret hx hb hr (fun t ht hW => ⟨⟨f_220, rfl, hG, by rw [ht]; exact hP, va_K.moved hW.alike hK, pl_in hD⟩, hS.F ht⟩) hS.2.2 dX7_copyFrom_203
      · skip
        rw [Int32.le_iff_toInt_le] at c_157
        refine lv_aload_n hx hb dX7_copyFrom_160 rfl (lv_at hl 1 rfl) ?_
        refine tk_getP (D := (dC, dI)) (ci := 7) (v := .ref a_152) (C := RX7) (T := TX7) (N := 16) hx hb hU inlX7 hown hK hP mo0 hfo_140 rfl 11 (by decide) (hU _ wd_82) (fun _ h9 => h9) rfl dX7_copyFrom_161 ?_
        refine lv_iload_n hx hb dX7_copyFrom_164 rfl (lv_at hl 0 rfl) ?_
        obtain ⟨g_222, hfo_221, hbg_222⟩ := un_35 (hG _ ma_152) ka_152
        obtain ⟨a_223, hga_223, ma_223, ka_223⟩ := hbg_222 (Int32.toNatClampNeg y_137) (in_lt (vp_in_iff.mpr (by constructor <;> omega)))
        refine tk_aldP hx hb hK hP 3 ma_152 hfo_221 rfl (vp_in_iff.mpr (by constructor <;> omega)) hga_223 dX7_copyFrom_165 ?_
        refine lv_aload_n hx hb dX7_copyFrom_166 rfl (lv_at hl 2 rfl) ?_
        obtain ⟨a_225, v_226, a_227, a_228, a_229, a_230, v_231, a_232, a_233, a_234, a_235, a_236, v_237, a_238, a_239, a_240, hfo_224, ⟨ma_225, ka_225⟩, bv_226, ⟨ma_227, ka_227⟩, ⟨ma_228, ka_228⟩, ⟨ma_229, ka_229⟩, ⟨ma_230, ka_230⟩, bv_231, ⟨ma_232, ka_232⟩, ⟨ma_233, ka_233⟩, ⟨ma_234, ka_234⟩, ⟨ma_235, ka_235⟩, ⟨ma_236, ka_236⟩, bv_237, ⟨ma_238, ka_238⟩, ⟨ma_239, ka_239⟩, ⟨ma_240, ka_240⟩⟩ := un_7 (hG _ mo1) ko1
        refine tk_getP (D := (dC, dI)) (ci := 7) (v := .ref a_236) (C := RX7) (T := TX7) (N := 16) hx hb hU inlX7 hown hK hP mo1 hfo_224 rfl 11 (by decide) (hU _ wd_82) (fun _ h9 => h9) rfl dX7_copyFrom_167 ?_
        refine lv_iload_n hx hb dX7_copyFrom_170 rfl (lv_at hl 0 rfl) ?_
        obtain ⟨g_242, hfo_241, hbg_242⟩ := un_35 (hG _ ma_236) ka_236
        obtain ⟨a_243, hga_243, ma_243, ka_243⟩ := hbg_242 (Int32.toNatClampNeg y_137) (in_lt (vp_in_iff.mpr (by constructor <;> omega)))
        refine tk_aldP hx hb hK hP 3 ma_236 hfo_241 rfl (vp_in_iff.mpr (by constructor <;> omega)) hga_243 dX7_copyFrom_171 ?_
        obtain ⟨v_245, v_246, v_247, v_248, a_249, a_250, a_251, a_252, v_253, v_254, v_255, hfo_244, bv_245, bv_246, bv_247, bv_248, ⟨ma_249, ka_249⟩, ⟨ma_250, ka_250⟩, ⟨ma_251, ka_251⟩, ⟨ma_252, ka_252⟩⟩ := un_4 (hG _ ma_223) ka_223
        have bv_253 : ((-2147483648) ≤ v_253.toInt ∧ v_253.toInt ≤ 2147483647) := ⟨i32_lo _, i32_hi _⟩
        have bv_254 : ((-2147483648) ≤ v_254.toInt ∧ v_254.toInt ≤ 2147483647) := ⟨i32_lo _, i32_hi _⟩
        have bv_255 : ((-2147483648) ≤ v_255.toInt ∧ v_255.toInt ≤ 2147483647) := ⟨i32_lo _, i32_hi _⟩
        refine tk_VvP (As := [.ref a_243]) (rest := []) (n := 1) hx hb hml hown hU hN (s_X4_copyFrom_k4_k4 l (dC, dI) cI cL cZ cR kd L f_138 hG a_223 ma_223 ka_223 a_243 ma_243 ka_243) wd_535 wd_536 wd_537 wd_90 wd_538 (by decide +kernel) ⟨Nat.le_of_ble_eq_true rfl, Nat.le_of_ble_eq_true rfl⟩ hK hP hD hS ma_223 hfo_244 4 rfl rfl rfl hl.1 rfl (Nat.le_of_ble_eq_true rfl) dX7_copyFrom_172 ⟨Nat.le_of_ble_eq_true rfl, Nat.le_of_ble_eq_true rfl⟩ (fun f_257 H locs hw hP hD hS => ?_)
        have hG : GI (okc cI cL cZ cR L kd) kd L f_257 := hw
        obtain ⟨x_258, ex_258⟩ : ∃ y : Int32, y_137 + 1 = y := ⟨_, rfl⟩
        have hx_258 : x_258.toInt = y_137.toInt + 1 := by rw [← ex_258, ad_I (by rw [ti_1]; omega) (by rw [ti_1]; omega), ti_1]
        have bx_258 : (1 ≤ x_258.toInt ∧ x_258.toInt ≤ 8) := by constructor <;> omega
        refine lv_iinc (v := x_258) (lv' := [(2, .int x_258), (0, .ref o0), (1, .ref o1)]) hx hb dX7_copyFrom_175 hl (k := 0) rfl ex_258 (by decide) rfl (fun ls hl => ?_)
        refine lv_goto (tgt := 152) hx hb dX7_copyFrom_178 (by decide) ?_
        exact ih_hloop_139 x_258 (by constructor <;> omega) f_257 hG _ _ hP hD hS (by omega) ls (lv_sub hl [0, 1, 2] rfl)
  exact hloop_139 9 0 (by decide) f_129 hG _ _ hP hD hS (by (try simp only [ti_0]); omega) ls hl
set_option maxHeartbeats 8000000 in
set_option maxRecDepth 100000 in
theorem s_X7_keepPair_k7 (l : Launch) (D : va_G) (cI cL cZ cR : ClassId) (kd : Nat → Nat) (L : List Nat) (f : Nat → va_E) (hG : GI (okc cI cL cZ cR L kd) kd L f) (o0 : Nat) (mo0 : o0 ∈ L) (ko0 : kd o0 = 7) (p1 : Int32) (bp1 : (0 ≤ p1.toInt ∧ p1.toInt ≤ 8)) (p2 : Int32) (bp2 : (0 ≤ p2.toInt ∧ p2.toInt ≤ 8)) (p3 : Int32) (bp3 : (0 ≤ p3.toInt ∧ p3.toInt ≤ 3)) (p4 : Int32) (bp4 : (0 ≤ p4.toInt ∧ p4.toInt ≤ 3)) (hpreo0 : ∀ (w6 : Int32) (w1 : Int32), fldI (f o0) 6 = some w6 → fldI (f o0) 1 = some w1 → w6.toInt ≤ 19 ∧ w6.toInt - w1.toInt ≤ 11) : mPV l D cI cL cZ cR yX7_keepPair cX7_keepPair 5 none 0 0 [.ref o0, .int p1, .int p2, .int p3, .int p4] L f (fun (f9 : Nat → va_E) => GI (okc cI cL cZ cR L kd) kd L f9) := by
  obtain ⟨dC, dI⟩ := D
  refine Met.ofW (cc := cX7_keepPair) (maxL := 5) (ret := none) (by decide) rfl ?_
  intro p e s m args below meth c s₁ B hml hv
  obtain ⟨rfl, hP, hK, hD0, hN⟩ := hv
  have hx := B.exec
  have hb := B.bytes
  have hr := B.returns
  have hU : ∀ w ∈ wsU, w.before _ s = true := fun w h => atoms_spec (ws := wU yX7_keepPair cX7_keepPair 5 none) B.pre w (List.mem_cons_of_mem _ h)
  have hown : s.vm.findClass RX7 = some m.cls := findClass_of_methodNamed B.named
  have hlocks := B.notSynchronized
  have hD := pl_in hD0
  have hS : va_S (fun q => q ∈ L) s.heap s.heap [] := va_S.rf
  have hl := lv_entry ([.ref o0, .int p1, .int p2, .int p3, .int p4]) (n := 5) (Nat.le_of_ble_eq_true rfl)
  rw [lg_entry_eq]
  generalize (lg_sl ([.ref o0, .int p1, .int p2, .int p3, .int p4]) ++ List.replicate (5 - (lg_sl ([.ref o0, .int p1, .int p2, .int p3, .int p4])).length) Slot.unset).toArray = ls at hl ⊢
  have hl : lv_has ls 5 [(0, .ref o0), (1, .int p1), (2, .int p2), (3, .int p3), (4, .int p4)] := hl
  refine lv_aload_n hx hb dX7_keepPair_0 rfl (lv_at hl 0 rfl) ?_
  obtain ⟨a_2, v_3, a_4, a_5, a_6, a_7, v_8, a_9, a_10, a_11, a_12, a_13, v_14, a_15, a_16, a_17, hfo_1, ⟨ma_2, ka_2⟩, bv_3, ⟨ma_4, ka_4⟩, ⟨ma_5, ka_5⟩, ⟨ma_6, ka_6⟩, ⟨ma_7, ka_7⟩, bv_8, ⟨ma_9, ka_9⟩, ⟨ma_10, ka_10⟩, ⟨ma_11, ka_11⟩, ⟨ma_12, ka_12⟩, ⟨ma_13, ka_13⟩, bv_14, ⟨ma_15, ka_15⟩, ⟨ma_16, ka_16⟩, ⟨ma_17, ka_17⟩⟩ := un_7 (hG _ mo0) ko0
  have hpo0 := hpreo0 v_8 v_3 (by rw [hfo_1]; rfl) (by rw [hfo_1]; rfl)
  refine tk_getP (D := (dC, dI)) (ci := 7) (v := .ref a_6) (C := RX7) (T := TX7) (N := 16) hx hb hU inlX7 hown hK hP mo0 hfo_1 rfl 4 (by decide) (hU _ wd_75) (fun _ h9 => h9) rfl dX7_keepPair_1 ?_
  refine lv_aload_n hx hb dX7_keepPair_4 rfl (lv_at hl 0 rfl) ?_
  refine tk_getP (D := (dC, dI)) (ci := 7) (v := .int v_8) (C := RX7) (T := TX7) (N := 16) hx hb hU inlX7 hown hK hP mo0 hfo_1 rfl 6 (by decide) (hU _ wd_263) (fun _ h9 => h9) rfl dX7_keepPair_5 ?_
  refine lv_iload_n hx hb dX7_keepPair_8 rfl (lv_at hl 1 rfl) ?_
  obtain ⟨g_19, hfo_18, hbg_19⟩ := un_31 (hG _ ma_6) ka_6
  refine tk_istP hx hb hK hP hD hS 0 ma_6 hfo_18 rfl (vp_in_iff.mpr (by constructor <;> omega)) dX7_keepPair_9 (fun H locs hP hD hS => ?_)
  obtain ⟨f_20, ef_20⟩ : ∃ y : Nat → va_E, y = va_up f a_6 (.inl (cI, 20, .inl (upd g_19 (Int32.toNatClampNeg v_8) p1))) := ⟨_, rfl⟩
  have hP : va_P (dC, dI) vwCl (va_pl L f_20) H := by rw [ef_20]; exact hP
  have hD : va_D (fun q => q ∈ L) (va_pl L f_20) := by rw [ef_20]; exact hD
  have hG : GI (okc cI cL cZ cR L kd) kd L f_20 := by rw [ef_20]; exact hG.set a_6 (mk_31 ka_6 ⟨_, rfl, okI_up hbg_19 (by constructor <;> omega) _⟩)
  have hfo_21 : f_20 o0 = .inr (7, [.ref a_2, .int v_3, .ref a_4, .ref a_5, .ref a_6, .ref a_7, .int v_8, .ref a_9, .ref a_10, .ref a_11, .ref a_12, .ref a_13, .int v_14, .ref a_15, .ref a_16, .ref a_17]) := by rw [ef_20, up_ne (kd_ne ka_6 ko0 (by decide))]; exact hfo_1
  have hfo_22 : f_20 a_6 = .inl (cI, 20, .inl (upd g_19 (Int32.toNatClampNeg v_8) p1)) := by rw [ef_20]; exact up_self
  refine lv_aload_n hx hb dX7_keepPair_10 rfl (lv_at hl 0 rfl) ?_
  refine tk_getP (D := (dC, dI)) (ci := 7) (v := .ref a_7) (C := RX7) (T := TX7) (N := 16) hx hb hU inlX7 hown hK hP mo0 hfo_21 rfl 5 (by decide) (hU _ wd_76) (fun _ h9 => h9) rfl dX7_keepPair_11 ?_
  refine lv_aload_n hx hb dX7_keepPair_14 rfl (lv_at hl 0 rfl) ?_
  refine tk_getP (D := (dC, dI)) (ci := 7) (v := .int v_8) (C := RX7) (T := TX7) (N := 16) hx hb hU inlX7 hown hK hP mo0 hfo_21 rfl 6 (by decide) (hU _ wd_263) (fun _ h9 => h9) rfl dX7_keepPair_15 ?_
  refine lv_iload_n hx hb dX7_keepPair_18 rfl (lv_at hl 2 rfl) ?_
  obtain ⟨g_24, hfo_23, hbg_24⟩ := un_31 (hG _ ma_7) ka_7
  refine tk_istP hx hb hK hP hD hS 0 ma_7 hfo_23 rfl (vp_in_iff.mpr (by constructor <;> omega)) dX7_keepPair_19 (fun H locs hP hD hS => ?_)
  obtain ⟨f_25, ef_25⟩ : ∃ y : Nat → va_E, y = va_up f_20 a_7 (.inl (cI, 20, .inl (upd g_24 (Int32.toNatClampNeg v_8) p2))) := ⟨_, rfl⟩
  have hP : va_P (dC, dI) vwCl (va_pl L f_25) H := by rw [ef_25]; exact hP
  have hD : va_D (fun q => q ∈ L) (va_pl L f_25) := by rw [ef_25]; exact hD
  have hG : GI (okc cI cL cZ cR L kd) kd L f_25 := by rw [ef_25]; exact hG.set a_7 (mk_31 ka_7 ⟨_, rfl, okI_up hbg_24 (by constructor <;> omega) _⟩)
  have hfo_26 : f_25 o0 = .inr (7, [.ref a_2, .int v_3, .ref a_4, .ref a_5, .ref a_6, .ref a_7, .int v_8, .ref a_9, .ref a_10, .ref a_11, .ref a_12, .ref a_13, .int v_14, .ref a_15, .ref a_16, .ref a_17]) := by rw [ef_25, up_ne (kd_ne ka_7 ko0 (by decide))]; exact hfo_21
  have hfo_27 : f_25 a_7 = .inl (cI, 20, .inl (upd g_24 (Int32.toNatClampNeg v_8) p2)) := by rw [ef_25]; exact up_self
  refine lv_aload_n hx hb dX7_keepPair_20 rfl (lv_at hl 0 rfl) ?_
  refine lv_dup hx hb dX7_keepPair_21 rfl ?_
  refine tk_getP (D := (dC, dI)) (ci := 7) (v := .int v_8) (C := RX7) (T := TX7) (N := 16) hx hb hU inlX7 hown hK hP mo0 hfo_26 rfl 6 (by decide) (hU _ wd_263) (fun _ h9 => h9) rfl dX7_keepPair_22 ?_
  refine lv_iconst (v := 1) hx hb dX7_keepPair_25 (by decide) ?_
  refine lv_iadd hx hb dX7_keepPair_26 ?_
  refine lv_topi (fun x_28 ex_28 => ?_)
  have hx_28 : x_28.toInt = v_8.toInt + 1 := by rw [ex_28, ad_I (by rw [ti_1]; omega) (by rw [ti_1]; omega), ti_1]
  have bx_28 : (1 ≤ x_28.toInt ∧ x_28.toInt ≤ 20) := by constructor <;> omega
  refine tk_putP (D := (dC, dI)) (ci := 7) (v := .int x_28) (ty := .int) (C := RX7) (T := TX7) (N := 16) hx hb hU inlX7 tyX7 tyX7_ok nmX7 hown hK hP hD hS mo0 hfo_26 rfl 6 (by decide) (hU _ wd_263) (fun _ h9 => h9) rfl (by decide +kernel) rfl rfl (Nat.le_of_ble_eq_true rfl) dX7_keepPair_27 (fun H locs hP hD hS => ?_)
  obtain ⟨f_29, ef_29⟩ : ∃ y : Nat → va_E, y = va_up f_25 o0 (.inr (7, [.ref a_2, .int v_3, .ref a_4, .ref a_5, .ref a_6, .ref a_7, .int x_28, .ref a_9, .ref a_10, .ref a_11, .ref a_12, .ref a_13, .int v_14, .ref a_15, .ref a_16, .ref a_17])) := ⟨_, rfl⟩
  have hP : va_P (dC, dI) vwCl (va_pl L f_29) H := by rw [ef_29]; exact hP
  have hD : va_D (fun q => q ∈ L) (va_pl L f_29) := by rw [ef_29]; exact hD
  have hG : GI (okc cI cL cZ cR L kd) kd L f_29 := by rw [ef_29]; exact hG.set o0 (mk_7 ko0 ⟨a_2, v_3, a_4, a_5, a_6, a_7, x_28, a_9, a_10, a_11, a_12, a_13, v_14, a_15, a_16, a_17, rfl, ⟨ma_2, ka_2⟩, (by constructor <;> omega), ⟨ma_4, ka_4⟩, ⟨ma_5, ka_5⟩, ⟨ma_6, ka_6⟩, ⟨ma_7, ka_7⟩, (by constructor <;> omega), ⟨ma_9, ka_9⟩, ⟨ma_10, ka_10⟩, ⟨ma_11, ka_11⟩, ⟨ma_12, ka_12⟩, ⟨ma_13, ka_13⟩, (by constructor <;> omega), ⟨ma_15, ka_15⟩, ⟨ma_16, ka_16⟩, ⟨ma_17, ka_17⟩⟩)
  have hfo_30 : f_29 o0 = .inr (7, [.ref a_2, .int v_3, .ref a_4, .ref a_5, .ref a_6, .ref a_7, .int x_28, .ref a_9, .ref a_10, .ref a_11, .ref a_12, .ref a_13, .int v_14, .ref a_15, .ref a_16, .ref a_17]) := by rw [ef_29]; exact up_self
  refine lv_aload_n hx hb dX7_keepPair_30 rfl (lv_at hl 0 rfl) ?_
  refine tk_getP (D := (dC, dI)) (ci := 7) (v := .ref a_5) (C := RX7) (T := TX7) (N := 16) hx hb hU inlX7 hown hK hP mo0 hfo_30 rfl 3 (by decide) (hU _ wd_74) (fun _ h9 => h9) rfl dX7_keepPair_31 ?_
  refine lv_iload_n hx hb dX7_keepPair_34 rfl (lv_at hl 1 rfl) ?_
  refine lv_bipush (v := 9) hx hb dX7_keepPair_35 (by decide) ?_
  refine lv_imul hx hb dX7_keepPair_37 ?_
  refine lv_topi (fun x_31 ex_31 => ?_)
  have hx_31 : x_31.toInt = p1.toInt * 9 := by rw [ex_31, ml_I (by rw [ti_9]; omega) (by rw [ti_9]; omega), ti_9]
  have bx_31 : (0 ≤ x_31.toInt ∧ x_31.toInt ≤ 72) := by constructor <;> omega
  refine lv_iload_n hx hb dX7_keepPair_38 rfl (lv_at hl 2 rfl) ?_
  refine lv_iadd hx hb dX7_keepPair_39 ?_
  refine lv_topi (fun x_32 ex_32 => ?_)
  have hx_32 : x_32.toInt = x_31.toInt + p2.toInt := by rw [ex_32, ad_I (by omega) (by omega)]
  have bx_32 : (0 ≤ x_32.toInt ∧ x_32.toInt ≤ 80) := by constructor <;> omega
  refine lv_aload_n hx hb dX7_keepPair_40 rfl (lv_at hl 0 rfl) ?_
  refine tk_getP (D := (dC, dI)) (ci := 7) (v := .int x_28) (C := RX7) (T := TX7) (N := 16) hx hb hU inlX7 hown hK hP mo0 hfo_30 rfl 6 (by decide) (hU _ wd_263) (fun _ h9 => h9) rfl dX7_keepPair_41 ?_
  obtain ⟨g_34, hfo_33, hbg_34⟩ := un_30 (hG _ ma_5) ka_5
  refine tk_istP hx hb hK hP hD hS 0 ma_5 hfo_33 rfl (vp_in_iff.mpr (by constructor <;> omega)) dX7_keepPair_44 (fun H locs hP hD hS => ?_)
  obtain ⟨f_35, ef_35⟩ : ∃ y : Nat → va_E, y = va_up f_29 a_5 (.inl (cI, 81, .inl (upd g_34 (Int32.toNatClampNeg x_32) x_28))) := ⟨_, rfl⟩
  have hP : va_P (dC, dI) vwCl (va_pl L f_35) H := by rw [ef_35]; exact hP
  have hD : va_D (fun q => q ∈ L) (va_pl L f_35) := by rw [ef_35]; exact hD
  have hG : GI (okc cI cL cZ cR L kd) kd L f_35 := by rw [ef_35]; exact hG.set a_5 (mk_30 ka_5 ⟨_, rfl, okI_up hbg_34 (by constructor <;> omega) _⟩)
  have hfo_36 : f_35 o0 = .inr (7, [.ref a_2, .int v_3, .ref a_4, .ref a_5, .ref a_6, .ref a_7, .int x_28, .ref a_9, .ref a_10, .ref a_11, .ref a_12, .ref a_13, .int v_14, .ref a_15, .ref a_16, .ref a_17]) := by rw [ef_35, up_ne (kd_ne ka_5 ko0 (by decide))]; exact hfo_30
  have hfo_37 : f_35 a_5 = .inl (cI, 81, .inl (upd g_34 (Int32.toNatClampNeg x_32) x_28)) := by rw [ef_35]; exact up_self
  refine lv_aload_n hx hb dX7_keepPair_45 rfl (lv_at hl 0 rfl) ?_
  refine tk_getP (D := (dC, dI)) (ci := 7) (v := .ref a_11) (C := RX7) (T := TX7) (N := 16) hx hb hU inlX7 hown hK hP mo0 hfo_36 rfl 9 (by decide) (hU _ wd_79) (fun _ h9 => h9) rfl dX7_keepPair_46 ?_
  refine lv_iload_n hx hb dX7_keepPair_49 rfl (lv_at hl 1 rfl) ?_
  refine lv_iconst (v := 4) hx hb dX7_keepPair_50 (by decide) ?_
  refine lv_imul hx hb dX7_keepPair_51 ?_
  refine lv_topi (fun x_38 ex_38 => ?_)
  have hx_38 : x_38.toInt = p1.toInt * 4 := by rw [ex_38, ml_I (by rw [ti_4]; omega) (by rw [ti_4]; omega), ti_4]
  have bx_38 : (0 ≤ x_38.toInt ∧ x_38.toInt ≤ 32) := by constructor <;> omega
  refine lv_iload_n hx hb dX7_keepPair_52 rfl (lv_at hl 3 rfl) ?_
  refine lv_iadd hx hb dX7_keepPair_53 ?_
  refine lv_topi (fun x_39 ex_39 => ?_)
  have hx_39 : x_39.toInt = x_38.toInt + p3.toInt := by rw [ex_39, ad_I (by omega) (by omega)]
  have bx_39 : (0 ≤ x_39.toInt ∧ x_39.toInt ≤ 35) := by constructor <;> omega
  refine lv_aload_n hx hb dX7_keepPair_54 rfl (lv_at hl 0 rfl) ?_
  refine tk_getP (D := (dC, dI)) (ci := 7) (v := .int x_28) (C := RX7) (T := TX7) (N := 16) hx hb hU inlX7 hown hK hP mo0 hfo_36 rfl 6 (by decide) (hU _ wd_263) (fun _ h9 => h9) rfl dX7_keepPair_55 ?_
  obtain ⟨g_41, hfo_40, hbg_41⟩ := un_34 (hG _ ma_11) ka_11
  refine tk_istP hx hb hK hP hD hS 0 ma_11 hfo_40 rfl (vp_in_iff.mpr (by constructor <;> omega)) dX7_keepPair_58 (fun H locs hP hD hS => ?_)
  obtain ⟨f_42, ef_42⟩ : ∃ y : Nat → va_E, y = va_up f_35 a_11 (.inl (cI, 36, .inl (upd g_41 (Int32.toNatClampNeg x_39) x_28))) := ⟨_, rfl⟩
  have hP : va_P (dC, dI) vwCl (va_pl L f_42) H := by rw [ef_42]; exact hP
  have hD : va_D (fun q => q ∈ L) (va_pl L f_42) := by rw [ef_42]; exact hD
  have hG : GI (okc cI cL cZ cR L kd) kd L f_42 := by rw [ef_42]; exact hG.set a_11 (mk_34 ka_11 ⟨_, rfl, okI_up hbg_41 (by constructor <;> omega) _⟩)
  have hfo_43 : f_42 o0 = .inr (7, [.ref a_2, .int v_3, .ref a_4, .ref a_5, .ref a_6, .ref a_7, .int x_28, .ref a_9, .ref a_10, .ref a_11, .ref a_12, .ref a_13, .int v_14, .ref a_15, .ref a_16, .ref a_17]) := by rw [ef_42, up_ne (kd_ne ka_11 ko0 (by decide))]; exact hfo_36
  have hfo_44 : f_42 a_11 = .inl (cI, 36, .inl (upd g_41 (Int32.toNatClampNeg x_39) x_28)) := by rw [ef_42]; exact up_self
  refine lv_aload_n hx hb dX7_keepPair_59 rfl (lv_at hl 0 rfl) ?_
  refine tk_getP (D := (dC, dI)) (ci := 7) (v := .ref a_12) (C := RX7) (T := TX7) (N := 16) hx hb hU inlX7 hown hK hP mo0 hfo_43 rfl 10 (by decide) (hU _ wd_80) (fun _ h9 => h9) rfl dX7_keepPair_60 ?_
  refine lv_iload_n hx hb dX7_keepPair_63 rfl (lv_at hl 2 rfl) ?_
  refine lv_iconst (v := 4) hx hb dX7_keepPair_64 (by decide) ?_
  refine lv_imul hx hb dX7_keepPair_65 ?_
  refine lv_topi (fun x_45 ex_45 => ?_)
  have hx_45 : x_45.toInt = p2.toInt * 4 := by rw [ex_45, ml_I (by rw [ti_4]; omega) (by rw [ti_4]; omega), ti_4]
  have bx_45 : (0 ≤ x_45.toInt ∧ x_45.toInt ≤ 32) := by constructor <;> omega
  refine lv_iload hx hb dX7_keepPair_66 (lv_at hl 4 rfl) ?_
  refine lv_iadd hx hb dX7_keepPair_68 ?_
  refine lv_topi (fun x_46 ex_46 => ?_)
  have hx_46 : x_46.toInt = x_45.toInt + p4.toInt := by rw [ex_46, ad_I (by omega) (by omega)]
  have bx_46 : (0 ≤ x_46.toInt ∧ x_46.toInt ≤ 35) := by constructor <;> omega
  refine lv_aload_n hx hb dX7_keepPair_69 rfl (lv_at hl 0 rfl) ?_
  refine tk_getP (D := (dC, dI)) (ci := 7) (v := .int x_28) (C := RX7) (T := TX7) (N := 16) hx hb hU inlX7 hown hK hP mo0 hfo_43 rfl 6 (by decide) (hU _ wd_263) (fun _ h9 => h9) rfl dX7_keepPair_70 ?_
  obtain ⟨g_48, hfo_47, hbg_48⟩ := un_34 (hG _ ma_12) ka_12
  refine tk_istP hx hb hK hP hD hS 0 ma_12 hfo_47 rfl (vp_in_iff.mpr (by constructor <;> omega)) dX7_keepPair_73 (fun H locs hP hD hS => ?_)
  obtain ⟨f_49, ef_49⟩ : ∃ y : Nat → va_E, y = va_up f_42 a_12 (.inl (cI, 36, .inl (upd g_48 (Int32.toNatClampNeg x_46) x_28))) := ⟨_, rfl⟩
  have hP : va_P (dC, dI) vwCl (va_pl L f_49) H := by rw [ef_49]; exact hP
  have hD : va_D (fun q => q ∈ L) (va_pl L f_49) := by rw [ef_49]; exact hD
  have hG : GI (okc cI cL cZ cR L kd) kd L f_49 := by rw [ef_49]; exact hG.set a_12 (mk_34 ka_12 ⟨_, rfl, okI_up hbg_48 (by constructor <;> omega) _⟩)
  have hfo_50 : f_49 o0 = .inr (7, [.ref a_2, .int v_3, .ref a_4, .ref a_5, .ref a_6, .ref a_7, .int x_28, .ref a_9, .ref a_10, .ref a_11, .ref a_12, .ref a_13, .int v_14, .ref a_15, .ref a_16, .ref a_17]) := by rw [ef_49, up_ne (kd_ne ka_12 ko0 (by decide))]; exact hfo_43
  have hfo_51 : f_49 a_12 = .inl (cI, 36, .inl (upd g_48 (Int32.toNatClampNeg x_46) x_28)) := by rw [ef_49]; exact up_self
  exact W.vret hx hb hr (fun t ht hW => ⟨⟨f_49, rfl, hG, by rw [ht]; exact hP, va_K.moved hW.alike hK, pl_in hD⟩, hS.F ht⟩) hS.2.2 dX7_keepPair_74
