set_option maxHeartbeats 8000000 in
set_option maxRecDepth 100000 in
theorem s_X4_compile_k4_k7 (l : Launch) (D : va_G) (cI cL cZ cR : ClassId) (kd : Nat → Nat) (L : List Nat) (f : Nat → va_E) (hG : GI (okc cI cL cZ cR L kd) kd L f) (o0 : Nat) (mo0 : o0 ∈ L) (ko0 : kd o0 = 4) (o1 : Nat) (mo1 : o1 ∈ L) (ko1 : kd o1 = 7) : mPV l D cI cL cZ cR yX4_compile cX4_compile 5 none 3 64 [.ref o0, .ref o1] L f (fun (f9 : Nat → va_E) => GI (okc cI cL cZ cR L kd) kd L f9) := by
  obtain ⟨dC, dI⟩ := D
  refine Met.ofW (cc := cX4_compile) (maxL := 5) (ret := none) (by decide) rfl ?_
  intro p e s m args below meth c s₁ B hml hv
  obtain ⟨rfl, hP, hK, hD0, hN⟩ := hv
  have hx := B.exec
  have hb := B.bytes
  have hr := B.returns
  have hU : ∀ w ∈ wsU, w.before _ s = true := fun w h => atoms_spec (ws := wU yX4_compile cX4_compile 5 none) B.pre w (List.mem_cons_of_mem _ h)
  have hown : s.vm.findClass RX4 = some m.cls := findClass_of_methodNamed B.named
  have hlocks := B.notSynchronized
  have hD := pl_in hD0
  have hS : va_S (fun q => q ∈ L) s.heap s.heap [] := va_S.rf
  have hl := lv_entry ([.ref o0, .ref o1]) (n := 5) (Nat.le_of_ble_eq_true rfl)
  rw [lg_entry_eq]
  generalize (lg_sl ([.ref o0, .ref o1]) ++ List.replicate (5 - (lg_sl ([.ref o0, .ref o1])).length) Slot.unset).toArray = ls at hl ⊢
  have hl : lv_has ls 5 [(0, .ref o0), (1, .ref o1)] := hl
  refine lv_aload_n hx hb dX4_compile_0 rfl (lv_at hl 0 rfl) ?_
  obtain ⟨v_2, v_3, v_4, v_5, a_6, a_7, a_8, a_9, v_10, v_11, v_12, hfo_1, bv_2, bv_3, bv_4, bv_5, ⟨ma_6, ka_6⟩, ⟨ma_7, ka_7⟩, ⟨ma_8, ka_8⟩, ⟨ma_9, ka_9⟩⟩ := un_4 (hG _ mo0) ko0
  have bv_10 : ((-2147483648) ≤ v_10.toInt ∧ v_10.toInt ≤ 2147483647) := ⟨i32_lo _, i32_hi _⟩
  have bv_11 : ((-2147483648) ≤ v_11.toInt ∧ v_11.toInt ≤ 2147483647) := ⟨i32_lo _, i32_hi _⟩
  have bv_12 : ((-2147483648) ≤ v_12.toInt ∧ v_12.toInt ≤ 2147483647) := ⟨i32_lo _, i32_hi _⟩
  refine tk_getP (D := (dC, dI)) (ci := 4) (v := .ref a_6) (C := RX4) (T := TX4) (N := 11) hx hb hU inlX4 hown hK hP mo0 hfo_1 rfl 4 (by decide) (hU _ wd_103) (fun _ h9 => h9) rfl dX4_compile_1 ?_
  refine lv_aload_n hx hb dX4_compile_4 rfl (lv_at hl 1 rfl) ?_
  obtain ⟨a_14, a_15, a_16, v_17, v_18, v_19, hfo_13, ⟨ma_14, ka_14⟩, ⟨ma_15, ka_15⟩, ⟨ma_16, ka_16⟩⟩ := un_5 (hG _ ma_6) ka_6
  have bv_17 : ((-2147483648) ≤ v_17.toInt ∧ v_17.toInt ≤ 2147483647) := ⟨i32_lo _, i32_hi _⟩
  have bv_18 : ((-2147483648) ≤ v_18.toInt ∧ v_18.toInt ≤ 2147483647) := ⟨i32_lo _, i32_hi _⟩
  have bv_19 : ((-2147483648) ≤ v_19.toInt ∧ v_19.toInt ≤ 2147483647) := ⟨i32_lo _, i32_hi _⟩
  refine tk_VvP (As := [.ref o1]) (rest := []) (n := 1) hx hb hml hown hU hN (s_X5_compile_k5_k7 l (dC, dI) cI cL cZ cR kd L f hG a_6 ma_6 ka_6 o1 mo1 ko1) wd_496 wd_497 wd_498 wd_102 wd_499 (by decide +kernel) ⟨Nat.le_of_ble_eq_true rfl, Nat.le_of_ble_eq_true rfl⟩ hK hP hD hS ma_6 hfo_13 5 rfl rfl rfl hl.1 rfl (Nat.le_of_ble_eq_true rfl) dX4_compile_5 ⟨Nat.le_of_ble_eq_true rfl, Nat.le_of_ble_eq_true rfl⟩ (fun f_21 H locs hw hP hD hS => ?_)
  have hG : GI (okc cI cL cZ cR L kd) kd L f_21 := hw
  refine lv_aload_n hx hb dX4_compile_8 rfl (lv_at hl 0 rfl) ?_
  obtain ⟨v_23, v_24, v_25, v_26, a_27, a_28, a_29, a_30, v_31, v_32, v_33, hfo_22, bv_23, bv_24, bv_25, bv_26, ⟨ma_27, ka_27⟩, ⟨ma_28, ka_28⟩, ⟨ma_29, ka_29⟩, ⟨ma_30, ka_30⟩⟩ := un_4 (hG _ mo0) ko0
  have bv_31 : ((-2147483648) ≤ v_31.toInt ∧ v_31.toInt ≤ 2147483647) := ⟨i32_lo _, i32_hi _⟩
  have bv_32 : ((-2147483648) ≤ v_32.toInt ∧ v_32.toInt ≤ 2147483647) := ⟨i32_lo _, i32_hi _⟩
  have bv_33 : ((-2147483648) ≤ v_33.toInt ∧ v_33.toInt ≤ 2147483647) := ⟨i32_lo _, i32_hi _⟩
  refine tk_getP (D := (dC, dI)) (ci := 4) (v := .ref a_28) (C := RX4) (T := TX4) (N := 11) hx hb hU inlX4 hown hK hP mo0 hfo_22 rfl 5 (by decide) (hU _ wd_104) (fun _ h9 => h9) rfl dX4_compile_9 ?_
  refine lv_aload_n hx hb dX4_compile_12 rfl (lv_at hl 1 rfl) ?_
  obtain ⟨a_35, a_36, a_37, v_38, v_39, v_40, hfo_34, ⟨ma_35, ka_35⟩, ⟨ma_36, ka_36⟩, ⟨ma_37, ka_37⟩⟩ := un_5 (hG _ ma_28) ka_28
  have bv_38 : ((-2147483648) ≤ v_38.toInt ∧ v_38.toInt ≤ 2147483647) := ⟨i32_lo _, i32_hi _⟩
  have bv_39 : ((-2147483648) ≤ v_39.toInt ∧ v_39.toInt ≤ 2147483647) := ⟨i32_lo _, i32_hi _⟩
  have bv_40 : ((-2147483648) ≤ v_40.toInt ∧ v_40.toInt ≤ 2147483647) := ⟨i32_lo _, i32_hi _⟩
  refine tk_VvP (As := [.ref o1]) (rest := []) (n := 1) hx hb hml hown hU hN (s_X5_compile_k5_k7 l (dC, dI) cI cL cZ cR kd L f_21 hG a_28 ma_28 ka_28 o1 mo1 ko1) wd_496 wd_497 wd_498 wd_102 wd_499 (by decide +kernel) ⟨Nat.le_of_ble_eq_true rfl, Nat.le_of_ble_eq_true rfl⟩ hK hP hD hS ma_28 hfo_34 5 rfl rfl rfl hl.1 rfl (Nat.le_of_ble_eq_true rfl) dX4_compile_13 ⟨Nat.le_of_ble_eq_true rfl, Nat.le_of_ble_eq_true rfl⟩ (fun f_42 H locs hw hP hD hS => ?_)
  have hG : GI (okc cI cL cZ cR L kd) kd L f_42 := hw
  refine lv_iconst (v := 0) hx hb dX4_compile_16 (by decide) ?_
  refine lv_istore_n (lv' := [(2, .int 0), (0, .ref o0), (1, .ref o1)]) hx hb dX4_compile_17 rfl hl (by decide) rfl (fun ls hl => ?_)
  have hloop_51 : ∀ (n : Nat), ∀ (y_49 : Int32), (0 ≤ y_49.toInt ∧ y_49.toInt ≤ 20) → ∀ (f_50 : Nat → va_E), GI (okc cI cL cZ cR L kd) kd L f_50 → ∀ (H : Heap) (locs : List Loc), va_P (dC, dI) vwCl (va_pl L f_50) H → va_D (fun q => q ∈ L) (va_pl L f_50) → va_S (fun q => q ∈ L) s.heap H locs → 20 - y_49.toInt < (n : Int) → ∀ (ls : Array Slot), lv_has ls 5 [(2, .int y_49), (0, .ref o0), (1, .ref o1)] → W p l e (headSpec (wU yX4_compile cX4_compile 5 none) { frames := 3, cells := 0, slots := 0, locals := 64 }).room s m [.ref o0, .ref o1].toArray below meth c H locs 0 0 (MQ below (va_Qv (fun (f9 : Nat → va_E) => GI (okc cI cL cZ cR L kd) kd L f9) (qP (dC, dI) cI cL cZ cR L) (fun q => q ∈ L)) [.ref o0, .ref o1].toArray s 0 0 (fun q => q ∈ L)) (F0 m 18 ls []) := by
    intro n
    induction n with
    | zero => intro y_49 by_49 f_50 hG H locs hP hD hS hmuhloop_51 ls hl; exfalso; omega
    | succ n ih_hloop_51 =>
      intro y_49 by_49 f_50 hG H locs hP hD hS hmuhloop_51 ls hl
      refine lv_iload_n hx hb dX4_compile_18 rfl (lv_at hl 0 rfl) ?_
      refine lv_aload_n hx hb dX4_compile_19 rfl (lv_at hl 2 rfl) ?_
      obtain ⟨a_53, v_54, a_55, a_56, a_57, a_58, v_59, a_60, a_61, a_62, a_63, a_64, v_65, a_66, a_67, a_68, hfo_52, ⟨ma_53, ka_53⟩, bv_54, ⟨ma_55, ka_55⟩, ⟨ma_56, ka_56⟩, ⟨ma_57, ka_57⟩, ⟨ma_58, ka_58⟩, bv_59, ⟨ma_60, ka_60⟩, ⟨ma_61, ka_61⟩, ⟨ma_62, ka_62⟩, ⟨ma_63, ka_63⟩, ⟨ma_64, ka_64⟩, bv_65, ⟨ma_66, ka_66⟩, ⟨ma_67, ka_67⟩, ⟨ma_68, ka_68⟩⟩ := un_7 (hG _ mo1) ko1
      refine tk_getP (D := (dC, dI)) (ci := 7) (v := .int v_59) (C := RX7) (T := TX7) (N := 16) hx hb hU inlX7 hown hK hP mo1 hfo_52 rfl 6 (by decide) (hU _ wd_489) (fun _ h9 => h9) rfl dX4_compile_20 ?_
      refine lv_icmp_ge (tgt := 54) hx hb dX4_compile_23 (by decide) (fun c_69 => ?_) (fun c_69 => ?_)
      · skip
        rw [Int32.le_iff_toInt_le] at c_69
        refine lv_iconst (v := 0) hx hb dX4_compile_54 (by decide) ?_
        refine lv_istore_n (lv' := [(2, .int 0), (0, .ref o0), (1, .ref o1)]) hx hb dX4_compile_55 rfl hl (by decide) rfl (fun ls hl => ?_)
        have hloop_78 : ∀ (n : Nat), ∀ (y_76 : Int32), (0 ≤ y_76.toInt ∧ y_76.toInt ≤ 8) → ∀ (f_77 : Nat → va_E), GI (okc cI cL cZ cR L kd) kd L f_77 → ∀ (H : Heap) (locs : List Loc), va_P (dC, dI) vwCl (va_pl L f_77) H → va_D (fun q => q ∈ L) (va_pl L f_77) → va_S (fun q => q ∈ L) s.heap H locs → 8 - y_76.toInt < (n : Int) → ∀ (ls : Array Slot), lv_has ls 5 [(2, .int y_76), (0, .ref o0), (1, .ref o1)] → W p l e (headSpec (wU yX4_compile cX4_compile 5 none) { frames := 3, cells := 0, slots := 0, locals := 64 }).room s m [.ref o0, .ref o1].toArray below meth c H locs 0 0 (MQ below (va_Qv (fun (f9 : Nat → va_E) => GI (okc cI cL cZ cR L kd) kd L f9) (qP (dC, dI) cI cL cZ cR L) (fun q => q ∈ L)) [.ref o0, .ref o1].toArray s 0 0 (fun q => q ∈ L)) (F0 m 56 ls []) := by
          intro n
          induction n with
          | zero => intro y_76 by_76 f_77 hG H locs hP hD hS hmuhloop_78 ls hl; exfalso; omega
          | succ n ih_hloop_78 =>
            intro y_76 by_76 f_77 hG H locs hP hD hS hmuhloop_78 ls hl
            refine lv_iload_n hx hb dX4_compile_56 rfl (lv_at hl 0 rfl) ?_
            refine lv_bipush (v := 8) hx hb dX4_compile_57 (by decide) ?_
            refine lv_icmp_ge (tgt := 114) hx hb dX4_compile_59 (by decide) (fun c_79 => ?_) (fun c_79 => ?_)
            · skip
              rw [Int32.le_iff_toInt_le, ti_8] at c_79
              refine lv_aload_n hx hb dX4_compile_114 rfl (lv_at hl 1 rfl) ?_
              refine lv_aload_n hx hb dX4_compile_115 rfl (lv_at hl 1 rfl) ?_
              obtain ⟨v_81, v_82, v_83, v_84, a_85, a_86, a_87, a_88, v_89, v_90, v_91, hfo_80, bv_81, bv_82, bv_83, bv_84, ⟨ma_85, ka_85⟩, ⟨ma_86, ka_86⟩, ⟨ma_87, ka_87⟩, ⟨ma_88, ka_88⟩⟩ := un_4 (hG _ mo0) ko0
              have bv_89 : ((-2147483648) ≤ v_89.toInt ∧ v_89.toInt ≤ 2147483647) := ⟨i32_lo _, i32_hi _⟩
              have bv_90 : ((-2147483648) ≤ v_90.toInt ∧ v_90.toInt ≤ 2147483647) := ⟨i32_lo _, i32_hi _⟩
              have bv_91 : ((-2147483648) ≤ v_91.toInt ∧ v_91.toInt ≤ 2147483647) := ⟨i32_lo _, i32_hi _⟩
              refine tk_getP (D := (dC, dI)) (ci := 4) (v := .ref a_85) (C := RX4) (T := TX4) (N := 11) hx hb hU inlX4 hown hK hP mo0 hfo_80 rfl 4 (by decide) (hU _ wd_103) (fun _ h9 => h9) rfl dX4_compile_116 ?_
              refine lv_aload_n hx hb dX4_compile_119 rfl (lv_at hl 1 rfl) ?_
              refine tk_getP (D := (dC, dI)) (ci := 4) (v := .ref a_85) (C := RX4) (T := TX4) (N := 11) hx hb hU inlX4 hown hK hP mo0 hfo_80 rfl 4 (by decide) (hU _ wd_103) (fun _ h9 => h9) rfl dX4_compile_120 ?_
              obtain ⟨a_93, a_94, a_95, v_96, v_97, v_98, hfo_92, ⟨ma_93, ka_93⟩, ⟨ma_94, ka_94⟩, ⟨ma_95, ka_95⟩⟩ := un_5 (hG _ ma_85) ka_85
              have bv_96 : ((-2147483648) ≤ v_96.toInt ∧ v_96.toInt ≤ 2147483647) := ⟨i32_lo _, i32_hi _⟩
              have bv_97 : ((-2147483648) ≤ v_97.toInt ∧ v_97.toInt ≤ 2147483647) := ⟨i32_lo _, i32_hi _⟩
              have bv_98 : ((-2147483648) ≤ v_98.toInt ∧ v_98.toInt ≤ 2147483647) := ⟨i32_lo _, i32_hi _⟩
              refine tk_getP (D := (dC, dI)) (ci := 5) (v := .int v_97) (C := RX5) (T := TX5) (N := 6) hx hb hU inlX5 hown hK hP ma_85 hfo_92 rfl 4 (by decide) (hU _ wd_492) (fun _ h9 => h9) rfl dX4_compile_123 ?_
              refine tk_ViP (As := [.int v_97]) (rest := [.ref o0]) (n := 1) hx hb hml hown hU hN (s_X5_closure_k5 l (dC, dI) cI cL cZ cR kd L f_77 hG a_85 ma_85 ka_85 v_97) wd_520 wd_517 wd_518 wd_102 wd_519 (by decide +kernel) ⟨Nat.le_of_ble_eq_true rfl, Nat.le_of_ble_eq_true rfl⟩ hK hP hD hS ma_85 hfo_92 5 rfl rfl rfl hl.1 rfl (Nat.le_of_ble_eq_true rfl) dX4_compile_126 ⟨Nat.le_of_ble_eq_true rfl, Nat.le_of_ble_eq_true rfl⟩ (fun x_99 f_100 H locs hw hP hD hS => ?_)
              obtain ⟨hG, bx_99⟩ := hw
              obtain ⟨v_102, v_103, v_104, v_105, a_106, a_107, a_108, a_109, v_110, v_111, v_112, hfo_101, bv_102, bv_103, bv_104, bv_105, ⟨ma_106, ka_106⟩, ⟨ma_107, ka_107⟩, ⟨ma_108, ka_108⟩, ⟨ma_109, ka_109⟩⟩ := un_4 (hG _ mo0) ko0
              have bv_110 : ((-2147483648) ≤ v_110.toInt ∧ v_110.toInt ≤ 2147483647) := ⟨i32_lo _, i32_hi _⟩
              have bv_111 : ((-2147483648) ≤ v_111.toInt ∧ v_111.toInt ≤ 2147483647) := ⟨i32_lo _, i32_hi _⟩
              have bv_112 : ((-2147483648) ≤ v_112.toInt ∧ v_112.toInt ≤ 2147483647) := ⟨i32_lo _, i32_hi _⟩
              refine tk_putP (D := (dC, dI)) (ci := 4) (v := .int x_99) (ty := .int) (C := RX4) (T := TX4) (N := 11) hx hb hU inlX4 tyX4 tyX4_ok nmX4 hown hK hP hD hS mo0 hfo_101 rfl 8 (by decide) (hU _ wd_493) (fun _ h9 => h9) rfl (by decide +kernel) rfl rfl (Nat.le_of_ble_eq_true rfl) dX4_compile_129 (fun H locs hP hD hS => ?_)
              obtain ⟨f_113, ef_113⟩ : ∃ y : Nat → va_E, y = va_up f_100 o0 (.inr (4, [.int v_102, .int v_103, .int v_104, .int v_105, .ref a_106, .ref a_107, .ref a_108, .ref a_109, .int x_99, .int v_111, .int v_112])) := ⟨_, rfl⟩
              have hP : va_P (dC, dI) vwCl (va_pl L f_113) H := by rw [ef_113]; exact hP
              have hD : va_D (fun q => q ∈ L) (va_pl L f_113) := by rw [ef_113]; exact hD
              have hG : GI (okc cI cL cZ cR L kd) kd L f_113 := by rw [ef_113]; exact hG.set o0 (mk_4 ko0 ⟨v_102, v_103, v_104, v_105, a_106, a_107, a_108, a_109, x_99, v_111, v_112, rfl, (by constructor <;> omega), (by constructor <;> omega), (by constructor <;> omega), (by constructor <;> omega), ⟨ma_106, ka_106⟩, ⟨ma_107, ka_107⟩, ⟨ma_108, ka_108⟩, ⟨ma_109, ka_109⟩⟩)
              have hfo_114 : f_113 o0 = .inr (4, [.int v_102, .int v_103, .int v_104, .int v_105, .ref a_106, .ref a_107, .ref a_108, .ref a_109, .int x_99, .int v_111, .int v_112]) := by rw [ef_113]; exact up_self
              refine lv_aload_n hx hb dX4_compile_132 rfl (lv_at hl 1 rfl) ?_
              refine lv_aload_n hx hb dX4_compile_133 rfl (lv_at hl 1 rfl) ?_
              refine tk_getP (D := (dC, dI)) (ci := 4) (v := .ref a_106) (C := RX4) (T := TX4) (N := 11) hx hb hU inlX4 hown hK hP mo0 hfo_114 rfl 4 (by decide) (hU _ wd_103) (fun _ h9 => h9) rfl dX4_compile_134 ?_
              obtain ⟨a_116, a_117, a_118, v_119, v_120, v_121, hfo_115, ⟨ma_116, ka_116⟩, ⟨ma_117, ka_117⟩, ⟨ma_118, ka_118⟩⟩ := un_5 (hG _ ma_106) ka_106
              have bv_119 : ((-2147483648) ≤ v_119.toInt ∧ v_119.toInt ≤ 2147483647) := ⟨i32_lo _, i32_hi _⟩
              have bv_120 : ((-2147483648) ≤ v_120.toInt ∧ v_120.toInt ≤ 2147483647) := ⟨i32_lo _, i32_hi _⟩
              have bv_121 : ((-2147483648) ≤ v_121.toInt ∧ v_121.toInt ≤ 2147483647) := ⟨i32_lo _, i32_hi _⟩
              refine tk_ViP (As := []) (rest := [.ref o0]) (n := 0) hx hb hml hown hU hN (s_X5_freeStarts_k5 l (dC, dI) cI cL cZ cR kd L f_113 hG a_106 ma_106 ka_106) wd_521 wd_522 wd_523 wd_102 wd_524 (by decide +kernel) ⟨Nat.le_of_ble_eq_true rfl, Nat.le_of_ble_eq_true rfl⟩ hK hP hD hS ma_106 hfo_115 5 rfl rfl rfl hl.1 rfl (Nat.le_of_ble_eq_true rfl) dX4_compile_137 ⟨Nat.le_of_ble_eq_true rfl, Nat.le_of_ble_eq_true rfl⟩ (fun x_122 f_123 H locs hw hP hD hS => ?_)
              obtain ⟨hG, bx_122⟩ := hw
              obtain ⟨v_125, v_126, v_127, v_128, a_129, a_130, a_131, a_132, v_133, v_134, v_135, hfo_124, bv_125, bv_126, bv_127, bv_128, ⟨ma_129, ka_129⟩, ⟨ma_130, ka_130⟩, ⟨ma_131, ka_131⟩, ⟨ma_132, ka_132⟩⟩ := un_4 (hG _ mo0) ko0
              have bv_133 : ((-2147483648) ≤ v_133.toInt ∧ v_133.toInt ≤ 2147483647) := ⟨i32_lo _, i32_hi _⟩
              have bv_134 : ((-2147483648) ≤ v_134.toInt ∧ v_134.toInt ≤ 2147483647) := ⟨i32_lo _, i32_hi _⟩
              have bv_135 : ((-2147483648) ≤ v_135.toInt ∧ v_135.toInt ≤ 2147483647) := ⟨i32_lo _, i32_hi _⟩
              refine tk_putP (D := (dC, dI)) (ci := 4) (v := .int x_122) (ty := .int) (C := RX4) (T := TX4) (N := 11) hx hb hU inlX4 tyX4 tyX4_ok nmX4 hown hK hP hD hS mo0 hfo_124 rfl 9 (by decide) (hU _ wd_494) (fun _ h9 => h9) rfl (by decide +kernel) rfl rfl (Nat.le_of_ble_eq_true rfl) dX4_compile_140 (fun H locs hP hD hS => ?_)
              obtain ⟨f_136, ef_136⟩ : ∃ y : Nat → va_E, y = va_up f_123 o0 (.inr (4, [.int v_125, .int v_126, .int v_127, .int v_128, .ref a_129, .ref a_130, .ref a_131, .ref a_132, .int v_133, .int x_122, .int v_135])) := ⟨_, rfl⟩
              have hP : va_P (dC, dI) vwCl (va_pl L f_136) H := by rw [ef_136]; exact hP
              have hD : va_D (fun q => q ∈ L) (va_pl L f_136) := by rw [ef_136]; exact hD
              have hG : GI (okc cI cL cZ cR L kd) kd L f_136 := by rw [ef_136]; exact hG.set o0 (mk_4 ko0 ⟨v_125, v_126, v_127, v_128, a_129, a_130, a_131, a_132, v_133, x_122, v_135, rfl, (by constructor <;> omega), (by constructor <;> omega), (by constructor <;> omega), (by constructor <;> omega), ⟨ma_129, ka_129⟩, ⟨ma_130, ka_130⟩, ⟨ma_131, ka_131⟩, ⟨ma_132, ka_132⟩⟩)
              have hfo_137 : f_136 o0 = .inr (4, [.int v_125, .int v_126, .int v_127, .int v_128, .ref a_129, .ref a_130, .ref a_131, .ref a_132, .int v_133, .int x_122, .int v_135]) := by rw [ef_136]; exact up_self
              refine lv_aload_n hx hb dX4_compile_143 rfl (lv_at hl 1 rfl) ?_
              refine lv_aload_n hx hb dX4_compile_144 rfl (lv_at hl 1 rfl) ?_
              refine tk_getP (D := (dC, dI)) (ci := 4) (v := .ref a_130) (C := RX4) (T := TX4) (N := 11) hx hb hU inlX4 hown hK hP mo0 hfo_137 rfl 5 (by decide) (hU _ wd_104) (fun _ h9 => h9) rfl dX4_compile_145 ?_
              obtain ⟨a_139, a_140, a_141, v_142, v_143, v_144, hfo_138, ⟨ma_139, ka_139⟩, ⟨ma_140, ka_140⟩, ⟨ma_141, ka_141⟩⟩ := un_5 (hG _ ma_130) ka_130
              have bv_142 : ((-2147483648) ≤ v_142.toInt ∧ v_142.toInt ≤ 2147483647) := ⟨i32_lo _, i32_hi _⟩
              have bv_143 : ((-2147483648) ≤ v_143.toInt ∧ v_143.toInt ≤ 2147483647) := ⟨i32_lo _, i32_hi _⟩
              have bv_144 : ((-2147483648) ≤ v_144.toInt ∧ v_144.toInt ≤ 2147483647) := ⟨i32_lo _, i32_hi _⟩
              refine tk_ViP (As := []) (rest := [.ref o0]) (n := 0) hx hb hml hown hU hN (s_X5_freeFinals_k5 l (dC, dI) cI cL cZ cR kd L f_136 hG a_130 ma_130 ka_130) wd_526 wd_527 wd_528 wd_102 wd_529 (by decide +kernel) ⟨Nat.le_of_ble_eq_true rfl, Nat.le_of_ble_eq_true rfl⟩ hK hP hD hS ma_130 hfo_138 5 rfl rfl rfl hl.1 rfl (Nat.le_of_ble_eq_true rfl) dX4_compile_148 ⟨Nat.le_of_ble_eq_true rfl, Nat.le_of_ble_eq_true rfl⟩ (fun x_145 f_146 H locs hw hP hD hS => ?_)
              obtain ⟨hG, bx_145⟩ := hw
              obtain ⟨v_148, v_149, v_150, v_151, a_152, a_153, a_154, a_155, v_156, v_157, v_158, hfo_147, bv_148, bv_149, bv_150, bv_151, ⟨ma_152, ka_152⟩, ⟨ma_153, ka_153⟩, ⟨ma_154, ka_154⟩, ⟨ma_155, ka_155⟩⟩ := un_4 (hG _ mo0) ko0
              have bv_156 : ((-2147483648) ≤ v_156.toInt ∧ v_156.toInt ≤ 2147483647) := ⟨i32_lo _, i32_hi _⟩
              have bv_157 : ((-2147483648) ≤ v_157.toInt ∧ v_157.toInt ≤ 2147483647) := ⟨i32_lo _, i32_hi _⟩
              have bv_158 : ((-2147483648) ≤ v_158.toInt ∧ v_158.toInt ≤ 2147483647) := ⟨i32_lo _, i32_hi _⟩
              refine tk_putP (D := (dC, dI)) (ci := 4) (v := .int x_145) (ty := .int) (C := RX4) (T := TX4) (N := 11) hx hb hU inlX4 tyX4 tyX4_ok nmX4 hown hK hP hD hS mo0 hfo_147 rfl 10 (by decide) (hU _ wd_495) (fun _ h9 => h9) rfl (by decide +kernel) rfl rfl (Nat.le_of_ble_eq_true rfl) dX4_compile_151 (fun H locs hP hD hS => ?_)
              obtain ⟨f_159, ef_159⟩ : ∃ y : Nat → va_E, y = va_up f_146 o0 (.inr (4, [.int v_148, .int v_149, .int v_150, .int v_151, .ref a_152, .ref a_153, .ref a_154, .ref a_155, .int v_156, .int v_157, .int x_145])) := ⟨_, rfl⟩
              have hP : va_P (dC, dI) vwCl (va_pl L f_159) H := by rw [ef_159]; exact hP
              have hD : va_D (fun q => q ∈ L) (va_pl L f_159) := by rw [ef_159]; exact hD
              have hG : GI (okc cI cL cZ cR L kd) kd L f_159 := by rw [ef_159]; exact hG.set o0 (mk_4 ko0 ⟨v_148, v_149, v_150, v_151, a_152, a_153, a_154, a_155, v_156, v_157, x_145, rfl, (by constructor <;> omega), (by constructor <;> omega), (by constructor <;> omega), (by constructor <;> omega), ⟨ma_152, ka_152⟩, ⟨ma_153, ka_153⟩, ⟨ma_154, ka_154⟩, ⟨ma_155, ka_155⟩⟩)
              have hfo_160 : f_159 o0 = .inr (4, [.int v_148, .int v_149, .int v_150, .int v_151, .ref a_152, .ref a_153, .ref a_154, .ref a_155, .int v_156, .int v_157, .int x_145]) := by rw [ef_159]; exact up_self
              exact W.vret hx hb hr (fun t ht hW => ⟨⟨f_159, rfl, hG, by rw [ht]; exact hP, va_K.moved hW.alike hK, pl_in hD⟩, hS.F ht⟩) hS.2.2 dX4_compile_154
            · skip
              rw [Int32.le_iff_toInt_le, ti_8] at c_79
              refine lv_iconst (v := 0) hx hb dX4_compile_62 (by decide) ?_
              refine lv_istore_n (lv' := [(3, .int 0), (2, .int y_76), (0, .ref o0), (1, .ref o1)]) hx hb dX4_compile_63 rfl hl (by decide) rfl (fun ls hl => ?_)
              refine lv_iconst (v := 0) hx hb dX4_compile_64 (by decide) ?_
              refine lv_istore (lv' := [(4, .int 0), (3, .int 0), (2, .int y_76), (0, .ref o0), (1, .ref o1)]) hx hb dX4_compile_65 hl (by decide) rfl (fun ls hl => ?_)
              have hloop_173 : ∀ (n : Nat), ∀ (y_170 : Int32), (0 ≤ y_170.toInt ∧ y_170.toInt ≤ 3) → ∀ (y_171 : Int32), ((-2147483648) ≤ y_171.toInt ∧ y_171.toInt ≤ 2147483647) → ∀ (f_172 : Nat → va_E), GI (okc cI cL cZ cR L kd) kd L f_172 → ∀ (H : Heap) (locs : List Loc), va_P (dC, dI) vwCl (va_pl L f_172) H → va_D (fun q => q ∈ L) (va_pl L f_172) → va_S (fun q => q ∈ L) s.heap H locs → 3 - y_170.toInt < (n : Int) → ∀ (ls : Array Slot), lv_has ls 5 [(4, .int y_170), (3, .int y_171), (2, .int y_76), (0, .ref o0), (1, .ref o1)] → W p l e (headSpec (wU yX4_compile cX4_compile 5 none) { frames := 3, cells := 0, slots := 0, locals := 64 }).room s m [.ref o0, .ref o1].toArray below meth c H locs 0 0 (MQ below (va_Qv (fun (f9 : Nat → va_E) => GI (okc cI cL cZ cR L kd) kd L f9) (qP (dC, dI) cI cL cZ cR L) (fun q => q ∈ L)) [.ref o0, .ref o1].toArray s 0 0 (fun q => q ∈ L)) (F0 m 67 ls []) := by
                intro n
                induction n with
                | zero => intro y_170 by_170 y_171 by_171 f_172 hG H locs hP hD hS hmuhloop_173 ls hl; exfalso; omega
                | succ n ih_hloop_173 =>
                  intro y_170 by_170 y_171 by_171 f_172 hG H locs hP hD hS hmuhloop_173 ls hl
                  refine lv_iload hx hb dX4_compile_67 (lv_at hl 0 rfl) ?_
                  refine lv_iconst (v := 3) hx hb dX4_compile_69 (by decide) ?_
                  refine lv_icmp_ge (tgt := 101) hx hb dX4_compile_70 (by decide) (fun c_174 => ?_) (fun c_174 => ?_)
                  · skip
                    rw [Int32.le_iff_toInt_le, ti_3] at c_174
                    refine lv_aload_n hx hb dX4_compile_101 rfl (lv_at hl 3 rfl) ?_
                    obtain ⟨v_176, v_177, v_178, v_179, a_180, a_181, a_182, a_183, v_184, v_185, v_186, hfo_175, bv_176, bv_177, bv_178, bv_179, ⟨ma_180, ka_180⟩, ⟨ma_181, ka_181⟩, ⟨ma_182, ka_182⟩, ⟨ma_183, ka_183⟩⟩ := un_4 (hG _ mo0) ko0
                    have bv_184 : ((-2147483648) ≤ v_184.toInt ∧ v_184.toInt ≤ 2147483647) := ⟨i32_lo _, i32_hi _⟩
                    have bv_185 : ((-2147483648) ≤ v_185.toInt ∧ v_185.toInt ≤ 2147483647) := ⟨i32_lo _, i32_hi _⟩
                    have bv_186 : ((-2147483648) ≤ v_186.toInt ∧ v_186.toInt ≤ 2147483647) := ⟨i32_lo _, i32_hi _⟩
                    refine tk_getP (D := (dC, dI)) (ci := 4) (v := .ref a_183) (C := RX4) (T := TX4) (N := 11) hx hb hU inlX4 hown hK hP mo0 hfo_175 rfl 7 (by decide) (hU _ wd_106) (fun _ h9 => h9) rfl dX4_compile_102 ?_
                    refine lv_iload_n hx hb dX4_compile_105 rfl (lv_at hl 2 rfl) ?_
                    refine lv_iload_n hx hb dX4_compile_106 rfl (lv_at hl 1 rfl) ?_
                    obtain ⟨g_188, hfo_187, hbg_188⟩ := un_23 (hG _ ma_183) ka_183
                    refine tk_istP hx hb hK hP hD hS 0 ma_183 hfo_187 rfl (vp_in_iff.mpr (by constructor <;> omega)) dX4_compile_107 (fun H locs hP hD hS => ?_)
                    obtain ⟨f_189, ef_189⟩ : ∃ y : Nat → va_E, y = va_up f_172 a_183 (.inl (cI, 8, .inl (upd g_188 (Int32.toNatClampNeg y_76) y_171))) := ⟨_, rfl⟩
                    have hP : va_P (dC, dI) vwCl (va_pl L f_189) H := by rw [ef_189]; exact hP
                    have hD : va_D (fun q => q ∈ L) (va_pl L f_189) := by rw [ef_189]; exact hD
                    have hG : GI (okc cI cL cZ cR L kd) kd L f_189 := by rw [ef_189]; exact hG.set a_183 (mk_23 ka_183 ⟨_, rfl, okI_up hbg_188 ⟨i32_lo _, i32_hi _⟩ _⟩)
                    have hfo_190 : f_189 o0 = .inr (4, [.int v_176, .int v_177, .int v_178, .int v_179, .ref a_180, .ref a_181, .ref a_182, .ref a_183, .int v_184, .int v_185, .int v_186]) := by rw [ef_189, up_ne (kd_ne ka_183 ko0 (by decide))]; exact hfo_175
                    have hfo_191 : f_189 a_183 = .inl (cI, 8, .inl (upd g_188 (Int32.toNatClampNeg y_76) y_171)) := by rw [ef_189]; exact up_self
                    obtain ⟨x_192, ex_192⟩ : ∃ y : Int32, y_76 + 1 = y := ⟨_, rfl⟩
                    have hx_192 : x_192.toInt = y_76.toInt + 1 := by rw [← ex_192, ad_I (by rw [ti_1]; omega) (by rw [ti_1]; omega), ti_1]
                    have bx_192 : (1 ≤ x_192.toInt ∧ x_192.toInt ≤ 8) := by constructor <;> omega
                    refine lv_iinc (v := x_192) (lv' := [(2, .int x_192), (4, .int y_170), (3, .int y_171), (0, .ref o0), (1, .ref o1)]) hx hb dX4_compile_108 hl (k := 2) rfl ex_192 (by decide) rfl (fun ls hl => ?_)
                    refine lv_goto (tgt := 56) hx hb dX4_compile_111 (by decide) ?_
                    exact ih_hloop_78 x_192 (by constructor <;> omega) f_189 hG _ _ hP hD hS (by omega) ls (lv_sub hl [0, 3, 4] rfl)
                  · skip
                    rw [Int32.le_iff_toInt_le, ti_3] at c_174
                    refine lv_iload_n hx hb dX4_compile_73 rfl (lv_at hl 2 rfl) ?_
                    refine lv_iload hx hb dX4_compile_74 (lv_at hl 0 rfl) ?_
                    refine lv_ishr hx hb dX4_compile_76 ?_
                    refine lv_topi (fun x_193 ex_193 => ?_)
                    have bx_193 : ((-2147483648) ≤ x_193.toInt ∧ x_193.toInt ≤ 2147483647) := ⟨i32_lo _, i32_hi _⟩
                    refine lv_iconst (v := 1) hx hb dX4_compile_77 (by decide) ?_
                    refine lv_iand hx hb dX4_compile_78 ?_
                    refine lv_topi (fun x_194 ex_194 => ?_)
                    have bx_194 : (0 ≤ x_194.toInt ∧ x_194.toInt ≤ 1) := by rw [ex_194]; have h8 := an_C x_193 (m := 1) (by decide); rw [ti_1] at h8; exact h8
                    refine lv_iconst (v := 1) hx hb dX4_compile_79 (by decide) ?_
                    have hcut_197 : ∀ (y_195 : Int32), ((-2147483648) ≤ y_195.toInt ∧ y_195.toInt ≤ 2147483647) → ∀ (f_196 : Nat → va_E), GI (okc cI cL cZ cR L kd) kd L f_196 → ∀ (H : Heap) (locs : List Loc), va_P (dC, dI) vwCl (va_pl L f_196) H → va_D (fun q => q ∈ L) (va_pl L f_196) → va_S (fun q => q ∈ L) s.heap H locs → ∀ (ls : Array Slot), lv_has ls 5 [(4, .int y_170), (3, .int y_195), (2, .int y_76), (0, .ref o0), (1, .ref o1)] → W p l e (headSpec (wU yX4_compile cX4_compile 5 none) { frames := 3, cells := 0, slots := 0, locals := 64 }).room s m [.ref o0, .ref o1].toArray below meth c H locs 0 0 (MQ below (va_Qv (fun (f9 : Nat → va_E) => GI (okc cI cL cZ cR L kd) kd L f9) (qP (dC, dI) cI cL cZ cR L) (fun q => q ∈ L)) [.ref o0, .ref o1].toArray s 0 0 (fun q => q ∈ L)) (F0 m 95 ls []) := by
                      intro y_195 by_195 f_196 hG H locs hP hD hS ls hl
                      obtain ⟨x_198, ex_198⟩ : ∃ y : Int32, y_170 + 1 = y := ⟨_, rfl⟩
                      have hx_198 : x_198.toInt = y_170.toInt + 1 := by rw [← ex_198, ad_I (by rw [ti_1]; omega) (by rw [ti_1]; omega), ti_1]
                      have bx_198 : (1 ≤ x_198.toInt ∧ x_198.toInt ≤ 3) := by constructor <;> omega
                      refine lv_iinc (v := x_198) (lv' := [(4, .int x_198), (3, .int y_195), (2, .int y_76), (0, .ref o0), (1, .ref o1)]) hx hb dX4_compile_95 hl (k := 0) rfl ex_198 (by decide) rfl (fun ls hl => ?_)
                      refine lv_goto (tgt := 67) hx hb dX4_compile_98 (by decide) ?_
                      exact ih_hloop_173 x_198 (by constructor <;> omega) y_195 (by constructor <;> omega) f_196 hG _ _ hP hD hS (by omega) ls (lv_sub hl [0, 1, 2, 3, 4] rfl)
                    refine lv_icmp_ne (tgt := 95) hx hb dX4_compile_80 (by decide) (fun c_199 => ?_) (fun c_199 => ?_)
                    · skip
                      rw [← Int32.toInt_inj, ti_1] at c_199
                      exact hcut_197 y_171 (by constructor <;> omega) f_172 hG _ _ hP hD hS ls (lv_sub hl [0, 1, 2, 3, 4] rfl)
                    · skip
                      rw [← Int32.toInt_inj, ti_1] at c_199
                      refine lv_iload_n hx hb dX4_compile_83 rfl (lv_at hl 1 rfl) ?_
                      refine lv_aload_n hx hb dX4_compile_84 rfl (lv_at hl 3 rfl) ?_
                      obtain ⟨v_201, v_202, v_203, v_204, a_205, a_206, a_207, a_208, v_209, v_210, v_211, hfo_200, bv_201, bv_202, bv_203, bv_204, ⟨ma_205, ka_205⟩, ⟨ma_206, ka_206⟩, ⟨ma_207, ka_207⟩, ⟨ma_208, ka_208⟩⟩ := un_4 (hG _ mo0) ko0
                      have bv_209 : ((-2147483648) ≤ v_209.toInt ∧ v_209.toInt ≤ 2147483647) := ⟨i32_lo _, i32_hi _⟩
                      have bv_210 : ((-2147483648) ≤ v_210.toInt ∧ v_210.toInt ≤ 2147483647) := ⟨i32_lo _, i32_hi _⟩
                      have bv_211 : ((-2147483648) ≤ v_211.toInt ∧ v_211.toInt ≤ 2147483647) := ⟨i32_lo _, i32_hi _⟩
                      refine tk_getP (D := (dC, dI)) (ci := 4) (v := .ref a_206) (C := RX4) (T := TX4) (N := 11) hx hb hU inlX4 hown hK hP mo0 hfo_200 rfl 5 (by decide) (hU _ wd_104) (fun _ h9 => h9) rfl dX4_compile_85 ?_
                      refine lv_iload hx hb dX4_compile_88 (lv_at hl 0 rfl) ?_
                      obtain ⟨a_213, a_214, a_215, v_216, v_217, v_218, hfo_212, ⟨ma_213, ka_213⟩, ⟨ma_214, ka_214⟩, ⟨ma_215, ka_215⟩⟩ := un_5 (hG _ ma_206) ka_206
                      have bv_216 : ((-2147483648) ≤ v_216.toInt ∧ v_216.toInt ≤ 2147483647) := ⟨i32_lo _, i32_hi _⟩
                      have bv_217 : ((-2147483648) ≤ v_217.toInt ∧ v_217.toInt ≤ 2147483647) := ⟨i32_lo _, i32_hi _⟩
                      have bv_218 : ((-2147483648) ≤ v_218.toInt ∧ v_218.toInt ≤ 2147483647) := ⟨i32_lo _, i32_hi _⟩
                      refine tk_ViP (As := [.int y_170]) (rest := [.int y_171]) (n := 1) hx hb hml hown hU hN (s_X5_startsOf_k5 l (dC, dI) cI cL cZ cR kd L f_172 hG a_206 ma_206 ka_206 y_170) wd_512 wd_513 wd_514 wd_102 wd_515 (by decide +kernel) ⟨Nat.le_of_ble_eq_true rfl, Nat.le_of_ble_eq_true rfl⟩ hK hP hD hS ma_206 hfo_212 5 rfl rfl rfl hl.1 rfl (Nat.le_of_ble_eq_true rfl) dX4_compile_90 ⟨Nat.le_of_ble_eq_true rfl, Nat.le_of_ble_eq_true rfl⟩ (fun x_219 f_220 H locs hw hP hD hS => ?_)
                      obtain ⟨hG, bx_219⟩ := hw
                      refine lv_ior hx hb dX4_compile_93 ?_
                      refine lv_topi (fun x_221 ex_221 => ?_)
                      have bx_221 : ((-2147483648) ≤ x_221.toInt ∧ x_221.toInt ≤ 2147483647) := ⟨i32_lo _, i32_hi _⟩
                      refine lv_istore_n (lv' := [(3, .int x_221), (4, .int y_170), (2, .int y_76), (0, .ref o0), (1, .ref o1)]) hx hb dX4_compile_94 rfl hl (by decide) rfl (fun ls hl => ?_)
                      exact hcut_197 x_221 (by constructor <;> omega) f_220 hG _ _ hP hD hS ls (lv_sub hl [1, 0, 2, 3, 4] rfl)
              exact hloop_173 4 0 (by decide) 0 (by decide) f_77 hG _ _ hP hD hS (by (try simp only [ti_0]); omega) ls hl
        exact hloop_78 9 0 (by decide) f_50 hG _ _ hP hD hS (by (try simp only [ti_0]); omega) ls hl
      · skip
        rw [Int32.le_iff_toInt_le] at c_69
        refine lv_aload_n hx hb dX4_compile_26 rfl (lv_at hl 1 rfl) ?_
        obtain ⟨v_223, v_224, v_225, v_226, a_227, a_228, a_229, a_230, v_231, v_232, v_233, hfo_222, bv_223, bv_224, bv_225, bv_226, ⟨ma_227, ka_227⟩, ⟨ma_228, ka_228⟩, ⟨ma_229, ka_229⟩, ⟨ma_230, ka_230⟩⟩ := un_4 (hG _ mo0) ko0
        have bv_231 : ((-2147483648) ≤ v_231.toInt ∧ v_231.toInt ≤ 2147483647) := ⟨i32_lo _, i32_hi _⟩
        have bv_232 : ((-2147483648) ≤ v_232.toInt ∧ v_232.toInt ≤ 2147483647) := ⟨i32_lo _, i32_hi _⟩
        have bv_233 : ((-2147483648) ≤ v_233.toInt ∧ v_233.toInt ≤ 2147483647) := ⟨i32_lo _, i32_hi _⟩
        refine tk_getP (D := (dC, dI)) (ci := 4) (v := .ref a_229) (C := RX4) (T := TX4) (N := 11) hx hb hU inlX4 hown hK hP mo0 hfo_222 rfl 6 (by decide) (hU _ wd_105) (fun _ h9 => h9) rfl dX4_compile_27 ?_
        refine lv_iload_n hx hb dX4_compile_30 rfl (lv_at hl 0 rfl) ?_
        refine lv_aload_n hx hb dX4_compile_31 rfl (lv_at hl 1 rfl) ?_
        refine lv_aload_n hx hb dX4_compile_32 rfl (lv_at hl 2 rfl) ?_
        refine tk_getP (D := (dC, dI)) (ci := 7) (v := .ref a_57) (C := RX7) (T := TX7) (N := 16) hx hb hU inlX7 hown hK hP mo1 hfo_52 rfl 4 (by decide) (hU _ wd_490) (fun _ h9 => h9) rfl dX4_compile_33 ?_
        refine lv_iload_n hx hb dX4_compile_36 rfl (lv_at hl 0 rfl) ?_
        obtain ⟨g_235, hfo_234, hbg_235⟩ := un_31 (hG _ ma_57) ka_57
        refine tk_ildP hx hb hK hP 0 ma_57 hfo_234 rfl (vp_in_iff.mpr (by constructor <;> omega)) dX4_compile_37 ?_
        refine lv_topi (fun x_236 ex_236 => ?_)
        have bx_236 : (0 ≤ x_236.toInt ∧ x_236.toInt ≤ 8) := by rw [ex_236]; exact hbg_235 _
        refine lv_aload_n hx hb dX4_compile_38 rfl (lv_at hl 2 rfl) ?_
        refine tk_getP (D := (dC, dI)) (ci := 7) (v := .ref a_58) (C := RX7) (T := TX7) (N := 16) hx hb hU inlX7 hown hK hP mo1 hfo_52 rfl 5 (by decide) (hU _ wd_491) (fun _ h9 => h9) rfl dX4_compile_39 ?_
        refine lv_iload_n hx hb dX4_compile_42 rfl (lv_at hl 0 rfl) ?_
        obtain ⟨g_238, hfo_237, hbg_238⟩ := un_31 (hG _ ma_58) ka_58
        refine tk_ildP hx hb hK hP 0 ma_58 hfo_237 rfl (vp_in_iff.mpr (by constructor <;> omega)) dX4_compile_43 ?_
        refine lv_topi (fun x_239 ex_239 => ?_)
        have bx_239 : (0 ≤ x_239.toInt ∧ x_239.toInt ≤ 8) := by rw [ex_239]; exact hbg_238 _
        refine tk_ViP (As := [.int x_236, .int x_239]) (rest := [.int y_49, .ref a_229]) (n := 2) hx hb hml hown hU hN (s_X4_roleOf_k4 l (dC, dI) cI cL cZ cR kd L f_50 hG o0 mo0 ko0 x_236 x_239) wd_507 wd_508 wd_509 wd_90 wd_510 (by decide +kernel) ⟨Nat.le_of_ble_eq_true rfl, Nat.le_of_ble_eq_true rfl⟩ hK hP hD hS mo0 hfo_222 4 rfl rfl rfl hl.1 rfl (Nat.le_of_ble_eq_true rfl) dX4_compile_44 ⟨Nat.le_of_ble_eq_true rfl, Nat.le_of_ble_eq_true rfl⟩ (fun x_240 f_241 H locs hw hP hD hS => ?_)
        obtain ⟨hG, bx_240⟩ := hw
        obtain ⟨g_243, hfo_242, hbg_243⟩ := un_22 (hG _ ma_229) ka_229
        refine tk_istP hx hb hK hP hD hS 0 ma_229 hfo_242 rfl (vp_in_iff.mpr (by constructor <;> omega)) dX4_compile_47 (fun H locs hP hD hS => ?_)
        obtain ⟨f_244, ef_244⟩ : ∃ y : Nat → va_E, y = va_up f_241 a_229 (.inl (cI, 20, .inl (upd g_243 (Int32.toNatClampNeg y_49) x_240))) := ⟨_, rfl⟩
        have hP : va_P (dC, dI) vwCl (va_pl L f_244) H := by rw [ef_244]; exact hP
        have hD : va_D (fun q => q ∈ L) (va_pl L f_244) := by rw [ef_244]; exact hD
        have hG : GI (okc cI cL cZ cR L kd) kd L f_244 := by rw [ef_244]; exact hG.set a_229 (mk_22 ka_229 ⟨_, rfl, okI_up hbg_243 (by constructor <;> omega) _⟩)
        have hfo_245 : f_244 a_229 = .inl (cI, 20, .inl (upd g_243 (Int32.toNatClampNeg y_49) x_240)) := by rw [ef_244]; exact up_self
        obtain ⟨x_246, ex_246⟩ : ∃ y : Int32, y_49 + 1 = y := ⟨_, rfl⟩
        have hx_246 : x_246.toInt = y_49.toInt + 1 := by rw [← ex_246, ad_I (by rw [ti_1]; omega) (by rw [ti_1]; omega), ti_1]
        have bx_246 : (1 ≤ x_246.toInt ∧ x_246.toInt ≤ 20) := by constructor <;> omega
        refine lv_iinc (v := x_246) (lv' := [(2, .int x_246), (0, .ref o0), (1, .ref o1)]) hx hb dX4_compile_48 hl (k := 0) rfl ex_246 (by decide) rfl (fun ls hl => ?_)
        refine lv_goto (tgt := 18) hx hb dX4_compile_51 (by decide) ?_
        exact ih_hloop_51 x_246 (by constructor <;> omega) f_244 hG _ _ hP hD hS (by omega) ls (lv_sub hl [0, 1, 2] rfl)
  exact hloop_51 21 0 (by decide) f_42 hG _ _ hP hD hS (by (try simp only [ti_0]); omega) ls hl
set_option maxHeartbeats 8000000 in
set_option maxRecDepth 100000 in
theorem s_X4_mayClash_k4_k4 (l : Launch) (D : va_G) (cI cL cZ cR : ClassId) (kd : Nat → Nat) (L : List Nat) (f : Nat → va_E) (hG : GI (okc cI cL cZ cR L kd) kd L f) (o0 : Nat) (mo0 : o0 ∈ L) (ko0 : kd o0 = 4) (o1 : Nat) (mo1 : o1 ∈ L) (ko1 : kd o1 = 4) : mPI l D cI cL cZ cR yX4_mayClash cX4_mayClash 4 (some .boolean) 1 20 [.ref o0, .ref o1] L f (fun (r : Int32) (f9 : Nat → va_E) => GI (okc cI cL cZ cR L kd) kd L f9 ∧ (0 ≤ r.toInt ∧ r.toInt ≤ 1)) := by
  obtain ⟨dC, dI⟩ := D
  refine Met.ofW (cc := cX4_mayClash) (maxL := 4) (ret := (some .boolean)) (by decide) rfl ?_
  intro p e s m args below meth c s₁ B hml hv
  obtain ⟨rfl, hP, hK, hD0, hN⟩ := hv
  have hx := B.exec
  have hb := B.bytes
  have hr := B.returns
  have hU : ∀ w ∈ wsU, w.before _ s = true := fun w h => atoms_spec (ws := wU yX4_mayClash cX4_mayClash 4 (some .boolean)) B.pre w (List.mem_cons_of_mem _ h)
  have hown : s.vm.findClass RX4 = some m.cls := findClass_of_methodNamed B.named
  have hlocks := B.notSynchronized
  have hD := pl_in hD0
  have hS : va_S (fun q => q ∈ L) s.heap s.heap [] := va_S.rf
  have hl := lv_entry ([.ref o0, .ref o1]) (n := 4) (Nat.le_of_ble_eq_true rfl)
  rw [lg_entry_eq]
  generalize (lg_sl ([.ref o0, .ref o1]) ++ List.replicate (4 - (lg_sl ([.ref o0, .ref o1])).length) Slot.unset).toArray = ls at hl ⊢
  have hl : lv_has ls 4 [(0, .ref o0), (1, .ref o1)] := hl
  refine lv_aload_n hx hb dX4_mayClash_0 rfl (lv_at hl 0 rfl) ?_
  obtain ⟨v_2, v_3, v_4, v_5, a_6, a_7, a_8, a_9, v_10, v_11, v_12, hfo_1, bv_2, bv_3, bv_4, bv_5, ⟨ma_6, ka_6⟩, ⟨ma_7, ka_7⟩, ⟨ma_8, ka_8⟩, ⟨ma_9, ka_9⟩⟩ := un_4 (hG _ mo0) ko0
  have bv_10 : ((-2147483648) ≤ v_10.toInt ∧ v_10.toInt ≤ 2147483647) := ⟨i32_lo _, i32_hi _⟩
  have bv_11 : ((-2147483648) ≤ v_11.toInt ∧ v_11.toInt ≤ 2147483647) := ⟨i32_lo _, i32_hi _⟩
  have bv_12 : ((-2147483648) ≤ v_12.toInt ∧ v_12.toInt ≤ 2147483647) := ⟨i32_lo _, i32_hi _⟩
  refine tk_getP (D := (dC, dI)) (ci := 4) (v := .int v_2) (C := RX4) (T := TX4) (N := 11) hx hb hU inlX4 hown hK hP mo0 hfo_1 rfl 0 (by decide) (hU _ wd_407) (fun _ h9 => h9) rfl dX4_mayClash_1 ?_
  refine lv_aload_n hx hb dX4_mayClash_4 rfl (lv_at hl 1 rfl) ?_
  obtain ⟨v_14, v_15, v_16, v_17, a_18, a_19, a_20, a_21, v_22, v_23, v_24, hfo_13, bv_14, bv_15, bv_16, bv_17, ⟨ma_18, ka_18⟩, ⟨ma_19, ka_19⟩, ⟨ma_20, ka_20⟩, ⟨ma_21, ka_21⟩⟩ := un_4 (hG _ mo1) ko1
  have bv_22 : ((-2147483648) ≤ v_22.toInt ∧ v_22.toInt ≤ 2147483647) := ⟨i32_lo _, i32_hi _⟩
  have bv_23 : ((-2147483648) ≤ v_23.toInt ∧ v_23.toInt ≤ 2147483647) := ⟨i32_lo _, i32_hi _⟩
  have bv_24 : ((-2147483648) ≤ v_24.toInt ∧ v_24.toInt ≤ 2147483647) := ⟨i32_lo _, i32_hi _⟩
  refine tk_getP (D := (dC, dI)) (ci := 4) (v := .int v_14) (C := RX4) (T := TX4) (N := 11) hx hb hU inlX4 hown hK hP mo1 hfo_13 rfl 0 (by decide) (hU _ wd_407) (fun _ h9 => h9) rfl dX4_mayClash_5 ?_
  refine lv_icmp_eq (tgt := 13) hx hb dX4_mayClash_8 (by decide) (fun c_25 => ?_) (fun c_25 => ?_)
  · skip
    rw [← Int32.toInt_inj] at c_25
    refine lv_aload_n hx hb dX4_mayClash_13 rfl (lv_at hl 0 rfl) ?_
    refine tk_ViP (As := []) (rest := []) (n := 0) hx hb hml hown hU hN (s_X4_isAlways_k4 l (dC, dI) cI cL cZ cR kd L f hG o0 mo0 ko0) wd_511 wd_429 wd_430 wd_90 wd_431 (by decide +kernel) ⟨Nat.le_of_ble_eq_true rfl, Nat.le_of_ble_eq_true rfl⟩ hK hP hD hS mo0 hfo_1 4 rfl rfl rfl hl.1 rfl (Nat.le_of_ble_eq_true rfl) dX4_mayClash_14 ⟨Nat.le_of_ble_eq_true rfl, Nat.le_of_ble_eq_true rfl⟩ (fun x_26 f_27 H locs hw hP hD hS => ?_)
    obtain ⟨hG, bx_26⟩ := hw
    refine lv_if_eq (tgt := 44) hx hb dX4_mayClash_17 (by decide) (fun c_28 => ?_) (fun c_28 => ?_)
    · skip
      rw [← Int32.toInt_inj, ti_0] at c_28
      refine lv_aload_n hx hb dX4_mayClash_44 rfl (lv_at hl 0 rfl) ?_
      obtain ⟨v_30, v_31, v_32, v_33, a_34, a_35, a_36, a_37, v_38, v_39, v_40, hfo_29, bv_30, bv_31, bv_32, bv_33, ⟨ma_34, ka_34⟩, ⟨ma_35, ka_35⟩, ⟨ma_36, ka_36⟩, ⟨ma_37, ka_37⟩⟩ := un_4 (hG _ mo0) ko0
      have bv_38 : ((-2147483648) ≤ v_38.toInt ∧ v_38.toInt ≤ 2147483647) := ⟨i32_lo _, i32_hi _⟩
      have bv_39 : ((-2147483648) ≤ v_39.toInt ∧ v_39.toInt ≤ 2147483647) := ⟨i32_lo _, i32_hi _⟩
      have bv_40 : ((-2147483648) ≤ v_40.toInt ∧ v_40.toInt ≤ 2147483647) := ⟨i32_lo _, i32_hi _⟩
      refine tk_ViP (As := []) (rest := []) (n := 0) hx hb hml hown hU hN (s_X4_isAlways_k4 l (dC, dI) cI cL cZ cR kd L f_27 hG o0 mo0 ko0) wd_511 wd_429 wd_430 wd_90 wd_431 (by decide +kernel) ⟨Nat.le_of_ble_eq_true rfl, Nat.le_of_ble_eq_true rfl⟩ hK hP hD hS mo0 hfo_29 4 rfl rfl rfl hl.1 rfl (Nat.le_of_ble_eq_true rfl) dX4_mayClash_45 ⟨Nat.le_of_ble_eq_true rfl, Nat.le_of_ble_eq_true rfl⟩ (fun x_41 f_42 H locs hw hP hD hS => ?_)
      obtain ⟨hG, bx_41⟩ := hw
      have hcut_44 : ∀ (y_43 : Int32), (0 ≤ y_43.toInt ∧ y_43.toInt ≤ 1) → ∀ (ls : Array Slot), lv_has ls 4 [(0, .ref o0), (1, .ref o1)] → W p l e (headSpec (wU yX4_mayClash cX4_mayClash 4 (some .boolean)) { frames := 1, cells := 0, slots := 0, locals := 20 }).room s m [.ref o0, .ref o1].toArray below meth c H locs 0 0 (MQ below (va_Qi (fun (r : Int32) (f9 : Nat → va_E) => GI (okc cI cL cZ cR L kd) kd L f9 ∧ (0 ≤ r.toInt ∧ r.toInt ≤ 1)) (qP (dC, dI) cI cL cZ cR L) (fun q => q ∈ L)) [.ref o0, .ref o1].toArray s 0 0 (fun q => q ∈ L)) (F0 m 64 ls [.int y_43]) := by
        intro y_43 by_43 ls hl
        refine lv_istore_n (lv' := [(2, .int y_43), (0, .ref o0), (1, .ref o1)]) hx hb dX4_mayClash_64 rfl hl (by decide) rfl (fun ls hl => ?_)
        refine lv_aload_n hx hb dX4_mayClash_65 rfl (lv_at hl 1 rfl) ?_
        obtain ⟨v_46, v_47, v_48, v_49, a_50, a_51, a_52, a_53, v_54, v_55, v_56, hfo_45, bv_46, bv_47, bv_48, bv_49, ⟨ma_50, ka_50⟩, ⟨ma_51, ka_51⟩, ⟨ma_52, ka_52⟩, ⟨ma_53, ka_53⟩⟩ := un_4 (hG _ mo0) ko0
        have bv_54 : ((-2147483648) ≤ v_54.toInt ∧ v_54.toInt ≤ 2147483647) := ⟨i32_lo _, i32_hi _⟩
        have bv_55 : ((-2147483648) ≤ v_55.toInt ∧ v_55.toInt ≤ 2147483647) := ⟨i32_lo _, i32_hi _⟩
        have bv_56 : ((-2147483648) ≤ v_56.toInt ∧ v_56.toInt ≤ 2147483647) := ⟨i32_lo _, i32_hi _⟩
        refine tk_getP (D := (dC, dI)) (ci := 4) (v := .int v_48) (C := RX4) (T := TX4) (N := 11) hx hb hU inlX4 hown hK hP mo0 hfo_45 rfl 2 (by decide) (hU _ wd_409) (fun _ h9 => h9) rfl dX4_mayClash_66 ?_
        refine lv_iconst (v := 3) hx hb dX4_mayClash_69 (by decide) ?_
        have hcut_59 : ∀ (y_57 : Int32), (0 ≤ y_57.toInt ∧ y_57.toInt ≤ 1) → ∀ (f_58 : Nat → va_E), GI (okc cI cL cZ cR L kd) kd L f_58 → ∀ (H : Heap) (locs : List Loc), va_P (dC, dI) vwCl (va_pl L f_58) H → va_D (fun q => q ∈ L) (va_pl L f_58) → va_S (fun q => q ∈ L) s.heap H locs → ∀ (ls : Array Slot), lv_has ls 4 [(2, .int y_43), (0, .ref o0), (1, .ref o1)] → W p l e (headSpec (wU yX4_mayClash cX4_mayClash 4 (some .boolean)) { frames := 1, cells := 0, slots := 0, locals := 20 }).room s m [.ref o0, .ref o1].toArray below meth c H locs 0 0 (MQ below (va_Qi (fun (r : Int32) (f9 : Nat → va_E) => GI (okc cI cL cZ cR L kd) kd L f9 ∧ (0 ≤ r.toInt ∧ r.toInt ≤ 1)) (qP (dC, dI) cI cL cZ cR L) (fun q => q ∈ L)) [.ref o0, .ref o1].toArray s 0 0 (fun q => q ∈ L)) (F0 m 85 ls [.int y_57]) := by
          intro y_57 by_57 f_58 hG H locs hP hD hS ls hl
          refine lv_istore_n (lv' := [(3, .int y_57), (2, .int y_43), (0, .ref o0), (1, .ref o1)]) hx hb dX4_mayClash_85 rfl hl (by decide) rfl (fun ls hl => ?_)
          refine lv_iload_n hx hb dX4_mayClash_86 rfl (lv_at hl 1 rfl) ?_
          refine lv_if_ne (tgt := 94) hx hb dX4_mayClash_87 (by decide) (fun c_60 => ?_) (fun c_60 => ?_)
          · skip
            rw [← Int32.toInt_inj, ti_0] at c_60
            refine lv_aload_n hx hb dX4_mayClash_94 rfl (lv_at hl 2 rfl) ?_
            obtain ⟨v_62, v_63, v_64, v_65, a_66, a_67, a_68, a_69, v_70, v_71, v_72, hfo_61, bv_62, bv_63, bv_64, bv_65, ⟨ma_66, ka_66⟩, ⟨ma_67, ka_67⟩, ⟨ma_68, ka_68⟩, ⟨ma_69, ka_69⟩⟩ := un_4 (hG _ mo0) ko0
            have bv_70 : ((-2147483648) ≤ v_70.toInt ∧ v_70.toInt ≤ 2147483647) := ⟨i32_lo _, i32_hi _⟩
            have bv_71 : ((-2147483648) ≤ v_71.toInt ∧ v_71.toInt ≤ 2147483647) := ⟨i32_lo _, i32_hi _⟩
            have bv_72 : ((-2147483648) ≤ v_72.toInt ∧ v_72.toInt ≤ 2147483647) := ⟨i32_lo _, i32_hi _⟩
            refine tk_getP (D := (dC, dI)) (ci := 4) (v := .int v_63) (C := RX4) (T := TX4) (N := 11) hx hb hU inlX4 hown hK hP mo0 hfo_61 rfl 1 (by decide) (hU _ wd_408) (fun _ h9 => h9) rfl dX4_mayClash_95 ?_
            refine lv_aload_n hx hb dX4_mayClash_98 rfl (lv_at hl 3 rfl) ?_
            obtain ⟨v_74, v_75, v_76, v_77, a_78, a_79, a_80, a_81, v_82, v_83, v_84, hfo_73, bv_74, bv_75, bv_76, bv_77, ⟨ma_78, ka_78⟩, ⟨ma_79, ka_79⟩, ⟨ma_80, ka_80⟩, ⟨ma_81, ka_81⟩⟩ := un_4 (hG _ mo1) ko1
            have bv_82 : ((-2147483648) ≤ v_82.toInt ∧ v_82.toInt ≤ 2147483647) := ⟨i32_lo _, i32_hi _⟩
            have bv_83 : ((-2147483648) ≤ v_83.toInt ∧ v_83.toInt ≤ 2147483647) := ⟨i32_lo _, i32_hi _⟩
            have bv_84 : ((-2147483648) ≤ v_84.toInt ∧ v_84.toInt ≤ 2147483647) := ⟨i32_lo _, i32_hi _⟩
            refine tk_getP (D := (dC, dI)) (ci := 4) (v := .int v_75) (C := RX4) (T := TX4) (N := 11) hx hb hU inlX4 hown hK hP mo1 hfo_73 rfl 1 (by decide) (hU _ wd_408) (fun _ h9 => h9) rfl dX4_mayClash_99 ?_
            refine lv_icmp_ne (tgt := 109) hx hb dX4_mayClash_102 (by decide) (fun c_85 => ?_) (fun c_85 => ?_)
            · skip
              rw [← Int32.toInt_inj] at c_85
              refine lv_iconst (v := 0) hx hb dX4_mayClash_109 (by decide) ?_
              exact W.zret (v := 0) (ty := .boolean) hx hb hr rfl (fun t ht hW => ⟨⟨0, f_58, rfl, ⟨hG, (by decide)⟩, by rw [ht]; exact hP, va_K.moved hW.alike hK, pl_in hD⟩, hS.F ht⟩) hS.2.2 dX4_mayClash_110
            · skip
              rw [← Int32.toInt_inj] at c_85
              refine lv_iconst (v := 1) hx hb dX4_mayClash_105 (by decide) ?_
              refine lv_goto (tgt := 110) hx hb dX4_mayClash_106 (by decide) ?_
              exact W.zret (v := 1) (ty := .boolean) hx hb hr rfl (fun t ht hW => ⟨⟨1, f_58, rfl, ⟨hG, (by decide)⟩, by rw [ht]; exact hP, va_K.moved hW.alike hK, pl_in hD⟩, hS.F ht⟩) hS.2.2 dX4_mayClash_110
          · skip
            rw [← Int32.toInt_inj, ti_0] at c_60
            refine lv_iload_n hx hb dX4_mayClash_90 rfl (lv_at hl 0 rfl) ?_
            refine lv_if_eq (tgt := 109) hx hb dX4_mayClash_91 (by decide) (fun c_86 => ?_) (fun c_86 => ?_)
            · skip
              rw [← Int32.toInt_inj, ti_0] at c_86
              refine lv_iconst (v := 0) hx hb dX4_mayClash_109 (by decide) ?_
              exact W.zret (v := 0) (ty := .boolean) hx hb hr rfl (fun t ht hW => ⟨⟨0, f_58, rfl, ⟨hG, (by decide)⟩, by rw [ht]; exact hP, va_K.moved hW.alike hK, pl_in hD⟩, hS.F ht⟩) hS.2.2 dX4_mayClash_110
            · skip
              rw [← Int32.toInt_inj, ti_0] at c_86
              refine lv_aload_n hx hb dX4_mayClash_94 rfl (lv_at hl 2 rfl) ?_
              obtain ⟨v_88, v_89, v_90, v_91, a_92, a_93, a_94, a_95, v_96, v_97, v_98, hfo_87, bv_88, bv_89, bv_90, bv_91, ⟨ma_92, ka_92⟩, ⟨ma_93, ka_93⟩, ⟨ma_94, ka_94⟩, ⟨ma_95, ka_95⟩⟩ := un_4 (hG _ mo0) ko0
              have bv_96 : ((-2147483648) ≤ v_96.toInt ∧ v_96.toInt ≤ 2147483647) := ⟨i32_lo _, i32_hi _⟩
              have bv_97 : ((-2147483648) ≤ v_97.toInt ∧ v_97.toInt ≤ 2147483647) := ⟨i32_lo _, i32_hi _⟩
              have bv_98 : ((-2147483648) ≤ v_98.toInt ∧ v_98.toInt ≤ 2147483647) := ⟨i32_lo _, i32_hi _⟩
              refine tk_getP (D := (dC, dI)) (ci := 4) (v := .int v_89) (C := RX4) (T := TX4) (N := 11) hx hb hU inlX4 hown hK hP mo0 hfo_87 rfl 1 (by decide) (hU _ wd_408) (fun _ h9 => h9) rfl dX4_mayClash_95 ?_
              refine lv_aload_n hx hb dX4_mayClash_98 rfl (lv_at hl 3 rfl) ?_
              obtain ⟨v_100, v_101, v_102, v_103, a_104, a_105, a_106, a_107, v_108, v_109, v_110, hfo_99, bv_100, bv_101, bv_102, bv_103, ⟨ma_104, ka_104⟩, ⟨ma_105, ka_105⟩, ⟨ma_106, ka_106⟩, ⟨ma_107, ka_107⟩⟩ := un_4 (hG _ mo1) ko1
              have bv_108 : ((-2147483648) ≤ v_108.toInt ∧ v_108.toInt ≤ 2147483647) := ⟨i32_lo _, i32_hi _⟩
              have bv_109 : ((-2147483648) ≤ v_109.toInt ∧ v_109.toInt ≤ 2147483647) := ⟨i32_lo _, i32_hi _⟩
              have bv_110 : ((-2147483648) ≤ v_110.toInt ∧ v_110.toInt ≤ 2147483647) := ⟨i32_lo _, i32_hi _⟩
              refine tk_getP (D := (dC, dI)) (ci := 4) (v := .int v_101) (C := RX4) (T := TX4) (N := 11) hx hb hU inlX4 hown hK hP mo1 hfo_99 rfl 1 (by decide) (hU _ wd_408) (fun _ h9 => h9) rfl dX4_mayClash_99 ?_
              refine lv_icmp_ne (tgt := 109) hx hb dX4_mayClash_102 (by decide) (fun c_111 => ?_) (fun c_111 => ?_)
              · skip
                rw [← Int32.toInt_inj] at c_111
                refine lv_iconst (v := 0) hx hb dX4_mayClash_109 (by decide) ?_
                exact W.zret (v := 0) (ty := .boolean) hx hb hr rfl (fun t ht hW => ⟨⟨0, f_58, rfl, ⟨hG, (by decide)⟩, by rw [ht]; exact hP, va_K.moved hW.alike hK, pl_in hD⟩, hS.F ht⟩) hS.2.2 dX4_mayClash_110
              · skip
                rw [← Int32.toInt_inj] at c_111
                refine lv_iconst (v := 1) hx hb dX4_mayClash_105 (by decide) ?_
                refine lv_goto (tgt := 110) hx hb dX4_mayClash_106 (by decide) ?_
                exact W.zret (v := 1) (ty := .boolean) hx hb hr rfl (fun t ht hW => ⟨⟨1, f_58, rfl, ⟨hG, (by decide)⟩, by rw [ht]; exact hP, va_K.moved hW.alike hK, pl_in hD⟩, hS.F ht⟩) hS.2.2 dX4_mayClash_110
        refine lv_icmp_ne (tgt := 84) hx hb dX4_mayClash_70 (by decide) (fun c_112 => ?_) (fun c_112 => ?_)
        · skip
          rw [← Int32.toInt_inj, ti_3] at c_112
          refine lv_iconst (v := 0) hx hb dX4_mayClash_84 (by decide) ?_
          exact hcut_59 0 (by decide) f_42 hG _ _ hP hD hS ls (lv_sub hl [0, 1, 2] rfl)
        · skip
          rw [← Int32.toInt_inj, ti_3] at c_112
          refine lv_aload_n hx hb dX4_mayClash_73 rfl (lv_at hl 2 rfl) ?_
          obtain ⟨v_114, v_115, v_116, v_117, a_118, a_119, a_120, a_121, v_122, v_123, v_124, hfo_113, bv_114, bv_115, bv_116, bv_117, ⟨ma_118, ka_118⟩, ⟨ma_119, ka_119⟩, ⟨ma_120, ka_120⟩, ⟨ma_121, ka_121⟩⟩ := un_4 (hG _ mo1) ko1
          have bv_122 : ((-2147483648) ≤ v_122.toInt ∧ v_122.toInt ≤ 2147483647) := ⟨i32_lo _, i32_hi _⟩
          have bv_123 : ((-2147483648) ≤ v_123.toInt ∧ v_123.toInt ≤ 2147483647) := ⟨i32_lo _, i32_hi _⟩
          have bv_124 : ((-2147483648) ≤ v_124.toInt ∧ v_124.toInt ≤ 2147483647) := ⟨i32_lo _, i32_hi _⟩
          refine tk_ViP (As := []) (rest := []) (n := 0) hx hb hml hown hU hN (s_X4_isAlways_k4 l (dC, dI) cI cL cZ cR kd L f_42 hG o1 mo1 ko1) wd_511 wd_429 wd_430 wd_90 wd_431 (by decide +kernel) ⟨Nat.le_of_ble_eq_true rfl, Nat.le_of_ble_eq_true rfl⟩ hK hP hD hS mo1 hfo_113 4 rfl rfl rfl hl.1 rfl (Nat.le_of_ble_eq_true rfl) dX4_mayClash_74 ⟨Nat.le_of_ble_eq_true rfl, Nat.le_of_ble_eq_true rfl⟩ (fun x_125 f_126 H locs hw hP hD hS => ?_)
          obtain ⟨hG, bx_125⟩ := hw
          refine lv_if_eq (tgt := 84) hx hb dX4_mayClash_77 (by decide) (fun c_127 => ?_) (fun c_127 => ?_)
          · skip
            rw [← Int32.toInt_inj, ti_0] at c_127
            refine lv_iconst (v := 0) hx hb dX4_mayClash_84 (by decide) ?_
            exact hcut_59 0 (by decide) f_126 hG _ _ hP hD hS ls (lv_sub hl [0, 1, 2] rfl)
          · skip
            rw [← Int32.toInt_inj, ti_0] at c_127
            refine lv_iconst (v := 1) hx hb dX4_mayClash_80 (by decide) ?_
            refine lv_goto (tgt := 85) hx hb dX4_mayClash_81 (by decide) ?_
            exact hcut_59 1 (by decide) f_126 hG _ _ hP hD hS ls (lv_sub hl [0, 1, 2] rfl)
      refine lv_if_eq (tgt := 63) hx hb dX4_mayClash_48 (by decide) (fun c_128 => ?_) (fun c_128 => ?_)
      · skip
        rw [← Int32.toInt_inj, ti_0] at c_128
        refine lv_iconst (v := 0) hx hb dX4_mayClash_63 (by decide) ?_
        exact hcut_44 0 (by decide) ls (lv_sub hl [0, 1] rfl)
      · skip
        rw [← Int32.toInt_inj, ti_0] at c_128
        refine lv_aload_n hx hb dX4_mayClash_51 rfl (lv_at hl 1 rfl) ?_
        obtain ⟨v_130, v_131, v_132, v_133, a_134, a_135, a_136, a_137, v_138, v_139, v_140, hfo_129, bv_130, bv_131, bv_132, bv_133, ⟨ma_134, ka_134⟩, ⟨ma_135, ka_135⟩, ⟨ma_136, ka_136⟩, ⟨ma_137, ka_137⟩⟩ := un_4 (hG _ mo1) ko1
        have bv_138 : ((-2147483648) ≤ v_138.toInt ∧ v_138.toInt ≤ 2147483647) := ⟨i32_lo _, i32_hi _⟩
        have bv_139 : ((-2147483648) ≤ v_139.toInt ∧ v_139.toInt ≤ 2147483647) := ⟨i32_lo _, i32_hi _⟩
        have bv_140 : ((-2147483648) ≤ v_140.toInt ∧ v_140.toInt ≤ 2147483647) := ⟨i32_lo _, i32_hi _⟩
        refine tk_getP (D := (dC, dI)) (ci := 4) (v := .int v_132) (C := RX4) (T := TX4) (N := 11) hx hb hU inlX4 hown hK hP mo1 hfo_129 rfl 2 (by decide) (hU _ wd_409) (fun _ h9 => h9) rfl dX4_mayClash_52 ?_
        refine lv_iconst (v := 3) hx hb dX4_mayClash_55 (by decide) ?_
        refine lv_icmp_ne (tgt := 63) hx hb dX4_mayClash_56 (by decide) (fun c_141 => ?_) (fun c_141 => ?_)
        · skip
          rw [← Int32.toInt_inj, ti_3] at c_141
          refine lv_iconst (v := 0) hx hb dX4_mayClash_63 (by decide) ?_
          exact hcut_44 0 (by decide) ls (lv_sub hl [0, 1] rfl)
        · skip
          rw [← Int32.toInt_inj, ti_3] at c_141
          refine lv_iconst (v := 1) hx hb dX4_mayClash_59 (by decide) ?_
          refine lv_goto (tgt := 64) hx hb dX4_mayClash_60 (by decide) ?_
          exact hcut_44 1 (by decide) ls (lv_sub hl [0, 1] rfl)
    · skip
      rw [← Int32.toInt_inj, ti_0] at c_28
      refine lv_aload_n hx hb dX4_mayClash_20 rfl (lv_at hl 1 rfl) ?_
      obtain ⟨v_143, v_144, v_145, v_146, a_147, a_148, a_149, a_150, v_151, v_152, v_153, hfo_142, bv_143, bv_144, bv_145, bv_146, ⟨ma_147, ka_147⟩, ⟨ma_148, ka_148⟩, ⟨ma_149, ka_149⟩, ⟨ma_150, ka_150⟩⟩ := un_4 (hG _ mo1) ko1
      have bv_151 : ((-2147483648) ≤ v_151.toInt ∧ v_151.toInt ≤ 2147483647) := ⟨i32_lo _, i32_hi _⟩
      have bv_152 : ((-2147483648) ≤ v_152.toInt ∧ v_152.toInt ≤ 2147483647) := ⟨i32_lo _, i32_hi _⟩
      have bv_153 : ((-2147483648) ≤ v_153.toInt ∧ v_153.toInt ≤ 2147483647) := ⟨i32_lo _, i32_hi _⟩
      refine tk_ViP (As := []) (rest := []) (n := 0) hx hb hml hown hU hN (s_X4_isAlways_k4 l (dC, dI) cI cL cZ cR kd L f_27 hG o1 mo1 ko1) wd_511 wd_429 wd_430 wd_90 wd_431 (by decide +kernel) ⟨Nat.le_of_ble_eq_true rfl, Nat.le_of_ble_eq_true rfl⟩ hK hP hD hS mo1 hfo_142 4 rfl rfl rfl hl.1 rfl (Nat.le_of_ble_eq_true rfl) dX4_mayClash_21 ⟨Nat.le_of_ble_eq_true rfl, Nat.le_of_ble_eq_true rfl⟩ (fun x_154 f_155 H locs hw hP hD hS => ?_)
      obtain ⟨hG, bx_154⟩ := hw
      refine lv_if_eq (tgt := 44) hx hb dX4_mayClash_24 (by decide) (fun c_156 => ?_) (fun c_156 => ?_)
      · skip
        rw [← Int32.toInt_inj, ti_0] at c_156
        refine lv_aload_n hx hb dX4_mayClash_44 rfl (lv_at hl 0 rfl) ?_
        obtain ⟨v_158, v_159, v_160, v_161, a_162, a_163, a_164, a_165, v_166, v_167, v_168, hfo_157, bv_158, bv_159, bv_160, bv_161, ⟨ma_162, ka_162⟩, ⟨ma_163, ka_163⟩, ⟨ma_164, ka_164⟩, ⟨ma_165, ka_165⟩⟩ := un_4 (hG _ mo0) ko0
        have bv_166 : ((-2147483648) ≤ v_166.toInt ∧ v_166.toInt ≤ 2147483647) := ⟨i32_lo _, i32_hi _⟩
        have bv_167 : ((-2147483648) ≤ v_167.toInt ∧ v_167.toInt ≤ 2147483647) := ⟨i32_lo _, i32_hi _⟩
        have bv_168 : ((-2147483648) ≤ v_168.toInt ∧ v_168.toInt ≤ 2147483647) := ⟨i32_lo _, i32_hi _⟩
        refine tk_ViP (As := []) (rest := []) (n := 0) hx hb hml hown hU hN (s_X4_isAlways_k4 l (dC, dI) cI cL cZ cR kd L f_155 hG o0 mo0 ko0) wd_511 wd_429 wd_430 wd_90 wd_431 (by decide +kernel) ⟨Nat.le_of_ble_eq_true rfl, Nat.le_of_ble_eq_true rfl⟩ hK hP hD hS mo0 hfo_157 4 rfl rfl rfl hl.1 rfl (Nat.le_of_ble_eq_true rfl) dX4_mayClash_45 ⟨Nat.le_of_ble_eq_true rfl, Nat.le_of_ble_eq_true rfl⟩ (fun x_169 f_170 H locs hw hP hD hS => ?_)
        obtain ⟨hG, bx_169⟩ := hw
        have hcut_172 : ∀ (y_171 : Int32), (0 ≤ y_171.toInt ∧ y_171.toInt ≤ 1) → ∀ (ls : Array Slot), lv_has ls 4 [(0, .ref o0), (1, .ref o1)] → W p l e (headSpec (wU yX4_mayClash cX4_mayClash 4 (some .boolean)) { frames := 1, cells := 0, slots := 0, locals := 20 }).room s m [.ref o0, .ref o1].toArray below meth c H locs 0 0 (MQ below (va_Qi (fun (r : Int32) (f9 : Nat → va_E) => GI (okc cI cL cZ cR L kd) kd L f9 ∧ (0 ≤ r.toInt ∧ r.toInt ≤ 1)) (qP (dC, dI) cI cL cZ cR L) (fun q => q ∈ L)) [.ref o0, .ref o1].toArray s 0 0 (fun q => q ∈ L)) (F0 m 64 ls [.int y_171]) := by
          intro y_171 by_171 ls hl
          refine lv_istore_n (lv' := [(2, .int y_171), (0, .ref o0), (1, .ref o1)]) hx hb dX4_mayClash_64 rfl hl (by decide) rfl (fun ls hl => ?_)
          refine lv_aload_n hx hb dX4_mayClash_65 rfl (lv_at hl 1 rfl) ?_
          obtain ⟨v_174, v_175, v_176, v_177, a_178, a_179, a_180, a_181, v_182, v_183, v_184, hfo_173, bv_174, bv_175, bv_176, bv_177, ⟨ma_178, ka_178⟩, ⟨ma_179, ka_179⟩, ⟨ma_180, ka_180⟩, ⟨ma_181, ka_181⟩⟩ := un_4 (hG _ mo0) ko0
          have bv_182 : ((-2147483648) ≤ v_182.toInt ∧ v_182.toInt ≤ 2147483647) := ⟨i32_lo _, i32_hi _⟩
          have bv_183 : ((-2147483648) ≤ v_183.toInt ∧ v_183.toInt ≤ 2147483647) := ⟨i32_lo _, i32_hi _⟩
          have bv_184 : ((-2147483648) ≤ v_184.toInt ∧ v_184.toInt ≤ 2147483647) := ⟨i32_lo _, i32_hi _⟩
          refine tk_getP (D := (dC, dI)) (ci := 4) (v := .int v_176) (C := RX4) (T := TX4) (N := 11) hx hb hU inlX4 hown hK hP mo0 hfo_173 rfl 2 (by decide) (hU _ wd_409) (fun _ h9 => h9) rfl dX4_mayClash_66 ?_
          refine lv_iconst (v := 3) hx hb dX4_mayClash_69 (by decide) ?_
          have hcut_187 : ∀ (y_185 : Int32), (0 ≤ y_185.toInt ∧ y_185.toInt ≤ 1) → ∀ (f_186 : Nat → va_E), GI (okc cI cL cZ cR L kd) kd L f_186 → ∀ (H : Heap) (locs : List Loc), va_P (dC, dI) vwCl (va_pl L f_186) H → va_D (fun q => q ∈ L) (va_pl L f_186) → va_S (fun q => q ∈ L) s.heap H locs → ∀ (ls : Array Slot), lv_has ls 4 [(2, .int y_171), (0, .ref o0), (1, .ref o1)] → W p l e (headSpec (wU yX4_mayClash cX4_mayClash 4 (some .boolean)) { frames := 1, cells := 0, slots := 0, locals := 20 }).room s m [.ref o0, .ref o1].toArray below meth c H locs 0 0 (MQ below (va_Qi (fun (r : Int32) (f9 : Nat → va_E) => GI (okc cI cL cZ cR L kd) kd L f9 ∧ (0 ≤ r.toInt ∧ r.toInt ≤ 1)) (qP (dC, dI) cI cL cZ cR L) (fun q => q ∈ L)) [.ref o0, .ref o1].toArray s 0 0 (fun q => q ∈ L)) (F0 m 85 ls [.int y_185]) := by
            intro y_185 by_185 f_186 hG H locs hP hD hS ls hl
            refine lv_istore_n (lv' := [(3, .int y_185), (2, .int y_171), (0, .ref o0), (1, .ref o1)]) hx hb dX4_mayClash_85 rfl hl (by decide) rfl (fun ls hl => ?_)
            refine lv_iload_n hx hb dX4_mayClash_86 rfl (lv_at hl 1 rfl) ?_
            refine lv_if_ne (tgt := 94) hx hb dX4_mayClash_87 (by decide) (fun c_188 => ?_) (fun c_188 => ?_)
            · skip
              rw [← Int32.toInt_inj, ti_0] at c_188
              refine lv_aload_n hx hb dX4_mayClash_94 rfl (lv_at hl 2 rfl) ?_
              obtain ⟨v_190, v_191, v_192, v_193, a_194, a_195, a_196, a_197, v_198, v_199, v_200, hfo_189, bv_190, bv_191, bv_192, bv_193, ⟨ma_194, ka_194⟩, ⟨ma_195, ka_195⟩, ⟨ma_196, ka_196⟩, ⟨ma_197, ka_197⟩⟩ := un_4 (hG _ mo0) ko0
              have bv_198 : ((-2147483648) ≤ v_198.toInt ∧ v_198.toInt ≤ 2147483647) := ⟨i32_lo _, i32_hi _⟩
              have bv_199 : ((-2147483648) ≤ v_199.toInt ∧ v_199.toInt ≤ 2147483647) := ⟨i32_lo _, i32_hi _⟩
              have bv_200 : ((-2147483648) ≤ v_200.toInt ∧ v_200.toInt ≤ 2147483647) := ⟨i32_lo _, i32_hi _⟩
              refine tk_getP (D := (dC, dI)) (ci := 4) (v := .int v_191) (C := RX4) (T := TX4) (N := 11) hx hb hU inlX4 hown hK hP mo0 hfo_189 rfl 1 (by decide) (hU _ wd_408) (fun _ h9 => h9) rfl dX4_mayClash_95 ?_
              refine lv_aload_n hx hb dX4_mayClash_98 rfl (lv_at hl 3 rfl) ?_
              obtain ⟨v_202, v_203, v_204, v_205, a_206, a_207, a_208, a_209, v_210, v_211, v_212, hfo_201, bv_202, bv_203, bv_204, bv_205, ⟨ma_206, ka_206⟩, ⟨ma_207, ka_207⟩, ⟨ma_208, ka_208⟩, ⟨ma_209, ka_209⟩⟩ := un_4 (hG _ mo1) ko1
              have bv_210 : ((-2147483648) ≤ v_210.toInt ∧ v_210.toInt ≤ 2147483647) := ⟨i32_lo _, i32_hi _⟩
              have bv_211 : ((-2147483648) ≤ v_211.toInt ∧ v_211.toInt ≤ 2147483647) := ⟨i32_lo _, i32_hi _⟩
              have bv_212 : ((-2147483648) ≤ v_212.toInt ∧ v_212.toInt ≤ 2147483647) := ⟨i32_lo _, i32_hi _⟩
              refine tk_getP (D := (dC, dI)) (ci := 4) (v := .int v_203) (C := RX4) (T := TX4) (N := 11) hx hb hU inlX4 hown hK hP mo1 hfo_201 rfl 1 (by decide) (hU _ wd_408) (fun _ h9 => h9) rfl dX4_mayClash_99 ?_
              refine lv_icmp_ne (tgt := 109) hx hb dX4_mayClash_102 (by decide) (fun c_213 => ?_) (fun c_213 => ?_)
              · skip
                rw [← Int32.toInt_inj] at c_213
                refine lv_iconst (v := 0) hx hb dX4_mayClash_109 (by decide) ?_
                exact W.zret (v := 0) (ty := .boolean) hx hb hr rfl (fun t ht hW => ⟨⟨0, f_186, rfl, ⟨hG, (by decide)⟩, by rw [ht]; exact hP, va_K.moved hW.alike hK, pl_in hD⟩, hS.F ht⟩) hS.2.2 dX4_mayClash_110
              · skip
                rw [← Int32.toInt_inj] at c_213
                refine lv_iconst (v := 1) hx hb dX4_mayClash_105 (by decide) ?_
                refine lv_goto (tgt := 110) hx hb dX4_mayClash_106 (by decide) ?_
                exact W.zret (v := 1) (ty := .boolean) hx hb hr rfl (fun t ht hW => ⟨⟨1, f_186, rfl, ⟨hG, (by decide)⟩, by rw [ht]; exact hP, va_K.moved hW.alike hK, pl_in hD⟩, hS.F ht⟩) hS.2.2 dX4_mayClash_110
            · skip
              rw [← Int32.toInt_inj, ti_0] at c_188
              refine lv_iload_n hx hb dX4_mayClash_90 rfl (lv_at hl 0 rfl) ?_
              refine lv_if_eq (tgt := 109) hx hb dX4_mayClash_91 (by decide) (fun c_214 => ?_) (fun c_214 => ?_)
              · skip
                rw [← Int32.toInt_inj, ti_0] at c_214
                refine lv_iconst (v := 0) hx hb dX4_mayClash_109 (by decide) ?_
                exact W.zret (v := 0) (ty := .boolean) hx hb hr rfl (fun t ht hW => ⟨⟨0, f_186, rfl, ⟨hG, (by decide)⟩, by rw [ht]; exact hP, va_K.moved hW.alike hK, pl_in hD⟩, hS.F ht⟩) hS.2.2 dX4_mayClash_110
              · skip
                rw [← Int32.toInt_inj, ti_0] at c_214
                refine lv_aload_n hx hb dX4_mayClash_94 rfl (lv_at hl 2 rfl) ?_
                obtain ⟨v_216, v_217, v_218, v_219, a_220, a_221, a_222, a_223, v_224, v_225, v_226, hfo_215, bv_216, bv_217, bv_218, bv_219, ⟨ma_220, ka_220⟩, ⟨ma_221, ka_221⟩, ⟨ma_222, ka_222⟩, ⟨ma_223, ka_223⟩⟩ := un_4 (hG _ mo0) ko0
                have bv_224 : ((-2147483648) ≤ v_224.toInt ∧ v_224.toInt ≤ 2147483647) := ⟨i32_lo _, i32_hi _⟩
                have bv_225 : ((-2147483648) ≤ v_225.toInt ∧ v_225.toInt ≤ 2147483647) := ⟨i32_lo _, i32_hi _⟩
                have bv_226 : ((-2147483648) ≤ v_226.toInt ∧ v_226.toInt ≤ 2147483647) := ⟨i32_lo _, i32_hi _⟩
                refine tk_getP (D := (dC, dI)) (ci := 4) (v := .int v_217) (C := RX4) (T := TX4) (N := 11) hx hb hU inlX4 hown hK hP mo0 hfo_215 rfl 1 (by decide) (hU _ wd_408) (fun _ h9 => h9) rfl dX4_mayClash_95 ?_
                refine lv_aload_n hx hb dX4_mayClash_98 rfl (lv_at hl 3 rfl) ?_
                obtain ⟨v_228, v_229, v_230, v_231, a_232, a_233, a_234, a_235, v_236, v_237, v_238, hfo_227, bv_228, bv_229, bv_230, bv_231, ⟨ma_232, ka_232⟩, ⟨ma_233, ka_233⟩, ⟨ma_234, ka_234⟩, ⟨ma_235, ka_235⟩⟩ := un_4 (hG _ mo1) ko1
                have bv_236 : ((-2147483648) ≤ v_236.toInt ∧ v_236.toInt ≤ 2147483647) := ⟨i32_lo _, i32_hi _⟩
                have bv_237 : ((-2147483648) ≤ v_237.toInt ∧ v_237.toInt ≤ 2147483647) := ⟨i32_lo _, i32_hi _⟩
                have bv_238 : ((-2147483648) ≤ v_238.toInt ∧ v_238.toInt ≤ 2147483647) := ⟨i32_lo _, i32_hi _⟩
                refine tk_getP (D := (dC, dI)) (ci := 4) (v := .int v_229) (C := RX4) (T := TX4) (N := 11) hx hb hU inlX4 hown hK hP mo1 hfo_227 rfl 1 (by decide) (hU _ wd_408) (fun _ h9 => h9) rfl dX4_mayClash_99 ?_
                refine lv_icmp_ne (tgt := 109) hx hb dX4_mayClash_102 (by decide) (fun c_239 => ?_) (fun c_239 => ?_)
                · skip
                  rw [← Int32.toInt_inj] at c_239
                  refine lv_iconst (v := 0) hx hb dX4_mayClash_109 (by decide) ?_
                  exact W.zret (v := 0) (ty := .boolean) hx hb hr rfl (fun t ht hW => ⟨⟨0, f_186, rfl, ⟨hG, (by decide)⟩, by rw [ht]; exact hP, va_K.moved hW.alike hK, pl_in hD⟩, hS.F ht⟩) hS.2.2 dX4_mayClash_110
                · skip
                  rw [← Int32.toInt_inj] at c_239
                  refine lv_iconst (v := 1) hx hb dX4_mayClash_105 (by decide) ?_
                  refine lv_goto (tgt := 110) hx hb dX4_mayClash_106 (by decide) ?_
                  exact W.zret (v := 1) (ty := .boolean) hx hb hr rfl (fun t ht hW => ⟨⟨1, f_186, rfl, ⟨hG, (by decide)⟩, by rw [ht]; exact hP, va_K.moved hW.alike hK, pl_in hD⟩, hS.F ht⟩) hS.2.2 dX4_mayClash_110
          refine lv_icmp_ne (tgt := 84) hx hb dX4_mayClash_70 (by decide) (fun c_240 => ?_) (fun c_240 => ?_)
          · skip
            rw [← Int32.toInt_inj, ti_3] at c_240
            refine lv_iconst (v := 0) hx hb dX4_mayClash_84 (by decide) ?_
            exact hcut_187 0 (by decide) f_170 hG _ _ hP hD hS ls (lv_sub hl [0, 1, 2] rfl)
          · skip
            rw [← Int32.toInt_inj, ti_3] at c_240
            refine lv_aload_n hx hb dX4_mayClash_73 rfl (lv_at hl 2 rfl) ?_
            obtain ⟨v_242, v_243, v_244, v_245, a_246, a_247, a_248, a_249, v_250, v_251, v_252, hfo_241, bv_242, bv_243, bv_244, bv_245, ⟨ma_246, ka_246⟩, ⟨ma_247, ka_247⟩, ⟨ma_248, ka_248⟩, ⟨ma_249, ka_249⟩⟩ := un_4 (hG _ mo1) ko1
            have bv_250 : ((-2147483648) ≤ v_250.toInt ∧ v_250.toInt ≤ 2147483647) := ⟨i32_lo _, i32_hi _⟩
            have bv_251 : ((-2147483648) ≤ v_251.toInt ∧ v_251.toInt ≤ 2147483647) := ⟨i32_lo _, i32_hi _⟩
            have bv_252 : ((-2147483648) ≤ v_252.toInt ∧ v_252.toInt ≤ 2147483647) := ⟨i32_lo _, i32_hi _⟩
            refine tk_ViP (As := []) (rest := []) (n := 0) hx hb hml hown hU hN (s_X4_isAlways_k4 l (dC, dI) cI cL cZ cR kd L f_170 hG o1 mo1 ko1) wd_511 wd_429 wd_430 wd_90 wd_431 (by decide +kernel) ⟨Nat.le_of_ble_eq_true rfl, Nat.le_of_ble_eq_true rfl⟩ hK hP hD hS mo1 hfo_241 4 rfl rfl rfl hl.1 rfl (Nat.le_of_ble_eq_true rfl) dX4_mayClash_74 ⟨Nat.le_of_ble_eq_true rfl, Nat.le_of_ble_eq_true rfl⟩ (fun x_253 f_254 H locs hw hP hD hS => ?_)
            obtain ⟨hG, bx_253⟩ := hw
            refine lv_if_eq (tgt := 84) hx hb dX4_mayClash_77 (by decide) (fun c_255 => ?_) (fun c_255 => ?_)
            · skip
              rw [← Int32.toInt_inj, ti_0] at c_255
              refine lv_iconst (v := 0) hx hb dX4_mayClash_84 (by decide) ?_
              exact hcut_187 0 (by decide) f_254 hG _ _ hP hD hS ls (lv_sub hl [0, 1, 2] rfl)
            · skip
              rw [← Int32.toInt_inj, ti_0] at c_255
              refine lv_iconst (v := 1) hx hb dX4_mayClash_80 (by decide) ?_
              refine lv_goto (tgt := 85) hx hb dX4_mayClash_81 (by decide) ?_
              exact hcut_187 1 (by decide) f_254 hG _ _ hP hD hS ls (lv_sub hl [0, 1, 2] rfl)
        refine lv_if_eq (tgt := 63) hx hb dX4_mayClash_48 (by decide) (fun c_256 => ?_) (fun c_256 => ?_)
        · skip
          rw [← Int32.toInt_inj, ti_0] at c_256
          refine lv_iconst (v := 0) hx hb dX4_mayClash_63 (by decide) ?_
          exact hcut_172 0 (by decide) ls (lv_sub hl [0, 1] rfl)
        · skip
          rw [← Int32.toInt_inj, ti_0] at c_256
          refine lv_aload_n hx hb dX4_mayClash_51 rfl (lv_at hl 1 rfl) ?_
          obtain ⟨v_258, v_259, v_260, v_261, a_262, a_263, a_264, a_265, v_266, v_267, v_268, hfo_257, bv_258, bv_259, bv_260, bv_261, ⟨ma_262, ka_262⟩, ⟨ma_263, ka_263⟩, ⟨ma_264, ka_264⟩, ⟨ma_265, ka_265⟩⟩ := un_4 (hG _ mo1) ko1
          have bv_266 : ((-2147483648) ≤ v_266.toInt ∧ v_266.toInt ≤ 2147483647) := ⟨i32_lo _, i32_hi _⟩
          have bv_267 : ((-2147483648) ≤ v_267.toInt ∧ v_267.toInt ≤ 2147483647) := ⟨i32_lo _, i32_hi _⟩
          have bv_268 : ((-2147483648) ≤ v_268.toInt ∧ v_268.toInt ≤ 2147483647) := ⟨i32_lo _, i32_hi _⟩
          refine tk_getP (D := (dC, dI)) (ci := 4) (v := .int v_260) (C := RX4) (T := TX4) (N := 11) hx hb hU inlX4 hown hK hP mo1 hfo_257 rfl 2 (by decide) (hU _ wd_409) (fun _ h9 => h9) rfl dX4_mayClash_52 ?_
          refine lv_iconst (v := 3) hx hb dX4_mayClash_55 (by decide) ?_
          refine lv_icmp_ne (tgt := 63) hx hb dX4_mayClash_56 (by decide) (fun c_269 => ?_) (fun c_269 => ?_)
          · skip
            rw [← Int32.toInt_inj, ti_3] at c_269
            refine lv_iconst (v := 0) hx hb dX4_mayClash_63 (by decide) ?_
            exact hcut_172 0 (by decide) ls (lv_sub hl [0, 1] rfl)
          · skip
            rw [← Int32.toInt_inj, ti_3] at c_269
            refine lv_iconst (v := 1) hx hb dX4_mayClash_59 (by decide) ?_
            refine lv_goto (tgt := 64) hx hb dX4_mayClash_60 (by decide) ?_
            exact hcut_172 1 (by decide) ls (lv_sub hl [0, 1] rfl)
      · skip
        rw [← Int32.toInt_inj, ti_0] at c_156
        refine lv_aload_n hx hb dX4_mayClash_27 rfl (lv_at hl 0 rfl) ?_
        obtain ⟨v_271, v_272, v_273, v_274, a_275, a_276, a_277, a_278, v_279, v_280, v_281, hfo_270, bv_271, bv_272, bv_273, bv_274, ⟨ma_275, ka_275⟩, ⟨ma_276, ka_276⟩, ⟨ma_277, ka_277⟩, ⟨ma_278, ka_278⟩⟩ := un_4 (hG _ mo0) ko0
        have bv_279 : ((-2147483648) ≤ v_279.toInt ∧ v_279.toInt ≤ 2147483647) := ⟨i32_lo _, i32_hi _⟩
        have bv_280 : ((-2147483648) ≤ v_280.toInt ∧ v_280.toInt ≤ 2147483647) := ⟨i32_lo _, i32_hi _⟩
        have bv_281 : ((-2147483648) ≤ v_281.toInt ∧ v_281.toInt ≤ 2147483647) := ⟨i32_lo _, i32_hi _⟩
        refine tk_getP (D := (dC, dI)) (ci := 4) (v := .int v_272) (C := RX4) (T := TX4) (N := 11) hx hb hU inlX4 hown hK hP mo0 hfo_270 rfl 1 (by decide) (hU _ wd_408) (fun _ h9 => h9) rfl dX4_mayClash_28 ?_
        refine lv_aload_n hx hb dX4_mayClash_31 rfl (lv_at hl 1 rfl) ?_
        obtain ⟨v_283, v_284, v_285, v_286, a_287, a_288, a_289, a_290, v_291, v_292, v_293, hfo_282, bv_283, bv_284, bv_285, bv_286, ⟨ma_287, ka_287⟩, ⟨ma_288, ka_288⟩, ⟨ma_289, ka_289⟩, ⟨ma_290, ka_290⟩⟩ := un_4 (hG _ mo1) ko1
        have bv_291 : ((-2147483648) ≤ v_291.toInt ∧ v_291.toInt ≤ 2147483647) := ⟨i32_lo _, i32_hi _⟩
        have bv_292 : ((-2147483648) ≤ v_292.toInt ∧ v_292.toInt ≤ 2147483647) := ⟨i32_lo _, i32_hi _⟩
        have bv_293 : ((-2147483648) ≤ v_293.toInt ∧ v_293.toInt ≤ 2147483647) := ⟨i32_lo _, i32_hi _⟩
        refine tk_getP (D := (dC, dI)) (ci := 4) (v := .int v_284) (C := RX4) (T := TX4) (N := 11) hx hb hU inlX4 hown hK hP mo1 hfo_282 rfl 1 (by decide) (hU _ wd_408) (fun _ h9 => h9) rfl dX4_mayClash_32 ?_
        refine lv_icmp_eq (tgt := 42) hx hb dX4_mayClash_35 (by decide) (fun c_294 => ?_) (fun c_294 => ?_)
        · skip
          rw [← Int32.toInt_inj] at c_294
          refine lv_iconst (v := 0) hx hb dX4_mayClash_42 (by decide) ?_
          exact W.zret (v := 0) (ty := .boolean) hx hb hr rfl (fun t ht hW => ⟨⟨0, f_155, rfl, ⟨hG, (by decide)⟩, by rw [ht]; exact hP, va_K.moved hW.alike hK, pl_in hD⟩, hS.F ht⟩) hS.2.2 dX4_mayClash_43
        · skip
          rw [← Int32.toInt_inj] at c_294
          refine lv_iconst (v := 1) hx hb dX4_mayClash_38 (by decide) ?_
          refine lv_goto (tgt := 43) hx hb dX4_mayClash_39 (by decide) ?_
          exact W.zret (v := 1) (ty := .boolean) hx hb hr rfl (fun t ht hW => ⟨⟨1, f_155, rfl, ⟨hG, (by decide)⟩, by rw [ht]; exact hP, va_K.moved hW.alike hK, pl_in hD⟩, hS.F ht⟩) hS.2.2 dX4_mayClash_43
  · skip
    rw [← Int32.toInt_inj] at c_25
    refine lv_iconst (v := 0) hx hb dX4_mayClash_11 (by decide) ?_
    exact W.zret (v := 0) (ty := .boolean) hx hb hr rfl (fun t ht hW => ⟨⟨0, f, rfl, ⟨hG, (by decide)⟩, by rw [ht]; exact hP, va_K.moved hW.alike hK, pl_in hD⟩, hS.F ht⟩) hS.2.2 dX4_mayClash_12
