set_option maxHeartbeats 8000000 in
set_option maxRecDepth 100000 in
theorem s_X11_feed_k11 (l : Launch) (D : va_G) (cI cL cZ cR : ClassId) (kd : Nat → Nat) (L : List Nat) (f : Nat → va_E) (hG : GI (okc cI cL cZ cR L kd) kd L f) (o0 : Nat) (mo0 : o0 ∈ L) (ko0 : kd o0 = 11) (p1 : Int32) (p2 : Int32) (p3 : Int32) (p4 : Int32) (p5 : Int32) : mPI l D cI cL cZ cR yX11_feed cX11_feed 6 (some .int) 1 22 [.ref o0, .int p1, .int p2, .int p3, .int p4, .int p5] L f (fun (r : Int32) (f9 : Nat → va_E) => GI (okc cI cL cZ cR L kd) kd L f9 ∧ ((-1) ≤ r.toInt ∧ r.toInt ≤ 600)) := by
  obtain ⟨dC, dI⟩ := D
  refine Met.ofW (cc := cX11_feed) (maxL := 6) (ret := (some .int)) (by decide) rfl ?_
  intro p e s m args below meth c s₁ B hml hv
  obtain ⟨rfl, hP, hK, hD0, hN⟩ := hv
  have hx := B.exec
  have hb := B.bytes
  have hr := B.returns
  have hU : ∀ w ∈ wsU, w.before _ s = true := fun w h => atoms_spec (ws := wU yX11_feed cX11_feed 6 (some .int)) B.pre w (List.mem_cons_of_mem _ h)
  have hown : s.vm.findClass RX11 = some m.cls := findClass_of_methodNamed B.named
  have hlocks := B.notSynchronized
  have hD := pl_in hD0
  have hS : va_S (fun q => q ∈ L) s.heap s.heap [] := va_S.rf
  have hl := lv_entry ([.ref o0, .int p1, .int p2, .int p3, .int p4, .int p5]) (n := 6) (Nat.le_of_ble_eq_true rfl)
  rw [lg_entry_eq]
  generalize (lg_sl ([.ref o0, .int p1, .int p2, .int p3, .int p4, .int p5]) ++ List.replicate (6 - (lg_sl ([.ref o0, .int p1, .int p2, .int p3, .int p4, .int p5])).length) Slot.unset).toArray = ls at hl ⊢
  have hl : lv_has ls 6 [(0, .ref o0), (1, .int p1), (2, .int p2), (3, .int p3), (4, .int p4), (5, .int p5)] := hl
  have bp1 : ((-2147483648) ≤ p1.toInt ∧ p1.toInt ≤ 2147483647) := ⟨i32_lo _, i32_hi _⟩
  have bp2 : ((-2147483648) ≤ p2.toInt ∧ p2.toInt ≤ 2147483647) := ⟨i32_lo _, i32_hi _⟩
  have bp3 : ((-2147483648) ≤ p3.toInt ∧ p3.toInt ≤ 2147483647) := ⟨i32_lo _, i32_hi _⟩
  have bp4 : ((-2147483648) ≤ p4.toInt ∧ p4.toInt ≤ 2147483647) := ⟨i32_lo _, i32_hi _⟩
  have bp5 : ((-2147483648) ≤ p5.toInt ∧ p5.toInt ≤ 2147483647) := ⟨i32_lo _, i32_hi _⟩
  refine lv_aload_n hx hb dX11_feed_0 rfl (lv_at hl 0 rfl) ?_
  obtain ⟨a_2, v_3, a_4, a_5, a_6, a_7, a_8, a_9, v_10, a_11, a_12, a_13, v_14, v_15, a_16, v_17, a_18, a_19, v_20, hfo_1, ⟨ma_2, ka_2⟩, bv_3, ⟨ma_4, ka_4⟩, ⟨ma_5, ka_5⟩, ⟨ma_6, ka_6⟩, ⟨ma_7, ka_7⟩, ⟨ma_8, ka_8⟩, ⟨ma_9, ka_9⟩, bv_10, ⟨ma_11, ka_11⟩, ⟨ma_12, ka_12⟩, ⟨ma_13, ka_13⟩, bv_14, ⟨ma_16, ka_16⟩, bv_17, ⟨ma_18, ka_18⟩, ⟨ma_19, ka_19⟩⟩ := un_11 (hG _ mo0) ko0
  have bv_15 : ((-2147483648) ≤ v_15.toInt ∧ v_15.toInt ≤ 2147483647) := ⟨i32_lo _, i32_hi _⟩
  have bv_20 : ((-2147483648) ≤ v_20.toInt ∧ v_20.toInt ≤ 2147483647) := ⟨i32_lo _, i32_hi _⟩
  refine tk_getP (D := (dC, dI)) (ci := 11) (v := .int v_3) (C := RX11) (T := TX11) (N := 19) hx hb hU inlX11 hown hK hP mo0 hfo_1 rfl 1 (by decide) (hU _ wd_209) (fun _ h9 => h9) rfl dX11_feed_1 ?_
  refine lv_bipush (v := 20) hx hb dX11_feed_4 (by decide) ?_
  refine lv_iadd hx hb dX11_feed_6 ?_
  refine lv_topi (fun x_21 ex_21 => ?_)
  have hx_21 : x_21.toInt = v_3.toInt + 20 := by rw [ex_21, ad_I (by rw [ti_20]; omega) (by rw [ti_20]; omega), ti_20]
  have bx_21 : (20 ≤ x_21.toInt ∧ x_21.toInt ≤ 620) := by constructor <;> omega
  refine lv_sipush (v := 600) hx hb dX11_feed_7 (by decide) ?_
  refine lv_icmp_le (tgt := 15) hx hb dX11_feed_10 (by decide) (fun c_22 => ?_) (fun c_22 => ?_)
  · skip
    rw [Int32.le_iff_toInt_le, ti_600] at c_22
    refine lv_aload_n hx hb dX11_feed_15 rfl (lv_at hl 0 rfl) ?_
    refine lv_iload_n hx hb dX11_feed_16 rfl (lv_at hl 1 rfl) ?_
    refine tk_VvP (As := [.int p1]) (rest := []) (n := 1) hx hb hml hown hU hN (s_X11_putNumber_k11 l (dC, dI) cI cL cZ cR kd L f hG o0 mo0 ko0 p1 (by intro w1 e1; rw [hfo_1] at e1; cases e1; omega)) wd_210 wd_211 wd_212 wd_2 wd_213 (by decide +kernel) ⟨Nat.le_of_ble_eq_true rfl, Nat.le_of_ble_eq_true rfl⟩ hK hP hD hS mo0 hfo_1 11 rfl rfl rfl hl.1 rfl (Nat.le_of_ble_eq_true rfl) dX11_feed_17 ⟨Nat.le_of_ble_eq_true rfl, Nat.le_of_ble_eq_true rfl⟩ (fun f_24 H locs hw hP hD hS => ?_)
    obtain ⟨hG, hpost_25⟩ := hw
    refine lv_aload_n hx hb dX11_feed_20 rfl (lv_at hl 0 rfl) ?_
    refine lv_iload_n hx hb dX11_feed_21 rfl (lv_at hl 2 rfl) ?_
    obtain ⟨a_27, v_28, a_29, a_30, a_31, a_32, a_33, a_34, v_35, a_36, a_37, a_38, v_39, v_40, a_41, v_42, a_43, a_44, v_45, hfo_26, ⟨ma_27, ka_27⟩, bv_28, ⟨ma_29, ka_29⟩, ⟨ma_30, ka_30⟩, ⟨ma_31, ka_31⟩, ⟨ma_32, ka_32⟩, ⟨ma_33, ka_33⟩, ⟨ma_34, ka_34⟩, bv_35, ⟨ma_36, ka_36⟩, ⟨ma_37, ka_37⟩, ⟨ma_38, ka_38⟩, bv_39, ⟨ma_41, ka_41⟩, bv_42, ⟨ma_43, ka_43⟩, ⟨ma_44, ka_44⟩⟩ := un_11 (hG _ mo0) ko0
    have bv_40 : ((-2147483648) ≤ v_40.toInt ∧ v_40.toInt ≤ 2147483647) := ⟨i32_lo _, i32_hi _⟩
    have bv_45 : ((-2147483648) ≤ v_45.toInt ∧ v_45.toInt ≤ 2147483647) := ⟨i32_lo _, i32_hi _⟩
    have hqhfo_26 := hpost_25 v_3 v_28 (by rw [hfo_1]; rfl) (by rw [hfo_26]; rfl)
    refine tk_VvP (As := [.int p2]) (rest := []) (n := 1) hx hb hml hown hU hN (s_X11_putNumber_k11 l (dC, dI) cI cL cZ cR kd L f_24 hG o0 mo0 ko0 p2 (by intro w1 e1; rw [hfo_26] at e1; cases e1; omega)) wd_210 wd_211 wd_212 wd_2 wd_213 (by decide +kernel) ⟨Nat.le_of_ble_eq_true rfl, Nat.le_of_ble_eq_true rfl⟩ hK hP hD hS mo0 hfo_26 11 rfl rfl rfl hl.1 rfl (Nat.le_of_ble_eq_true rfl) dX11_feed_22 ⟨Nat.le_of_ble_eq_true rfl, Nat.le_of_ble_eq_true rfl⟩ (fun f_47 H locs hw hP hD hS => ?_)
    obtain ⟨hG, hpost_48⟩ := hw
    refine lv_aload_n hx hb dX11_feed_25 rfl (lv_at hl 0 rfl) ?_
    refine lv_iload_n hx hb dX11_feed_26 rfl (lv_at hl 3 rfl) ?_
    obtain ⟨a_50, v_51, a_52, a_53, a_54, a_55, a_56, a_57, v_58, a_59, a_60, a_61, v_62, v_63, a_64, v_65, a_66, a_67, v_68, hfo_49, ⟨ma_50, ka_50⟩, bv_51, ⟨ma_52, ka_52⟩, ⟨ma_53, ka_53⟩, ⟨ma_54, ka_54⟩, ⟨ma_55, ka_55⟩, ⟨ma_56, ka_56⟩, ⟨ma_57, ka_57⟩, bv_58, ⟨ma_59, ka_59⟩, ⟨ma_60, ka_60⟩, ⟨ma_61, ka_61⟩, bv_62, ⟨ma_64, ka_64⟩, bv_65, ⟨ma_66, ka_66⟩, ⟨ma_67, ka_67⟩⟩ := un_11 (hG _ mo0) ko0
    have bv_63 : ((-2147483648) ≤ v_63.toInt ∧ v_63.toInt ≤ 2147483647) := ⟨i32_lo _, i32_hi _⟩
    have bv_68 : ((-2147483648) ≤ v_68.toInt ∧ v_68.toInt ≤ 2147483647) := ⟨i32_lo _, i32_hi _⟩
    have hqhfo_49 := hpost_48 v_28 v_51 (by rw [hfo_26]; rfl) (by rw [hfo_49]; rfl)
    refine tk_VvP (As := [.int p3]) (rest := []) (n := 1) hx hb hml hown hU hN (s_X11_putNumber_k11 l (dC, dI) cI cL cZ cR kd L f_47 hG o0 mo0 ko0 p3 (by intro w1 e1; rw [hfo_49] at e1; cases e1; omega)) wd_210 wd_211 wd_212 wd_2 wd_213 (by decide +kernel) ⟨Nat.le_of_ble_eq_true rfl, Nat.le_of_ble_eq_true rfl⟩ hK hP hD hS mo0 hfo_49 11 rfl rfl rfl hl.1 rfl (Nat.le_of_ble_eq_true rfl) dX11_feed_27 ⟨Nat.le_of_ble_eq_true rfl, Nat.le_of_ble_eq_true rfl⟩ (fun f_70 H locs hw hP hD hS => ?_)
    obtain ⟨hG, hpost_71⟩ := hw
    refine lv_aload_n hx hb dX11_feed_30 rfl (lv_at hl 0 rfl) ?_
    refine lv_iload hx hb dX11_feed_31 (lv_at hl 4 rfl) ?_
    obtain ⟨a_73, v_74, a_75, a_76, a_77, a_78, a_79, a_80, v_81, a_82, a_83, a_84, v_85, v_86, a_87, v_88, a_89, a_90, v_91, hfo_72, ⟨ma_73, ka_73⟩, bv_74, ⟨ma_75, ka_75⟩, ⟨ma_76, ka_76⟩, ⟨ma_77, ka_77⟩, ⟨ma_78, ka_78⟩, ⟨ma_79, ka_79⟩, ⟨ma_80, ka_80⟩, bv_81, ⟨ma_82, ka_82⟩, ⟨ma_83, ka_83⟩, ⟨ma_84, ka_84⟩, bv_85, ⟨ma_87, ka_87⟩, bv_88, ⟨ma_89, ka_89⟩, ⟨ma_90, ka_90⟩⟩ := un_11 (hG _ mo0) ko0
    have bv_86 : ((-2147483648) ≤ v_86.toInt ∧ v_86.toInt ≤ 2147483647) := ⟨i32_lo _, i32_hi _⟩
    have bv_91 : ((-2147483648) ≤ v_91.toInt ∧ v_91.toInt ≤ 2147483647) := ⟨i32_lo _, i32_hi _⟩
    have hqhfo_72 := hpost_71 v_51 v_74 (by rw [hfo_49]; rfl) (by rw [hfo_72]; rfl)
    refine tk_VvP (As := [.int p4]) (rest := []) (n := 1) hx hb hml hown hU hN (s_X11_putNumber_k11 l (dC, dI) cI cL cZ cR kd L f_70 hG o0 mo0 ko0 p4 (by intro w1 e1; rw [hfo_72] at e1; cases e1; omega)) wd_210 wd_211 wd_212 wd_2 wd_213 (by decide +kernel) ⟨Nat.le_of_ble_eq_true rfl, Nat.le_of_ble_eq_true rfl⟩ hK hP hD hS mo0 hfo_72 11 rfl rfl rfl hl.1 rfl (Nat.le_of_ble_eq_true rfl) dX11_feed_33 ⟨Nat.le_of_ble_eq_true rfl, Nat.le_of_ble_eq_true rfl⟩ (fun f_93 H locs hw hP hD hS => ?_)
    obtain ⟨hG, hpost_94⟩ := hw
    refine lv_aload_n hx hb dX11_feed_36 rfl (lv_at hl 0 rfl) ?_
    refine lv_iload hx hb dX11_feed_37 (lv_at hl 5 rfl) ?_
    obtain ⟨a_96, v_97, a_98, a_99, a_100, a_101, a_102, a_103, v_104, a_105, a_106, a_107, v_108, v_109, a_110, v_111, a_112, a_113, v_114, hfo_95, ⟨ma_96, ka_96⟩, bv_97, ⟨ma_98, ka_98⟩, ⟨ma_99, ka_99⟩, ⟨ma_100, ka_100⟩, ⟨ma_101, ka_101⟩, ⟨ma_102, ka_102⟩, ⟨ma_103, ka_103⟩, bv_104, ⟨ma_105, ka_105⟩, ⟨ma_106, ka_106⟩, ⟨ma_107, ka_107⟩, bv_108, ⟨ma_110, ka_110⟩, bv_111, ⟨ma_112, ka_112⟩, ⟨ma_113, ka_113⟩⟩ := un_11 (hG _ mo0) ko0
    have bv_109 : ((-2147483648) ≤ v_109.toInt ∧ v_109.toInt ≤ 2147483647) := ⟨i32_lo _, i32_hi _⟩
    have bv_114 : ((-2147483648) ≤ v_114.toInt ∧ v_114.toInt ≤ 2147483647) := ⟨i32_lo _, i32_hi _⟩
    have hqhfo_95 := hpost_94 v_74 v_97 (by rw [hfo_72]; rfl) (by rw [hfo_95]; rfl)
    refine tk_VvP (As := [.int p5]) (rest := []) (n := 1) hx hb hml hown hU hN (s_X11_putNumber_k11 l (dC, dI) cI cL cZ cR kd L f_93 hG o0 mo0 ko0 p5 (by intro w1 e1; rw [hfo_95] at e1; cases e1; omega)) wd_210 wd_211 wd_212 wd_2 wd_213 (by decide +kernel) ⟨Nat.le_of_ble_eq_true rfl, Nat.le_of_ble_eq_true rfl⟩ hK hP hD hS mo0 hfo_95 11 rfl rfl rfl hl.1 rfl (Nat.le_of_ble_eq_true rfl) dX11_feed_39 ⟨Nat.le_of_ble_eq_true rfl, Nat.le_of_ble_eq_true rfl⟩ (fun f_116 H locs hw hP hD hS => ?_)
    obtain ⟨hG, hpost_117⟩ := hw
    refine lv_aload_n hx hb dX11_feed_42 rfl (lv_at hl 0 rfl) ?_
    obtain ⟨a_119, v_120, a_121, a_122, a_123, a_124, a_125, a_126, v_127, a_128, a_129, a_130, v_131, v_132, a_133, v_134, a_135, a_136, v_137, hfo_118, ⟨ma_119, ka_119⟩, bv_120, ⟨ma_121, ka_121⟩, ⟨ma_122, ka_122⟩, ⟨ma_123, ka_123⟩, ⟨ma_124, ka_124⟩, ⟨ma_125, ka_125⟩, ⟨ma_126, ka_126⟩, bv_127, ⟨ma_128, ka_128⟩, ⟨ma_129, ka_129⟩, ⟨ma_130, ka_130⟩, bv_131, ⟨ma_133, ka_133⟩, bv_134, ⟨ma_135, ka_135⟩, ⟨ma_136, ka_136⟩⟩ := un_11 (hG _ mo0) ko0
    have bv_132 : ((-2147483648) ≤ v_132.toInt ∧ v_132.toInt ≤ 2147483647) := ⟨i32_lo _, i32_hi _⟩
    have bv_137 : ((-2147483648) ≤ v_137.toInt ∧ v_137.toInt ≤ 2147483647) := ⟨i32_lo _, i32_hi _⟩
    have hqhfo_118 := hpost_117 v_97 v_120 (by rw [hfo_95]; rfl) (by rw [hfo_118]; rfl)
    refine tk_getP (D := (dC, dI)) (ci := 11) (v := .int v_120) (C := RX11) (T := TX11) (N := 19) hx hb hU inlX11 hown hK hP mo0 hfo_118 rfl 1 (by decide) (hU _ wd_209) (fun _ h9 => h9) rfl dX11_feed_43 ?_
    exact W.iret (v := v_120) hx hb hr (fun t ht hW => ⟨⟨v_120, f_116, rfl, ⟨hG, (by constructor <;> omega)⟩, by rw [ht]; exact hP, va_K.moved hW.alike hK, pl_in hD⟩, hS.F ht⟩) hS.2.2 dX11_feed_46
  · skip
    rw [Int32.le_iff_toInt_le, ti_600] at c_22
    refine lv_iconst (v := (-1)) hx hb dX11_feed_13 (by decide) ?_
    exact W.iret (v := (-1)) hx hb hr (fun t ht hW => ⟨⟨(-1), f, rfl, ⟨hG, (by decide)⟩, by rw [ht]; exact hP, va_K.moved hW.alike hK, pl_in hD⟩, hS.F ht⟩) hS.2.2 dX11_feed_14
set_option maxHeartbeats 8000000 in
set_option maxRecDepth 100000 in
theorem s_X11_areLetters_k11 (l : Launch) (D : va_G) (cI cL cZ cR : ClassId) (kd : Nat → Nat) (L : List Nat) (f : Nat → va_E) (hG : GI (okc cI cL cZ cR L kd) kd L f) (o0 : Nat) (mo0 : o0 ∈ L) (ko0 : kd o0 = 11) (p1 : Int32) (bp1 : (0 ≤ p1.toInt ∧ p1.toInt ≤ 600)) (p2 : Int32) (bp2 : (0 ≤ p2.toInt ∧ p2.toInt ≤ 600)) : mPI l D cI cL cZ cR yX11_areLetters cX11_areLetters 4 (some .boolean) 1 21 [.ref o0, .int p1, .int p2] L f (fun (r : Int32) (f9 : Nat → va_E) => GI (okc cI cL cZ cR L kd) kd L f9 ∧ (0 ≤ r.toInt ∧ r.toInt ≤ 1)) := by
  obtain ⟨dC, dI⟩ := D
  refine Met.ofW (cc := cX11_areLetters) (maxL := 4) (ret := (some .boolean)) (by decide) rfl ?_
  intro p e s m args below meth c s₁ B hml hv
  obtain ⟨rfl, hP, hK, hD0, hN⟩ := hv
  have hx := B.exec
  have hb := B.bytes
  have hr := B.returns
  have hU : ∀ w ∈ wsU, w.before _ s = true := fun w h => atoms_spec (ws := wU yX11_areLetters cX11_areLetters 4 (some .boolean)) B.pre w (List.mem_cons_of_mem _ h)
  have hown : s.vm.findClass RX11 = some m.cls := findClass_of_methodNamed B.named
  have hlocks := B.notSynchronized
  have hD := pl_in hD0
  have hS : va_S (fun q => q ∈ L) s.heap s.heap [] := va_S.rf
  have hl := lv_entry ([.ref o0, .int p1, .int p2]) (n := 4) (Nat.le_of_ble_eq_true rfl)
  rw [lg_entry_eq]
  generalize (lg_sl ([.ref o0, .int p1, .int p2]) ++ List.replicate (4 - (lg_sl ([.ref o0, .int p1, .int p2])).length) Slot.unset).toArray = ls at hl ⊢
  have hl : lv_has ls 4 [(0, .ref o0), (1, .int p1), (2, .int p2)] := hl
  refine lv_iload_n hx hb dX11_areLetters_0 rfl (lv_at hl 1 rfl) ?_
  refine lv_istore_n (lv' := [(3, .int p1), (0, .ref o0), (1, .int p1), (2, .int p2)]) hx hb dX11_areLetters_1 rfl hl (by decide) rfl (fun ls hl => ?_)
  have hloop_5 : ∀ (n : Nat), ∀ (y_3 : Int32), (0 ≤ y_3.toInt ∧ y_3.toInt ≤ 600) → ∀ (f_4 : Nat → va_E), GI (okc cI cL cZ cR L kd) kd L f_4 → ∀ (H : Heap) (locs : List Loc), va_P (dC, dI) vwCl (va_pl L f_4) H → va_D (fun q => q ∈ L) (va_pl L f_4) → va_S (fun q => q ∈ L) s.heap H locs → 600 - y_3.toInt < (n : Int) → ∀ (ls : Array Slot), lv_has ls 4 [(3, .int y_3), (0, .ref o0), (1, .int p1), (2, .int p2)] → W p l e (headSpec (wU yX11_areLetters cX11_areLetters 4 (some .boolean)) { frames := 1, cells := 0, slots := 0, locals := 21 }).room s m [.ref o0, .int p1, .int p2].toArray below meth c H locs 0 0 (MQ below (va_Qi (fun (r : Int32) (f9 : Nat → va_E) => GI (okc cI cL cZ cR L kd) kd L f9 ∧ (0 ≤ r.toInt ∧ r.toInt ≤ 1)) (qP (dC, dI) cI cL cZ cR L) (fun q => q ∈ L)) [.ref o0, .int p1, .int p2].toArray s 0 0 (fun q => q ∈ L)) (F0 m 2 ls []) := by
    intro n
    induction n with
    | zero => intro y_3 by_3 f_4 hG H locs hP hD hS hmuhloop_5 ls hl; exfalso; omega
    | succ n ih_hloop_5 =>
      intro y_3 by_3 f_4 hG H locs hP hD hS hmuhloop_5 ls hl
      refine lv_iload_n hx hb dX11_areLetters_2 rfl (lv_at hl 0 rfl) ?_
      refine lv_iload_n hx hb dX11_areLetters_3 rfl (lv_at hl 3 rfl) ?_
      refine lv_icmp_ge (tgt := 31) hx hb dX11_areLetters_4 (by decide) (fun c_6 => ?_) (fun c_6 => ?_)
      · skip
        rw [Int32.le_iff_toInt_le] at c_6
        refine lv_iconst (v := 1) hx hb dX11_areLetters_31 (by decide) ?_
        exact W.zret (v := 1) (ty := .boolean) hx hb hr rfl (fun t ht hW => ⟨⟨1, f_4, rfl, ⟨hG, (by decide)⟩, by rw [ht]; exact hP, va_K.moved hW.alike hK, pl_in hD⟩, hS.F ht⟩) hS.2.2 dX11_areLetters_32
      · skip
        rw [Int32.le_iff_toInt_le] at c_6
        refine lv_aload_n hx hb dX11_areLetters_7 rfl (lv_at hl 1 rfl) ?_
        obtain ⟨a_8, v_9, a_10, a_11, a_12, a_13, a_14, a_15, v_16, a_17, a_18, a_19, v_20, v_21, a_22, v_23, a_24, a_25, v_26, hfo_7, ⟨ma_8, ka_8⟩, bv_9, ⟨ma_10, ka_10⟩, ⟨ma_11, ka_11⟩, ⟨ma_12, ka_12⟩, ⟨ma_13, ka_13⟩, ⟨ma_14, ka_14⟩, ⟨ma_15, ka_15⟩, bv_16, ⟨ma_17, ka_17⟩, ⟨ma_18, ka_18⟩, ⟨ma_19, ka_19⟩, bv_20, ⟨ma_22, ka_22⟩, bv_23, ⟨ma_24, ka_24⟩, ⟨ma_25, ka_25⟩⟩ := un_11 (hG _ mo0) ko0
        have bv_21 : ((-2147483648) ≤ v_21.toInt ∧ v_21.toInt ≤ 2147483647) := ⟨i32_lo _, i32_hi _⟩
        have bv_26 : ((-2147483648) ≤ v_26.toInt ∧ v_26.toInt ≤ 2147483647) := ⟨i32_lo _, i32_hi _⟩
        refine tk_getP (D := (dC, dI)) (ci := 11) (v := .ref a_11) (C := RX11) (T := TX11) (N := 19) hx hb hU inlX11 hown hK hP mo0 hfo_7 rfl 3 (by decide) (hU _ wd_19) (fun _ h9 => h9) rfl dX11_areLetters_8 ?_
        refine lv_aload_n hx hb dX11_areLetters_11 rfl (lv_at hl 1 rfl) ?_
        refine tk_getP (D := (dC, dI)) (ci := 11) (v := .ref a_8) (C := RX11) (T := TX11) (N := 19) hx hb hU inlX11 hown hK hP mo0 hfo_7 rfl 0 (by decide) (hU _ wd_13) (fun _ h9 => h9) rfl dX11_areLetters_12 ?_
        refine lv_iload_n hx hb dX11_areLetters_15 rfl (lv_at hl 0 rfl) ?_
        obtain ⟨g_28, hfo_27, hbg_28⟩ := un_53 (hG _ ma_8) ka_8
        refine tk_ildP hx hb hK hP 0 ma_8 hfo_27 rfl (vp_in_iff.mpr (by constructor <;> omega)) dX11_areLetters_16 ?_
        refine lv_topi (fun x_29 ex_29 => ?_)
        have bx_29 : ((-2147483648) ≤ x_29.toInt ∧ x_29.toInt ≤ 2147483647) := ⟨i32_lo _, i32_hi _⟩
        obtain ⟨a_31, v_32, a_33, a_34, a_35, a_36, v_37, a_38, a_39, a_40, a_41, a_42, v_43, a_44, a_45, a_46, hfo_30, ⟨ma_31, ka_31⟩, bv_32, ⟨ma_33, ka_33⟩, ⟨ma_34, ka_34⟩, ⟨ma_35, ka_35⟩, ⟨ma_36, ka_36⟩, bv_37, ⟨ma_38, ka_38⟩, ⟨ma_39, ka_39⟩, ⟨ma_40, ka_40⟩, ⟨ma_41, ka_41⟩, ⟨ma_42, ka_42⟩, bv_43, ⟨ma_44, ka_44⟩, ⟨ma_45, ka_45⟩, ⟨ma_46, ka_46⟩⟩ := un_7 (hG _ ma_11) ka_11
        refine tk_ViP (As := [.int x_29]) (rest := []) (n := 1) hx hb hml hown hU hN (s_X7_signOf_k7 l (dC, dI) cI cL cZ cR kd L f_4 hG a_11 ma_11 ka_11 x_29) wd_717 wd_346 wd_347 wd_28 wd_348 (by decide +kernel) ⟨Nat.le_of_ble_eq_true rfl, Nat.le_of_ble_eq_true rfl⟩ hK hP hD hS ma_11 hfo_30 7 rfl rfl rfl hl.1 rfl (Nat.le_of_ble_eq_true rfl) dX11_areLetters_17 ⟨Nat.le_of_ble_eq_true rfl, Nat.le_of_ble_eq_true rfl⟩ (fun x_47 f_48 H locs hw hP hD hS => ?_)
        obtain ⟨hG, bx_47⟩ := hw
        refine lv_if_ne (tgt := 25) hx hb dX11_areLetters_20 (by decide) (fun c_49 => ?_) (fun c_49 => ?_)
        · skip
          rw [← Int32.toInt_inj, ti_0] at c_49
          obtain ⟨x_50, ex_50⟩ : ∃ y : Int32, y_3 + 1 = y := ⟨_, rfl⟩
          have hx_50 : x_50.toInt = y_3.toInt + 1 := by rw [← ex_50, ad_I (by rw [ti_1]; omega) (by rw [ti_1]; omega), ti_1]
          have bx_50 : (1 ≤ x_50.toInt ∧ x_50.toInt ≤ 600) := by constructor <;> omega
          refine lv_iinc (v := x_50) (lv' := [(3, .int x_50), (0, .ref o0), (1, .int p1), (2, .int p2)]) hx hb dX11_areLetters_25 hl (k := 0) rfl ex_50 (by decide) rfl (fun ls hl => ?_)
          refine lv_goto (tgt := 2) hx hb dX11_areLetters_28 (by decide) ?_
          exact ih_hloop_5 x_50 (by constructor <;> omega) f_48 hG _ _ hP hD hS (by omega) ls (lv_sub hl [0, 1, 2, 3] rfl)
        · skip
          rw [← Int32.toInt_inj, ti_0] at c_49
          refine lv_iconst (v := 0) hx hb dX11_areLetters_23 (by decide) ?_
          exact W.zret (v := 0) (ty := .boolean) hx hb hr rfl (fun t ht hW => ⟨⟨0, f_48, rfl, ⟨hG, (by decide)⟩, by rw [ht]; exact hP, va_K.moved hW.alike hK, pl_in hD⟩, hS.F ht⟩) hS.2.2 dX11_areLetters_24
  exact hloop_5 601 p1 (by constructor <;> omega) f hG _ _ hP hD hS (by omega) ls hl
set_option maxHeartbeats 8000000 in
set_option maxRecDepth 100000 in
theorem s_X11_placeOfColon_k11 (l : Launch) (D : va_G) (cI cL cZ cR : ClassId) (kd : Nat → Nat) (L : List Nat) (f : Nat → va_E) (hG : GI (okc cI cL cZ cR L kd) kd L f) (o0 : Nat) (mo0 : o0 ∈ L) (ko0 : kd o0 = 11) (p1 : Int32) (bp1 : (0 ≤ p1.toInt ∧ p1.toInt ≤ 600)) : mPI l D cI cL cZ cR yX11_placeOfColon cX11_placeOfColon 3 (some .int) 0 0 [.ref o0, .int p1] L f (fun (r : Int32) (f9 : Nat → va_E) => GI (okc cI cL cZ cR L kd) kd L f9 ∧ ((-1) ≤ r.toInt ∧ r.toInt ≤ 599)) := by
  obtain ⟨dC, dI⟩ := D
  refine Met.ofW (cc := cX11_placeOfColon) (maxL := 3) (ret := (some .int)) (by decide) rfl ?_
  intro p e s m args below meth c s₁ B hml hv
  obtain ⟨rfl, hP, hK, hD0, hN⟩ := hv
  have hx := B.exec
  have hb := B.bytes
  have hr := B.returns
  have hU : ∀ w ∈ wsU, w.before _ s = true := fun w h => atoms_spec (ws := wU yX11_placeOfColon cX11_placeOfColon 3 (some .int)) B.pre w (List.mem_cons_of_mem _ h)
  have hown : s.vm.findClass RX11 = some m.cls := findClass_of_methodNamed B.named
  have hlocks := B.notSynchronized
  have hD := pl_in hD0
  have hS : va_S (fun q => q ∈ L) s.heap s.heap [] := va_S.rf
  have hl := lv_entry ([.ref o0, .int p1]) (n := 3) (Nat.le_of_ble_eq_true rfl)
  rw [lg_entry_eq]
  generalize (lg_sl ([.ref o0, .int p1]) ++ List.replicate (3 - (lg_sl ([.ref o0, .int p1])).length) Slot.unset).toArray = ls at hl ⊢
  have hl : lv_has ls 3 [(0, .ref o0), (1, .int p1)] := hl
  refine lv_iconst (v := 0) hx hb dX11_placeOfColon_0 (by decide) ?_
  refine lv_istore_n (lv' := [(2, .int 0), (0, .ref o0), (1, .int p1)]) hx hb dX11_placeOfColon_1 rfl hl (by decide) rfl (fun ls hl => ?_)
  have hloop_5 : ∀ (n : Nat), ∀ (y_4 : Int32), (0 ≤ y_4.toInt ∧ y_4.toInt ≤ 600) → 600 - y_4.toInt < (n : Int) → ∀ (ls : Array Slot), lv_has ls 3 [(2, .int y_4), (0, .ref o0), (1, .int p1)] → W p l e (headSpec (wU yX11_placeOfColon cX11_placeOfColon 3 (some .int)) { frames := 0, cells := 0, slots := 0, locals := 0 }).room s m [.ref o0, .int p1].toArray below meth c s.heap [] 0 0 (MQ below (va_Qi (fun (r : Int32) (f9 : Nat → va_E) => GI (okc cI cL cZ cR L kd) kd L f9 ∧ ((-1) ≤ r.toInt ∧ r.toInt ≤ 599)) (qP (dC, dI) cI cL cZ cR L) (fun q => q ∈ L)) [.ref o0, .int p1].toArray s 0 0 (fun q => q ∈ L)) (F0 m 2 ls []) := by
    intro n
    induction n with
    | zero => intro y_4 by_4 hmuhloop_5 ls hl; exfalso; omega
    | succ n ih_hloop_5 =>
      intro y_4 by_4 hmuhloop_5 ls hl
      refine lv_iload_n hx hb dX11_placeOfColon_2 rfl (lv_at hl 0 rfl) ?_
      refine lv_iload_n hx hb dX11_placeOfColon_3 rfl (lv_at hl 2 rfl) ?_
      refine lv_icmp_ge (tgt := 26) hx hb dX11_placeOfColon_4 (by decide) (fun c_6 => ?_) (fun c_6 => ?_)
      · skip
        rw [Int32.le_iff_toInt_le] at c_6
        refine lv_iconst (v := (-1)) hx hb dX11_placeOfColon_26 (by decide) ?_
        exact W.iret (v := (-1)) hx hb hr (fun t ht hW => ⟨⟨(-1), f, rfl, ⟨hG, (by decide)⟩, by rw [ht]; exact hP, va_K.moved hW.alike hK, pl_in hD⟩, hS.F ht⟩) hS.2.2 dX11_placeOfColon_27
      · skip
        rw [Int32.le_iff_toInt_le] at c_6
        refine lv_aload_n hx hb dX11_placeOfColon_7 rfl (lv_at hl 1 rfl) ?_
        obtain ⟨a_8, v_9, a_10, a_11, a_12, a_13, a_14, a_15, v_16, a_17, a_18, a_19, v_20, v_21, a_22, v_23, a_24, a_25, v_26, hfo_7, ⟨ma_8, ka_8⟩, bv_9, ⟨ma_10, ka_10⟩, ⟨ma_11, ka_11⟩, ⟨ma_12, ka_12⟩, ⟨ma_13, ka_13⟩, ⟨ma_14, ka_14⟩, ⟨ma_15, ka_15⟩, bv_16, ⟨ma_17, ka_17⟩, ⟨ma_18, ka_18⟩, ⟨ma_19, ka_19⟩, bv_20, ⟨ma_22, ka_22⟩, bv_23, ⟨ma_24, ka_24⟩, ⟨ma_25, ka_25⟩⟩ := un_11 (hG _ mo0) ko0
        have bv_21 : ((-2147483648) ≤ v_21.toInt ∧ v_21.toInt ≤ 2147483647) := ⟨i32_lo _, i32_hi _⟩
        have bv_26 : ((-2147483648) ≤ v_26.toInt ∧ v_26.toInt ≤ 2147483647) := ⟨i32_lo _, i32_hi _⟩
        refine tk_getP (D := (dC, dI)) (ci := 11) (v := .ref a_8) (C := RX11) (T := TX11) (N := 19) hx hb hU inlX11 hown hK hP mo0 hfo_7 rfl 0 (by decide) (hU _ wd_13) (fun _ h9 => h9) rfl dX11_placeOfColon_8 ?_
        refine lv_iload_n hx hb dX11_placeOfColon_11 rfl (lv_at hl 0 rfl) ?_
        obtain ⟨g_28, hfo_27, hbg_28⟩ := un_53 (hG _ ma_8) ka_8
        refine tk_ildP hx hb hK hP 0 ma_8 hfo_27 rfl (vp_in_iff.mpr (by constructor <;> omega)) dX11_placeOfColon_12 ?_
        refine lv_topi (fun x_29 ex_29 => ?_)
        have bx_29 : ((-2147483648) ≤ x_29.toInt ∧ x_29.toInt ≤ 2147483647) := ⟨i32_lo _, i32_hi _⟩
        refine lv_bipush (v := 58) hx hb dX11_placeOfColon_13 (by decide) ?_
        refine lv_icmp_ne (tgt := 20) hx hb dX11_placeOfColon_15 (by decide) (fun c_30 => ?_) (fun c_30 => ?_)
        · skip
          rw [← Int32.toInt_inj, ti_58] at c_30
          obtain ⟨x_31, ex_31⟩ : ∃ y : Int32, y_4 + 1 = y := ⟨_, rfl⟩
          have hx_31 : x_31.toInt = y_4.toInt + 1 := by rw [← ex_31, ad_I (by rw [ti_1]; omega) (by rw [ti_1]; omega), ti_1]
          have bx_31 : (1 ≤ x_31.toInt ∧ x_31.toInt ≤ 600) := by constructor <;> omega
          refine lv_iinc (v := x_31) (lv' := [(2, .int x_31), (0, .ref o0), (1, .int p1)]) hx hb dX11_placeOfColon_20 hl (k := 0) rfl ex_31 (by decide) rfl (fun ls hl => ?_)
          refine lv_goto (tgt := 2) hx hb dX11_placeOfColon_23 (by decide) ?_
          exact ih_hloop_5 x_31 (by constructor <;> omega) (by omega) ls (lv_sub hl [0, 1, 2] rfl)
        · skip
          rw [← Int32.toInt_inj, ti_58] at c_30
          refine lv_iload_n hx hb dX11_placeOfColon_18 rfl (lv_at hl 0 rfl) ?_
          exact W.iret (v := y_4) hx hb hr (fun t ht hW => ⟨⟨y_4, f, rfl, ⟨hG, (by constructor <;> omega)⟩, by rw [ht]; exact hP, va_K.moved hW.alike hK, pl_in hD⟩, hS.F ht⟩) hS.2.2 dX11_placeOfColon_19
  exact hloop_5 601 0 (by decide) (by (try simp only [ti_0]); omega) ls hl
set_option maxHeartbeats 8000000 in
set_option maxRecDepth 100000 in
theorem s_X11_rule_k11 (l : Launch) (D : va_G) (cI cL cZ cR : ClassId) (kd : Nat → Nat) (L : List Nat) (f : Nat → va_E) (hG : GI (okc cI cL cZ cR L kd) kd L f) (o0 : Nat) (mo0 : o0 ∈ L) (ko0 : kd o0 = 11) (p1 : Int32) (p2 : Int32) : mPI l D cI cL cZ cR yX11_rule cX11_rule 4 (some .int) 1 21 [.ref o0, .int p1, .int p2] L f (fun (r : Int32) (f9 : Nat → va_E) => GI (okc cI cL cZ cR L kd) kd L f9 ∧ ((-2147483648) ≤ r.toInt ∧ r.toInt ≤ 2147483647)) := by
  obtain ⟨dC, dI⟩ := D
  refine Met.ofW (cc := cX11_rule) (maxL := 4) (ret := (some .int)) (by decide) rfl ?_
  intro p e s m args below meth c s₁ B hml hv
  obtain ⟨rfl, hP, hK, hD0, hN⟩ := hv
  have hx := B.exec
  have hb := B.bytes
  have hr := B.returns
  have hU : ∀ w ∈ wsU, w.before _ s = true := fun w h => atoms_spec (ws := wU yX11_rule cX11_rule 4 (some .int)) B.pre w (List.mem_cons_of_mem _ h)
  have hown : s.vm.findClass RX11 = some m.cls := findClass_of_methodNamed B.named
  have hlocks := B.notSynchronized
  have hD := pl_in hD0
  have hS : va_S (fun q => q ∈ L) s.heap s.heap [] := va_S.rf
  have hl := lv_entry ([.ref o0, .int p1, .int p2]) (n := 4) (Nat.le_of_ble_eq_true rfl)
  rw [lg_entry_eq]
  generalize (lg_sl ([.ref o0, .int p1, .int p2]) ++ List.replicate (4 - (lg_sl ([.ref o0, .int p1, .int p2])).length) Slot.unset).toArray = ls at hl ⊢
  have hl : lv_has ls 4 [(0, .ref o0), (1, .int p1), (2, .int p2)] := hl
  have bp1 : ((-2147483648) ≤ p1.toInt ∧ p1.toInt ≤ 2147483647) := ⟨i32_lo _, i32_hi _⟩
  have bp2 : ((-2147483648) ≤ p2.toInt ∧ p2.toInt ≤ 2147483647) := ⟨i32_lo _, i32_hi _⟩
  refine lv_aload_n hx hb dX11_rule_0 rfl (lv_at hl 0 rfl) ?_
  refine lv_iload_n hx hb dX11_rule_1 rfl (lv_at hl 1 rfl) ?_
  obtain ⟨a_2, v_3, a_4, a_5, a_6, a_7, a_8, a_9, v_10, a_11, a_12, a_13, v_14, v_15, a_16, v_17, a_18, a_19, v_20, hfo_1, ⟨ma_2, ka_2⟩, bv_3, ⟨ma_4, ka_4⟩, ⟨ma_5, ka_5⟩, ⟨ma_6, ka_6⟩, ⟨ma_7, ka_7⟩, ⟨ma_8, ka_8⟩, ⟨ma_9, ka_9⟩, bv_10, ⟨ma_11, ka_11⟩, ⟨ma_12, ka_12⟩, ⟨ma_13, ka_13⟩, bv_14, ⟨ma_16, ka_16⟩, bv_17, ⟨ma_18, ka_18⟩, ⟨ma_19, ka_19⟩⟩ := un_11 (hG _ mo0) ko0
  have bv_15 : ((-2147483648) ≤ v_15.toInt ∧ v_15.toInt ≤ 2147483647) := ⟨i32_lo _, i32_hi _⟩
  have bv_20 : ((-2147483648) ≤ v_20.toInt ∧ v_20.toInt ≤ 2147483647) := ⟨i32_lo _, i32_hi _⟩
  refine tk_ViP (As := [.int p1]) (rest := []) (n := 1) hx hb hml hown hU hN (s_X11_isRule_k11 l (dC, dI) cI cL cZ cR kd L f hG o0 mo0 ko0 p1) wd_1135 wd_1136 wd_1137 wd_2 wd_1138 (by decide +kernel) ⟨Nat.le_of_ble_eq_true rfl, Nat.le_of_ble_eq_true rfl⟩ hK hP hD hS mo0 hfo_1 11 rfl rfl rfl hl.1 rfl (Nat.le_of_ble_eq_true rfl) dX11_rule_2 ⟨Nat.le_of_ble_eq_true rfl, Nat.le_of_ble_eq_true rfl⟩ (fun x_21 f_22 H locs hw hP hD hS => ?_)
  obtain ⟨hG, bx_21, relx_21⟩ := hw
  refine lv_if_ne (tgt := 10) hx hb dX11_rule_5 (by decide) (fun c_23 => ?_) (fun c_23 => ?_)
  · skip
    rw [← Int32.toInt_inj, ti_0] at c_23
    refine lv_aload_n hx hb dX11_rule_10 rfl (lv_at hl 0 rfl) ?_
    obtain ⟨a_25, v_26, a_27, a_28, a_29, a_30, a_31, a_32, v_33, a_34, a_35, a_36, v_37, v_38, a_39, v_40, a_41, a_42, v_43, hfo_24, ⟨ma_25, ka_25⟩, bv_26, ⟨ma_27, ka_27⟩, ⟨ma_28, ka_28⟩, ⟨ma_29, ka_29⟩, ⟨ma_30, ka_30⟩, ⟨ma_31, ka_31⟩, ⟨ma_32, ka_32⟩, bv_33, ⟨ma_34, ka_34⟩, ⟨ma_35, ka_35⟩, ⟨ma_36, ka_36⟩, bv_37, ⟨ma_39, ka_39⟩, bv_40, ⟨ma_41, ka_41⟩, ⟨ma_42, ka_42⟩⟩ := un_11 (hG _ mo0) ko0
    have bv_38 : ((-2147483648) ≤ v_38.toInt ∧ v_38.toInt ≤ 2147483647) := ⟨i32_lo _, i32_hi _⟩
    have bv_43 : ((-2147483648) ≤ v_43.toInt ∧ v_43.toInt ≤ 2147483647) := ⟨i32_lo _, i32_hi _⟩
    refine tk_getP (D := (dC, dI)) (ci := 11) (v := .ref a_28) (C := RX11) (T := TX11) (N := 19) hx hb hU inlX11 hown hK hP mo0 hfo_24 rfl 3 (by decide) (hU _ wd_19) (fun _ h9 => h9) rfl dX11_rule_11 ?_
    obtain ⟨a_45, v_46, a_47, a_48, a_49, a_50, v_51, a_52, a_53, a_54, a_55, a_56, v_57, a_58, a_59, a_60, hfo_44, ⟨ma_45, ka_45⟩, bv_46, ⟨ma_47, ka_47⟩, ⟨ma_48, ka_48⟩, ⟨ma_49, ka_49⟩, ⟨ma_50, ka_50⟩, bv_51, ⟨ma_52, ka_52⟩, ⟨ma_53, ka_53⟩, ⟨ma_54, ka_54⟩, ⟨ma_55, ka_55⟩, ⟨ma_56, ka_56⟩, bv_57, ⟨ma_58, ka_58⟩, ⟨ma_59, ka_59⟩, ⟨ma_60, ka_60⟩⟩ := un_7 (hG _ ma_28) ka_28
    refine tk_getP (D := (dC, dI)) (ci := 7) (v := .ref a_56) (C := RX7) (T := TX7) (N := 16) hx hb hU inlX7 hown hK hP ma_28 hfo_44 rfl 11 (by decide) (hU _ wd_1070) (fun _ h9 => h9) rfl dX11_rule_14 ?_
    refine lv_iload_n hx hb dX11_rule_17 rfl (lv_at hl 1 rfl) ?_
    obtain ⟨g_62, hfo_61, hbg_62⟩ := un_35 (hG _ ma_56) ka_56
    obtain ⟨a_63, hga_63, ma_63, ka_63⟩ := hbg_62 (Int32.toNatClampNeg p1) (in_lt (vp_in_iff.mpr (by constructor <;> omega)))
    refine tk_aldP hx hb hK hP 3 ma_56 hfo_61 rfl (vp_in_iff.mpr (by constructor <;> omega)) hga_63 dX11_rule_18 ?_
    refine lv_astore_n (lv' := [(3, .ref a_63), (0, .ref o0), (1, .int p1), (2, .int p2)]) hx hb dX11_rule_19 rfl hl (by decide) rfl (fun ls hl => ?_)
    refine lv_iload_n hx hb dX11_rule_20 rfl (lv_at hl 3 rfl) ?_
    by_cases c_64 : p2 = 0
    · refine tk_topi (y := 0) c_64 ?_
      refine lv_tableIn (tgt := 56) hx hb dX11_rule_21 (by decide) (by decide) rfl (by decide) ?_
      refine lv_aload_n hx hb dX11_rule_56 rfl (lv_at hl 0 rfl) ?_
      obtain ⟨v_66, v_67, v_68, v_69, a_70, a_71, a_72, a_73, v_74, v_75, v_76, hfo_65, bv_66, bv_67, bv_68, bv_69, ⟨ma_70, ka_70⟩, ⟨ma_71, ka_71⟩, ⟨ma_72, ka_72⟩, ⟨ma_73, ka_73⟩⟩ := un_4 (hG _ ma_63) ka_63
      have bv_74 : ((-2147483648) ≤ v_74.toInt ∧ v_74.toInt ≤ 2147483647) := ⟨i32_lo _, i32_hi _⟩
      have bv_75 : ((-2147483648) ≤ v_75.toInt ∧ v_75.toInt ≤ 2147483647) := ⟨i32_lo _, i32_hi _⟩
      have bv_76 : ((-2147483648) ≤ v_76.toInt ∧ v_76.toInt ≤ 2147483647) := ⟨i32_lo _, i32_hi _⟩
      refine tk_getP (D := (dC, dI)) (ci := 4) (v := .int v_66) (C := RX4) (T := TX4) (N := 11) hx hb hU inlX4 hown hK hP ma_63 hfo_65 rfl 0 (by decide) (hU _ wd_1460) (fun _ h9 => h9) rfl dX11_rule_57 ?_
      exact W.iret (v := v_66) hx hb hr (fun t ht hW => ⟨⟨v_66, f_22, rfl, ⟨hG, (by constructor <;> omega)⟩, by rw [ht]; exact hP, va_K.moved hW.alike hK, pl_in hD⟩, hS.F ht⟩) hS.2.2 dX11_rule_60
    by_cases c_77 : p2 = 1
    · refine tk_topi (y := 1) c_77 ?_
      refine lv_tableIn (tgt := 61) hx hb dX11_rule_21 (by decide) (by decide) rfl (by decide) ?_
      refine lv_aload_n hx hb dX11_rule_61 rfl (lv_at hl 0 rfl) ?_
      obtain ⟨v_79, v_80, v_81, v_82, a_83, a_84, a_85, a_86, v_87, v_88, v_89, hfo_78, bv_79, bv_80, bv_81, bv_82, ⟨ma_83, ka_83⟩, ⟨ma_84, ka_84⟩, ⟨ma_85, ka_85⟩, ⟨ma_86, ka_86⟩⟩ := un_4 (hG _ ma_63) ka_63
      have bv_87 : ((-2147483648) ≤ v_87.toInt ∧ v_87.toInt ≤ 2147483647) := ⟨i32_lo _, i32_hi _⟩
      have bv_88 : ((-2147483648) ≤ v_88.toInt ∧ v_88.toInt ≤ 2147483647) := ⟨i32_lo _, i32_hi _⟩
      have bv_89 : ((-2147483648) ≤ v_89.toInt ∧ v_89.toInt ≤ 2147483647) := ⟨i32_lo _, i32_hi _⟩
      refine tk_getP (D := (dC, dI)) (ci := 4) (v := .int v_80) (C := RX4) (T := TX4) (N := 11) hx hb hU inlX4 hown hK hP ma_63 hfo_78 rfl 1 (by decide) (hU _ wd_1461) (fun _ h9 => h9) rfl dX11_rule_62 ?_
      exact W.iret (v := v_80) hx hb hr (fun t ht hW => ⟨⟨v_80, f_22, rfl, ⟨hG, (by constructor <;> omega)⟩, by rw [ht]; exact hP, va_K.moved hW.alike hK, pl_in hD⟩, hS.F ht⟩) hS.2.2 dX11_rule_65
    by_cases c_90 : p2 = 2
    · refine tk_topi (y := 2) c_90 ?_
      refine lv_tableIn (tgt := 66) hx hb dX11_rule_21 (by decide) (by decide) rfl (by decide) ?_
      refine lv_aload_n hx hb dX11_rule_66 rfl (lv_at hl 0 rfl) ?_
      obtain ⟨v_92, v_93, v_94, v_95, a_96, a_97, a_98, a_99, v_100, v_101, v_102, hfo_91, bv_92, bv_93, bv_94, bv_95, ⟨ma_96, ka_96⟩, ⟨ma_97, ka_97⟩, ⟨ma_98, ka_98⟩, ⟨ma_99, ka_99⟩⟩ := un_4 (hG _ ma_63) ka_63
      have bv_100 : ((-2147483648) ≤ v_100.toInt ∧ v_100.toInt ≤ 2147483647) := ⟨i32_lo _, i32_hi _⟩
      have bv_101 : ((-2147483648) ≤ v_101.toInt ∧ v_101.toInt ≤ 2147483647) := ⟨i32_lo _, i32_hi _⟩
      have bv_102 : ((-2147483648) ≤ v_102.toInt ∧ v_102.toInt ≤ 2147483647) := ⟨i32_lo _, i32_hi _⟩
      refine tk_getP (D := (dC, dI)) (ci := 4) (v := .int v_94) (C := RX4) (T := TX4) (N := 11) hx hb hU inlX4 hown hK hP ma_63 hfo_91 rfl 2 (by decide) (hU _ wd_1462) (fun _ h9 => h9) rfl dX11_rule_67 ?_
      exact W.iret (v := v_94) hx hb hr (fun t ht hW => ⟨⟨v_94, f_22, rfl, ⟨hG, (by constructor <;> omega)⟩, by rw [ht]; exact hP, va_K.moved hW.alike hK, pl_in hD⟩, hS.F ht⟩) hS.2.2 dX11_rule_70
    by_cases c_103 : p2 = 3
    · refine tk_topi (y := 3) c_103 ?_
      refine lv_tableIn (tgt := 71) hx hb dX11_rule_21 (by decide) (by decide) rfl (by decide) ?_
      refine lv_aload_n hx hb dX11_rule_71 rfl (lv_at hl 0 rfl) ?_
      obtain ⟨v_105, v_106, v_107, v_108, a_109, a_110, a_111, a_112, v_113, v_114, v_115, hfo_104, bv_105, bv_106, bv_107, bv_108, ⟨ma_109, ka_109⟩, ⟨ma_110, ka_110⟩, ⟨ma_111, ka_111⟩, ⟨ma_112, ka_112⟩⟩ := un_4 (hG _ ma_63) ka_63
      have bv_113 : ((-2147483648) ≤ v_113.toInt ∧ v_113.toInt ≤ 2147483647) := ⟨i32_lo _, i32_hi _⟩
      have bv_114 : ((-2147483648) ≤ v_114.toInt ∧ v_114.toInt ≤ 2147483647) := ⟨i32_lo _, i32_hi _⟩
      have bv_115 : ((-2147483648) ≤ v_115.toInt ∧ v_115.toInt ≤ 2147483647) := ⟨i32_lo _, i32_hi _⟩
      refine tk_getP (D := (dC, dI)) (ci := 4) (v := .int v_108) (C := RX4) (T := TX4) (N := 11) hx hb hU inlX4 hown hK hP ma_63 hfo_104 rfl 3 (by decide) (hU _ wd_1463) (fun _ h9 => h9) rfl dX11_rule_72 ?_
      exact W.iret (v := v_108) hx hb hr (fun t ht hW => ⟨⟨v_108, f_22, rfl, ⟨hG, (by constructor <;> omega)⟩, by rw [ht]; exact hP, va_K.moved hW.alike hK, pl_in hD⟩, hS.F ht⟩) hS.2.2 dX11_rule_75
    by_cases c_116 : p2 = 4
    · refine tk_topi (y := 4) c_116 ?_
      refine lv_tableIn (tgt := 76) hx hb dX11_rule_21 (by decide) (by decide) rfl (by decide) ?_
      refine lv_aload_n hx hb dX11_rule_76 rfl (lv_at hl 1 rfl) ?_
      refine tk_getP (D := (dC, dI)) (ci := 11) (v := .ref a_30) (C := RX11) (T := TX11) (N := 19) hx hb hU inlX11 hown hK hP mo0 hfo_24 rfl 5 (by decide) (hU _ wd_25) (fun _ h9 => h9) rfl dX11_rule_77 ?_
      obtain ⟨v_118, v_119, a_120, a_121, a_122, v_123, a_124, a_125, a_126, hfo_117, bv_119, ⟨ma_120, ka_120⟩, ⟨ma_121, ka_121⟩, ⟨ma_122, ka_122⟩, ⟨ma_124, ka_124⟩, ⟨ma_125, ka_125⟩, ⟨ma_126, ka_126⟩⟩ := un_6 (hG _ ma_30) ka_30
      have bv_118 : ((-2147483648) ≤ v_118.toInt ∧ v_118.toInt ≤ 2147483647) := ⟨i32_lo _, i32_hi _⟩
      have bv_123 : ((-2147483648) ≤ v_123.toInt ∧ v_123.toInt ≤ 2147483647) := ⟨i32_lo _, i32_hi _⟩
      refine tk_getP (D := (dC, dI)) (ci := 6) (v := .int v_118) (C := RX6) (T := TX6) (N := 9) hx hb hU inlX6 hown hK hP ma_30 hfo_117 rfl 0 (by decide) (hU _ wd_677) (fun _ h9 => h9) rfl dX11_rule_80 ?_
      refine lv_iload_n hx hb dX11_rule_83 rfl (lv_at hl 2 rfl) ?_
      refine lv_ishr hx hb dX11_rule_84 ?_
      refine lv_topi (fun x_127 ex_127 => ?_)
      have bx_127 : ((-2147483648) ≤ x_127.toInt ∧ x_127.toInt ≤ 2147483647) := ⟨i32_lo _, i32_hi _⟩
      refine lv_iconst (v := 1) hx hb dX11_rule_85 (by decide) ?_
      refine lv_iand hx hb dX11_rule_86 ?_
      refine lv_topi (fun x_128 ex_128 => ?_)
      have bx_128 : (0 ≤ x_128.toInt ∧ x_128.toInt ≤ 1) := by rw [ex_128]; have h8 := an_C x_127 (m := 1) (by decide); rw [ti_1] at h8; exact h8
      exact W.iret (v := x_128) hx hb hr (fun t ht hW => ⟨⟨x_128, f_22, rfl, ⟨hG, (by constructor <;> omega)⟩, by rw [ht]; exact hP, va_K.moved hW.alike hK, pl_in hD⟩, hS.F ht⟩) hS.2.2 dX11_rule_87
    rw [← Int32.toInt_inj, ti_0] at c_64
    rw [← Int32.toInt_inj, ti_1] at c_77
    rw [← Int32.toInt_inj, ti_2] at c_90
    rw [← Int32.toInt_inj, ti_3] at c_103
    rw [← Int32.toInt_inj, ti_4] at c_116
    refine lv_tableOut (tgt := 88) hx hb dX11_rule_21 (by omega) (by decide) ?_
    refine lv_iconst (v := (-1)) hx hb dX11_rule_88 (by decide) ?_
    exact W.iret (v := (-1)) hx hb hr (fun t ht hW => ⟨⟨(-1), f_22, rfl, ⟨hG, (by decide)⟩, by rw [ht]; exact hP, va_K.moved hW.alike hK, pl_in hD⟩, hS.F ht⟩) hS.2.2 dX11_rule_89
  · skip
    rw [← Int32.toInt_inj, ti_0] at c_23
    refine lv_iconst (v := (-1)) hx hb dX11_rule_8 (by decide) ?_
    exact W.iret (v := (-1)) hx hb hr (fun t ht hW => ⟨⟨(-1), f_22, rfl, ⟨hG, (by decide)⟩, by rw [ht]; exact hP, va_K.moved hW.alike hK, pl_in hD⟩, hS.F ht⟩) hS.2.2 dX11_rule_9
set_option maxHeartbeats 8000000 in
set_option maxRecDepth 100000 in
theorem s_X11_order_k11 (l : Launch) (D : va_G) (cI cL cZ cR : ClassId) (kd : Nat → Nat) (L : List Nat) (f : Nat → va_E) (hG : GI (okc cI cL cZ cR L kd) kd L f) (o0 : Nat) (mo0 : o0 ∈ L) (ko0 : kd o0 = 11) (p1 : Int32) (p2 : Int32) : mPI l D cI cL cZ cR yX11_order cX11_order 3 (some .boolean) 1 24 [.ref o0, .int p1, .int p2] L f (fun (r : Int32) (f9 : Nat → va_E) => GI (okc cI cL cZ cR L kd) kd L f9 ∧ (0 ≤ r.toInt ∧ r.toInt ≤ 1)) := by
  obtain ⟨dC, dI⟩ := D
  refine Met.ofW (cc := cX11_order) (maxL := 3) (ret := (some .boolean)) (by decide) rfl ?_
  intro p e s m args below meth c s₁ B hml hv
  obtain ⟨rfl, hP, hK, hD0, hN⟩ := hv
  have hx := B.exec
  have hb := B.bytes
  have hr := B.returns
  have hU : ∀ w ∈ wsU, w.before _ s = true := fun w h => atoms_spec (ws := wU yX11_order cX11_order 3 (some .boolean)) B.pre w (List.mem_cons_of_mem _ h)
  have hown : s.vm.findClass RX11 = some m.cls := findClass_of_methodNamed B.named
  have hlocks := B.notSynchronized
  have hD := pl_in hD0
  have hS : va_S (fun q => q ∈ L) s.heap s.heap [] := va_S.rf
  have hl := lv_entry ([.ref o0, .int p1, .int p2]) (n := 3) (Nat.le_of_ble_eq_true rfl)
  rw [lg_entry_eq]
  generalize (lg_sl ([.ref o0, .int p1, .int p2]) ++ List.replicate (3 - (lg_sl ([.ref o0, .int p1, .int p2])).length) Slot.unset).toArray = ls at hl ⊢
  have hl : lv_has ls 3 [(0, .ref o0), (1, .int p1), (2, .int p2)] := hl
  have bp1 : ((-2147483648) ≤ p1.toInt ∧ p1.toInt ≤ 2147483647) := ⟨i32_lo _, i32_hi _⟩
  have bp2 : ((-2147483648) ≤ p2.toInt ∧ p2.toInt ≤ 2147483647) := ⟨i32_lo _, i32_hi _⟩
  refine lv_aload_n hx hb dX11_order_0 rfl (lv_at hl 0 rfl) ?_
  refine lv_iload_n hx hb dX11_order_1 rfl (lv_at hl 1 rfl) ?_
  obtain ⟨a_2, v_3, a_4, a_5, a_6, a_7, a_8, a_9, v_10, a_11, a_12, a_13, v_14, v_15, a_16, v_17, a_18, a_19, v_20, hfo_1, ⟨ma_2, ka_2⟩, bv_3, ⟨ma_4, ka_4⟩, ⟨ma_5, ka_5⟩, ⟨ma_6, ka_6⟩, ⟨ma_7, ka_7⟩, ⟨ma_8, ka_8⟩, ⟨ma_9, ka_9⟩, bv_10, ⟨ma_11, ka_11⟩, ⟨ma_12, ka_12⟩, ⟨ma_13, ka_13⟩, bv_14, ⟨ma_16, ka_16⟩, bv_17, ⟨ma_18, ka_18⟩, ⟨ma_19, ka_19⟩⟩ := un_11 (hG _ mo0) ko0
  have bv_15 : ((-2147483648) ≤ v_15.toInt ∧ v_15.toInt ≤ 2147483647) := ⟨i32_lo _, i32_hi _⟩
  have bv_20 : ((-2147483648) ≤ v_20.toInt ∧ v_20.toInt ≤ 2147483647) := ⟨i32_lo _, i32_hi _⟩
  refine tk_ViP (As := [.int p1]) (rest := []) (n := 1) hx hb hml hown hU hN (s_X11_isRule_k11 l (dC, dI) cI cL cZ cR kd L f hG o0 mo0 ko0 p1) wd_1135 wd_1136 wd_1137 wd_2 wd_1138 (by decide +kernel) ⟨Nat.le_of_ble_eq_true rfl, Nat.le_of_ble_eq_true rfl⟩ hK hP hD hS mo0 hfo_1 11 rfl rfl rfl hl.1 rfl (Nat.le_of_ble_eq_true rfl) dX11_order_2 ⟨Nat.le_of_ble_eq_true rfl, Nat.le_of_ble_eq_true rfl⟩ (fun x_21 f_22 H locs hw hP hD hS => ?_)
  obtain ⟨hG, bx_21, relx_21⟩ := hw
  refine lv_if_eq (tgt := 16) hx hb dX11_order_5 (by decide) (fun c_23 => ?_) (fun c_23 => ?_)
  · skip
    rw [← Int32.toInt_inj, ti_0] at c_23
    refine lv_iconst (v := 0) hx hb dX11_order_16 (by decide) ?_
    exact W.zret (v := 0) (ty := .boolean) hx hb hr rfl (fun t ht hW => ⟨⟨0, f_22, rfl, ⟨hG, (by decide)⟩, by rw [ht]; exact hP, va_K.moved hW.alike hK, pl_in hD⟩, hS.F ht⟩) hS.2.2 dX11_order_17
  · skip
    rw [← Int32.toInt_inj, ti_0] at c_23
    refine lv_aload_n hx hb dX11_order_8 rfl (lv_at hl 0 rfl) ?_
    refine lv_iload_n hx hb dX11_order_9 rfl (lv_at hl 2 rfl) ?_
    obtain ⟨a_25, v_26, a_27, a_28, a_29, a_30, a_31, a_32, v_33, a_34, a_35, a_36, v_37, v_38, a_39, v_40, a_41, a_42, v_43, hfo_24, ⟨ma_25, ka_25⟩, bv_26, ⟨ma_27, ka_27⟩, ⟨ma_28, ka_28⟩, ⟨ma_29, ka_29⟩, ⟨ma_30, ka_30⟩, ⟨ma_31, ka_31⟩, ⟨ma_32, ka_32⟩, bv_33, ⟨ma_34, ka_34⟩, ⟨ma_35, ka_35⟩, ⟨ma_36, ka_36⟩, bv_37, ⟨ma_39, ka_39⟩, bv_40, ⟨ma_41, ka_41⟩, ⟨ma_42, ka_42⟩⟩ := un_11 (hG _ mo0) ko0
    have bv_38 : ((-2147483648) ≤ v_38.toInt ∧ v_38.toInt ≤ 2147483647) := ⟨i32_lo _, i32_hi _⟩
    have bv_43 : ((-2147483648) ≤ v_43.toInt ∧ v_43.toInt ≤ 2147483647) := ⟨i32_lo _, i32_hi _⟩
    refine tk_ViP (As := [.int p2]) (rest := []) (n := 1) hx hb hml hown hU hN (s_X11_isRule_k11 l (dC, dI) cI cL cZ cR kd L f_22 hG o0 mo0 ko0 p2) wd_1135 wd_1136 wd_1137 wd_2 wd_1138 (by decide +kernel) ⟨Nat.le_of_ble_eq_true rfl, Nat.le_of_ble_eq_true rfl⟩ hK hP hD hS mo0 hfo_24 11 rfl rfl rfl hl.1 rfl (Nat.le_of_ble_eq_true rfl) dX11_order_10 ⟨Nat.le_of_ble_eq_true rfl, Nat.le_of_ble_eq_true rfl⟩ (fun x_44 f_45 H locs hw hP hD hS => ?_)
    obtain ⟨hG, bx_44, relx_44⟩ := hw
    refine lv_if_ne (tgt := 18) hx hb dX11_order_13 (by decide) (fun c_46 => ?_) (fun c_46 => ?_)
    · skip
      rw [← Int32.toInt_inj, ti_0] at c_46
      refine lv_aload_n hx hb dX11_order_18 rfl (lv_at hl 0 rfl) ?_
      obtain ⟨a_48, v_49, a_50, a_51, a_52, a_53, a_54, a_55, v_56, a_57, a_58, a_59, v_60, v_61, a_62, v_63, a_64, a_65, v_66, hfo_47, ⟨ma_48, ka_48⟩, bv_49, ⟨ma_50, ka_50⟩, ⟨ma_51, ka_51⟩, ⟨ma_52, ka_52⟩, ⟨ma_53, ka_53⟩, ⟨ma_54, ka_54⟩, ⟨ma_55, ka_55⟩, bv_56, ⟨ma_57, ka_57⟩, ⟨ma_58, ka_58⟩, ⟨ma_59, ka_59⟩, bv_60, ⟨ma_62, ka_62⟩, bv_63, ⟨ma_64, ka_64⟩, ⟨ma_65, ka_65⟩⟩ := un_11 (hG _ mo0) ko0
      have bv_61 : ((-2147483648) ≤ v_61.toInt ∧ v_61.toInt ≤ 2147483647) := ⟨i32_lo _, i32_hi _⟩
      have bv_66 : ((-2147483648) ≤ v_66.toInt ∧ v_66.toInt ≤ 2147483647) := ⟨i32_lo _, i32_hi _⟩
      refine tk_getP (D := (dC, dI)) (ci := 11) (v := .ref a_53) (C := RX11) (T := TX11) (N := 19) hx hb hU inlX11 hown hK hP mo0 hfo_47 rfl 5 (by decide) (hU _ wd_25) (fun _ h9 => h9) rfl dX11_order_19 ?_
      refine lv_iload_n hx hb dX11_order_22 rfl (lv_at hl 1 rfl) ?_
      refine lv_iload_n hx hb dX11_order_23 rfl (lv_at hl 2 rfl) ?_
      refine lv_aload_n hx hb dX11_order_24 rfl (lv_at hl 0 rfl) ?_
      refine tk_getP (D := (dC, dI)) (ci := 11) (v := .ref a_51) (C := RX11) (T := TX11) (N := 19) hx hb hU inlX11 hown hK hP mo0 hfo_47 rfl 3 (by decide) (hU _ wd_19) (fun _ h9 => h9) rfl dX11_order_25 ?_
      obtain ⟨a_68, v_69, a_70, a_71, a_72, a_73, v_74, a_75, a_76, a_77, a_78, a_79, v_80, a_81, a_82, a_83, hfo_67, ⟨ma_68, ka_68⟩, bv_69, ⟨ma_70, ka_70⟩, ⟨ma_71, ka_71⟩, ⟨ma_72, ka_72⟩, ⟨ma_73, ka_73⟩, bv_74, ⟨ma_75, ka_75⟩, ⟨ma_76, ka_76⟩, ⟨ma_77, ka_77⟩, ⟨ma_78, ka_78⟩, ⟨ma_79, ka_79⟩, bv_80, ⟨ma_81, ka_81⟩, ⟨ma_82, ka_82⟩, ⟨ma_83, ka_83⟩⟩ := un_7 (hG _ ma_51) ka_51
      refine tk_getP (D := (dC, dI)) (ci := 7) (v := .int v_80) (C := RX7) (T := TX7) (N := 16) hx hb hU inlX7 hown hK hP ma_51 hfo_67 rfl 12 (by decide) (hU _ wd_235) (fun _ h9 => h9) rfl dX11_order_28 ?_
      obtain ⟨v_85, v_86, a_87, a_88, a_89, v_90, a_91, a_92, a_93, hfo_84, bv_86, ⟨ma_87, ka_87⟩, ⟨ma_88, ka_88⟩, ⟨ma_89, ka_89⟩, ⟨ma_91, ka_91⟩, ⟨ma_92, ka_92⟩, ⟨ma_93, ka_93⟩⟩ := un_6 (hG _ ma_53) ka_53
      have bv_85 : ((-2147483648) ≤ v_85.toInt ∧ v_85.toInt ≤ 2147483647) := ⟨i32_lo _, i32_hi _⟩
      have bv_90 : ((-2147483648) ≤ v_90.toInt ∧ v_90.toInt ≤ 2147483647) := ⟨i32_lo _, i32_hi _⟩
      refine tk_VvP (As := [.int p1, .int p2, .int v_80]) (rest := []) (n := 3) hx hb hml hown hU hN (s_X6_moveRule_k6 l (dC, dI) cI cL cZ cR kd L f_45 hG a_53 ma_53 ka_53 p1 (by constructor <;> omega) p2 (by constructor <;> omega) v_80 (by constructor <;> omega)) wd_1139 wd_1140 wd_1141 wd_24 wd_1142 (by decide +kernel) ⟨Nat.le_of_ble_eq_true rfl, Nat.le_of_ble_eq_true rfl⟩ hK hP hD hS ma_53 hfo_84 6 rfl rfl rfl hl.1 rfl (Nat.le_of_ble_eq_true rfl) dX11_order_31 ⟨Nat.le_of_ble_eq_true rfl, Nat.le_of_ble_eq_true rfl⟩ (fun f_95 H locs hw hP hD hS => ?_)
      have hG : GI (okc cI cL cZ cR L kd) kd L f_95 := hw
      refine lv_iconst (v := 1) hx hb dX11_order_34 (by decide) ?_
      exact W.zret (v := 1) (ty := .boolean) hx hb hr rfl (fun t ht hW => ⟨⟨1, f_95, rfl, ⟨hG, (by decide)⟩, by rw [ht]; exact hP, va_K.moved hW.alike hK, pl_in hD⟩, hS.F ht⟩) hS.2.2 dX11_order_35
    · skip
      rw [← Int32.toInt_inj, ti_0] at c_46
      refine lv_iconst (v := 0) hx hb dX11_order_16 (by decide) ?_
      exact W.zret (v := 0) (ty := .boolean) hx hb hr rfl (fun t ht hW => ⟨⟨0, f_45, rfl, ⟨hG, (by decide)⟩, by rw [ht]; exact hP, va_K.moved hW.alike hK, pl_in hD⟩, hS.F ht⟩) hS.2.2 dX11_order_17
set_option maxHeartbeats 8000000 in
set_option maxRecDepth 100000 in
theorem s_X11_image_k11 (l : Launch) (D : va_G) (cI cL cZ cR : ClassId) (kd : Nat → Nat) (L : List Nat) (f : Nat → va_E) (hG : GI (okc cI cL cZ cR L kd) kd L f) (o0 : Nat) (mo0 : o0 ∈ L) (ko0 : kd o0 = 11) (p1 : Int32) (bp1 : (0 ≤ p1.toInt ∧ p1.toInt ≤ 1)) : mPI l D cI cL cZ cR yX11_image cX11_image 2 (some .boolean) 4 104 [.ref o0, .int p1] L f (fun (r : Int32) (f9 : Nat → va_E) => GI (okc cI cL cZ cR L kd) kd L f9 ∧ (0 ≤ r.toInt ∧ r.toInt ≤ 1)) := by
  obtain ⟨dC, dI⟩ := D
  refine Met.ofW (cc := cX11_image) (maxL := 2) (ret := (some .boolean)) (by decide) rfl ?_
  intro p e s m args below meth c s₁ B hml hv
  obtain ⟨rfl, hP, hK, hD0, hN⟩ := hv
  have hx := B.exec
  have hb := B.bytes
  have hr := B.returns
  have hU : ∀ w ∈ wsU, w.before _ s = true := fun w h => atoms_spec (ws := wU yX11_image cX11_image 2 (some .boolean)) B.pre w (List.mem_cons_of_mem _ h)
  have hown : s.vm.findClass RX11 = some m.cls := findClass_of_methodNamed B.named
  have hlocks := B.notSynchronized
  have hD := pl_in hD0
  have hS : va_S (fun q => q ∈ L) s.heap s.heap [] := va_S.rf
  have hl := lv_entry ([.ref o0, .int p1]) (n := 2) (Nat.le_of_ble_eq_true rfl)
  rw [lg_entry_eq]
  generalize (lg_sl ([.ref o0, .int p1]) ++ List.replicate (2 - (lg_sl ([.ref o0, .int p1])).length) Slot.unset).toArray = ls at hl ⊢
  have hl : lv_has ls 2 [(0, .ref o0), (1, .int p1)] := hl
  refine lv_iload_n hx hb dX11_image_0 rfl (lv_at hl 1 rfl) ?_
  refine lv_if_eq (tgt := 33) hx hb dX11_image_1 (by decide) (fun c_1 => ?_) (fun c_1 => ?_)
  · skip
    rw [← Int32.toInt_inj, ti_0] at c_1
    refine lv_aload_n hx hb dX11_image_33 rfl (lv_at hl 0 rfl) ?_
    obtain ⟨a_3, v_4, a_5, a_6, a_7, a_8, a_9, a_10, v_11, a_12, a_13, a_14, v_15, v_16, a_17, v_18, a_19, a_20, v_21, hfo_2, ⟨ma_3, ka_3⟩, bv_4, ⟨ma_5, ka_5⟩, ⟨ma_6, ka_6⟩, ⟨ma_7, ka_7⟩, ⟨ma_8, ka_8⟩, ⟨ma_9, ka_9⟩, ⟨ma_10, ka_10⟩, bv_11, ⟨ma_12, ka_12⟩, ⟨ma_13, ka_13⟩, ⟨ma_14, ka_14⟩, bv_15, ⟨ma_17, ka_17⟩, bv_18, ⟨ma_19, ka_19⟩, ⟨ma_20, ka_20⟩⟩ := un_11 (hG _ mo0) ko0
    have bv_16 : ((-2147483648) ≤ v_16.toInt ∧ v_16.toInt ≤ 2147483647) := ⟨i32_lo _, i32_hi _⟩
    have bv_21 : ((-2147483648) ≤ v_21.toInt ∧ v_21.toInt ≤ 2147483647) := ⟨i32_lo _, i32_hi _⟩
    refine tk_getP (D := (dC, dI)) (ci := 11) (v := .int v_11) (C := RX11) (T := TX11) (N := 19) hx hb hU inlX11 hown hK hP mo0 hfo_2 rfl 8 (by decide) (hU _ wd_1472) (fun _ h9 => h9) rfl dX11_image_34 ?_
    refine lv_if_ne (tgt := 42) hx hb dX11_image_37 (by decide) (fun c_22 => ?_) (fun c_22 => ?_)
    · skip
      rw [← Int32.toInt_inj, ti_0] at c_22
      refine lv_aload_n hx hb dX11_image_42 rfl (lv_at hl 0 rfl) ?_
      refine tk_getP (D := (dC, dI)) (ci := 11) (v := .ref a_6) (C := RX11) (T := TX11) (N := 19) hx hb hU inlX11 hown hK hP mo0 hfo_2 rfl 3 (by decide) (hU _ wd_19) (fun _ h9 => h9) rfl dX11_image_43 ?_
      refine lv_aload_n hx hb dX11_image_46 rfl (lv_at hl 0 rfl) ?_
      refine tk_getP (D := (dC, dI)) (ci := 11) (v := .ref a_9) (C := RX11) (T := TX11) (N := 19) hx hb hU inlX11 hown hK hP mo0 hfo_2 rfl 6 (by decide) (hU _ wd_29) (fun _ h9 => h9) rfl dX11_image_47 ?_
      obtain ⟨a_24, v_25, a_26, a_27, a_28, a_29, v_30, a_31, a_32, a_33, a_34, a_35, v_36, a_37, a_38, a_39, hfo_23, ⟨ma_24, ka_24⟩, bv_25, ⟨ma_26, ka_26⟩, ⟨ma_27, ka_27⟩, ⟨ma_28, ka_28⟩, ⟨ma_29, ka_29⟩, bv_30, ⟨ma_31, ka_31⟩, ⟨ma_32, ka_32⟩, ⟨ma_33, ka_33⟩, ⟨ma_34, ka_34⟩, ⟨ma_35, ka_35⟩, bv_36, ⟨ma_37, ka_37⟩, ⟨ma_38, ka_38⟩, ⟨ma_39, ka_39⟩⟩ := un_7 (hG _ ma_6) ka_6
      refine tk_VvP (As := [.ref a_9]) (rest := []) (n := 1) hx hb hml hown hU hN (s_X7_copyFrom_k7_k7 l (dC, dI) cI cL cZ cR kd L f hG a_6 ma_6 ka_6 a_9 ma_9 ka_9) wd_530 wd_531 wd_532 wd_28 wd_533 (by decide +kernel) ⟨Nat.le_of_ble_eq_true rfl, Nat.le_of_ble_eq_true rfl⟩ hK hP hD hS ma_6 hfo_23 7 rfl rfl rfl hl.1 rfl (Nat.le_of_ble_eq_true rfl) dX11_image_50 ⟨Nat.le_of_ble_eq_true rfl, Nat.le_of_ble_eq_true rfl⟩ (fun f_41 H locs hw hP hD hS => ?_)
      have hG : GI (okc cI cL cZ cR L kd) kd L f_41 := hw
      refine lv_aload_n hx hb dX11_image_53 rfl (lv_at hl 0 rfl) ?_
      obtain ⟨a_43, v_44, a_45, a_46, a_47, a_48, a_49, a_50, v_51, a_52, a_53, a_54, v_55, v_56, a_57, v_58, a_59, a_60, v_61, hfo_42, ⟨ma_43, ka_43⟩, bv_44, ⟨ma_45, ka_45⟩, ⟨ma_46, ka_46⟩, ⟨ma_47, ka_47⟩, ⟨ma_48, ka_48⟩, ⟨ma_49, ka_49⟩, ⟨ma_50, ka_50⟩, bv_51, ⟨ma_52, ka_52⟩, ⟨ma_53, ka_53⟩, ⟨ma_54, ka_54⟩, bv_55, ⟨ma_57, ka_57⟩, bv_58, ⟨ma_59, ka_59⟩, ⟨ma_60, ka_60⟩⟩ := un_11 (hG _ mo0) ko0
      have bv_56 : ((-2147483648) ≤ v_56.toInt ∧ v_56.toInt ≤ 2147483647) := ⟨i32_lo _, i32_hi _⟩
      have bv_61 : ((-2147483648) ≤ v_61.toInt ∧ v_61.toInt ≤ 2147483647) := ⟨i32_lo _, i32_hi _⟩
      refine tk_getP (D := (dC, dI)) (ci := 11) (v := .ref a_48) (C := RX11) (T := TX11) (N := 19) hx hb hU inlX11 hown hK hP mo0 hfo_42 rfl 5 (by decide) (hU _ wd_25) (fun _ h9 => h9) rfl dX11_image_54 ?_
      refine lv_aload_n hx hb dX11_image_57 rfl (lv_at hl 0 rfl) ?_
      refine tk_getP (D := (dC, dI)) (ci := 11) (v := .ref a_50) (C := RX11) (T := TX11) (N := 19) hx hb hU inlX11 hown hK hP mo0 hfo_42 rfl 7 (by decide) (hU _ wd_30) (fun _ h9 => h9) rfl dX11_image_58 ?_
      obtain ⟨v_63, v_64, a_65, a_66, a_67, v_68, a_69, a_70, a_71, hfo_62, bv_64, ⟨ma_65, ka_65⟩, ⟨ma_66, ka_66⟩, ⟨ma_67, ka_67⟩, ⟨ma_69, ka_69⟩, ⟨ma_70, ka_70⟩, ⟨ma_71, ka_71⟩⟩ := un_6 (hG _ ma_48) ka_48
      have bv_63 : ((-2147483648) ≤ v_63.toInt ∧ v_63.toInt ≤ 2147483647) := ⟨i32_lo _, i32_hi _⟩
      have bv_68 : ((-2147483648) ≤ v_68.toInt ∧ v_68.toInt ≤ 2147483647) := ⟨i32_lo _, i32_hi _⟩
      refine tk_VvP (As := [.ref a_50]) (rest := []) (n := 1) hx hb hml hown hU hN (s_X6_copyFrom_k6_k6 l (dC, dI) cI cL cZ cR kd L f_41 hG a_48 ma_48 ka_48 a_50 ma_50 ka_50) wd_1473 wd_1474 wd_1475 wd_24 wd_1476 (by decide +kernel) ⟨Nat.le_of_ble_eq_true rfl, Nat.le_of_ble_eq_true rfl⟩ hK hP hD hS ma_48 hfo_62 6 rfl rfl rfl hl.1 rfl (Nat.le_of_ble_eq_true rfl) dX11_image_61 ⟨Nat.le_of_ble_eq_true rfl, Nat.le_of_ble_eq_true rfl⟩ (fun f_73 H locs hw hP hD hS => ?_)
      have hG : GI (okc cI cL cZ cR L kd) kd L f_73 := hw
      refine lv_aload_n hx hb dX11_image_64 rfl (lv_at hl 0 rfl) ?_
      refine lv_dup hx hb dX11_image_65 rfl ?_
      obtain ⟨a_75, v_76, a_77, a_78, a_79, a_80, a_81, a_82, v_83, a_84, a_85, a_86, v_87, v_88, a_89, v_90, a_91, a_92, v_93, hfo_74, ⟨ma_75, ka_75⟩, bv_76, ⟨ma_77, ka_77⟩, ⟨ma_78, ka_78⟩, ⟨ma_79, ka_79⟩, ⟨ma_80, ka_80⟩, ⟨ma_81, ka_81⟩, ⟨ma_82, ka_82⟩, bv_83, ⟨ma_84, ka_84⟩, ⟨ma_85, ka_85⟩, ⟨ma_86, ka_86⟩, bv_87, ⟨ma_89, ka_89⟩, bv_90, ⟨ma_91, ka_91⟩, ⟨ma_92, ka_92⟩⟩ := un_11 (hG _ mo0) ko0
      have bv_88 : ((-2147483648) ≤ v_88.toInt ∧ v_88.toInt ≤ 2147483647) := ⟨i32_lo _, i32_hi _⟩
      have bv_93 : ((-2147483648) ≤ v_93.toInt ∧ v_93.toInt ≤ 2147483647) := ⟨i32_lo _, i32_hi _⟩
      refine tk_getP (D := (dC, dI)) (ci := 11) (v := .int v_93) (C := RX11) (T := TX11) (N := 19) hx hb hU inlX11 hown hK hP mo0 hfo_74 rfl 18 (by decide) (hU _ wd_236) (fun _ h9 => h9) rfl dX11_image_66 ?_
      refine lv_iconst (v := 1) hx hb dX11_image_69 (by decide) ?_
      refine lv_iadd hx hb dX11_image_70 ?_
      refine lv_topi (fun x_94 ex_94 => ?_)
      have bx_94 : ((-2147483648) ≤ x_94.toInt ∧ x_94.toInt ≤ 2147483647) := ⟨i32_lo _, i32_hi _⟩
      refine tk_putP (D := (dC, dI)) (ci := 11) (v := .int x_94) (ty := .int) (C := RX11) (T := TX11) (N := 19) hx hb hU inlX11 tyX11 tyX11_ok nmX11 hown hK hP hD hS mo0 hfo_74 rfl 18 (by decide) (hU _ wd_236) (fun _ h9 => h9) rfl (by decide +kernel) rfl rfl (Nat.le_of_ble_eq_true rfl) dX11_image_71 (fun H locs hP hD hS => ?_)
      obtain ⟨f_95, ef_95⟩ : ∃ y : Nat → va_E, y = va_up f_73 o0 (.inr (11, [.ref a_75, .int v_76, .ref a_77, .ref a_78, .ref a_79, .ref a_80, .ref a_81, .ref a_82, .int v_83, .ref a_84, .ref a_85, .ref a_86, .int v_87, .int v_88, .ref a_89, .int v_90, .ref a_91, .ref a_92, .int x_94])) := ⟨_, rfl⟩
      have hP : va_P (dC, dI) vwCl (va_pl L f_95) H := by rw [ef_95]; exact hP
      have hD : va_D (fun q => q ∈ L) (va_pl L f_95) := by rw [ef_95]; exact hD
      have hG : GI (okc cI cL cZ cR L kd) kd L f_95 := by rw [ef_95]; exact hG.set o0 (mk_11 ko0 ⟨a_75, v_76, a_77, a_78, a_79, a_80, a_81, a_82, v_83, a_84, a_85, a_86, v_87, v_88, a_89, v_90, a_91, a_92, x_94, rfl, ⟨ma_75, ka_75⟩, (by constructor <;> omega), ⟨ma_77, ka_77⟩, ⟨ma_78, ka_78⟩, ⟨ma_79, ka_79⟩, ⟨ma_80, ka_80⟩, ⟨ma_81, ka_81⟩, ⟨ma_82, ka_82⟩, (by constructor <;> omega), ⟨ma_84, ka_84⟩, ⟨ma_85, ka_85⟩, ⟨ma_86, ka_86⟩, (by constructor <;> omega), ⟨ma_89, ka_89⟩, (by constructor <;> omega), ⟨ma_91, ka_91⟩, ⟨ma_92, ka_92⟩⟩)
      have hfo_96 : f_95 o0 = .inr (11, [.ref a_75, .int v_76, .ref a_77, .ref a_78, .ref a_79, .ref a_80, .ref a_81, .ref a_82, .int v_83, .ref a_84, .ref a_85, .ref a_86, .int v_87, .int v_88, .ref a_89, .int v_90, .ref a_91, .ref a_92, .int x_94]) := by rw [ef_95]; exact up_self
      refine lv_iconst (v := 1) hx hb dX11_image_74 (by decide) ?_
      exact W.zret (v := 1) (ty := .boolean) hx hb hr rfl (fun t ht hW => ⟨⟨1, f_95, rfl, ⟨hG, (by decide)⟩, by rw [ht]; exact hP, va_K.moved hW.alike hK, pl_in hD⟩, hS.F ht⟩) hS.2.2 dX11_image_75
    · skip
      rw [← Int32.toInt_inj, ti_0] at c_22
      refine lv_iconst (v := 0) hx hb dX11_image_40 (by decide) ?_
      exact W.zret (v := 0) (ty := .boolean) hx hb hr rfl (fun t ht hW => ⟨⟨0, f, rfl, ⟨hG, (by decide)⟩, by rw [ht]; exact hP, va_K.moved hW.alike hK, pl_in hD⟩, hS.F ht⟩) hS.2.2 dX11_image_41
  · skip
    rw [← Int32.toInt_inj, ti_0] at c_1
    refine lv_aload_n hx hb dX11_image_4 rfl (lv_at hl 0 rfl) ?_
    obtain ⟨a_98, v_99, a_100, a_101, a_102, a_103, a_104, a_105, v_106, a_107, a_108, a_109, v_110, v_111, a_112, v_113, a_114, a_115, v_116, hfo_97, ⟨ma_98, ka_98⟩, bv_99, ⟨ma_100, ka_100⟩, ⟨ma_101, ka_101⟩, ⟨ma_102, ka_102⟩, ⟨ma_103, ka_103⟩, ⟨ma_104, ka_104⟩, ⟨ma_105, ka_105⟩, bv_106, ⟨ma_107, ka_107⟩, ⟨ma_108, ka_108⟩, ⟨ma_109, ka_109⟩, bv_110, ⟨ma_112, ka_112⟩, bv_113, ⟨ma_114, ka_114⟩, ⟨ma_115, ka_115⟩⟩ := un_11 (hG _ mo0) ko0
    have bv_111 : ((-2147483648) ≤ v_111.toInt ∧ v_111.toInt ≤ 2147483647) := ⟨i32_lo _, i32_hi _⟩
    have bv_116 : ((-2147483648) ≤ v_116.toInt ∧ v_116.toInt ≤ 2147483647) := ⟨i32_lo _, i32_hi _⟩
    refine tk_getP (D := (dC, dI)) (ci := 11) (v := .ref a_104) (C := RX11) (T := TX11) (N := 19) hx hb hU inlX11 hown hK hP mo0 hfo_97 rfl 6 (by decide) (hU _ wd_29) (fun _ h9 => h9) rfl dX11_image_5 ?_
    refine lv_aload_n hx hb dX11_image_8 rfl (lv_at hl 0 rfl) ?_
    refine tk_getP (D := (dC, dI)) (ci := 11) (v := .ref a_101) (C := RX11) (T := TX11) (N := 19) hx hb hU inlX11 hown hK hP mo0 hfo_97 rfl 3 (by decide) (hU _ wd_19) (fun _ h9 => h9) rfl dX11_image_9 ?_
    obtain ⟨a_118, v_119, a_120, a_121, a_122, a_123, v_124, a_125, a_126, a_127, a_128, a_129, v_130, a_131, a_132, a_133, hfo_117, ⟨ma_118, ka_118⟩, bv_119, ⟨ma_120, ka_120⟩, ⟨ma_121, ka_121⟩, ⟨ma_122, ka_122⟩, ⟨ma_123, ka_123⟩, bv_124, ⟨ma_125, ka_125⟩, ⟨ma_126, ka_126⟩, ⟨ma_127, ka_127⟩, ⟨ma_128, ka_128⟩, ⟨ma_129, ka_129⟩, bv_130, ⟨ma_131, ka_131⟩, ⟨ma_132, ka_132⟩, ⟨ma_133, ka_133⟩⟩ := un_7 (hG _ ma_104) ka_104
    refine tk_VvP (As := [.ref a_101]) (rest := []) (n := 1) hx hb hml hown hU hN (s_X7_copyFrom_k7_k7 l (dC, dI) cI cL cZ cR kd L f hG a_104 ma_104 ka_104 a_101 ma_101 ka_101) wd_530 wd_531 wd_532 wd_28 wd_533 (by decide +kernel) ⟨Nat.le_of_ble_eq_true rfl, Nat.le_of_ble_eq_true rfl⟩ hK hP hD hS ma_104 hfo_117 7 rfl rfl rfl hl.1 rfl (Nat.le_of_ble_eq_true rfl) dX11_image_12 ⟨Nat.le_of_ble_eq_true rfl, Nat.le_of_ble_eq_true rfl⟩ (fun f_135 H locs hw hP hD hS => ?_)
    have hG : GI (okc cI cL cZ cR L kd) kd L f_135 := hw
    refine lv_aload_n hx hb dX11_image_15 rfl (lv_at hl 0 rfl) ?_
    obtain ⟨a_137, v_138, a_139, a_140, a_141, a_142, a_143, a_144, v_145, a_146, a_147, a_148, v_149, v_150, a_151, v_152, a_153, a_154, v_155, hfo_136, ⟨ma_137, ka_137⟩, bv_138, ⟨ma_139, ka_139⟩, ⟨ma_140, ka_140⟩, ⟨ma_141, ka_141⟩, ⟨ma_142, ka_142⟩, ⟨ma_143, ka_143⟩, ⟨ma_144, ka_144⟩, bv_145, ⟨ma_146, ka_146⟩, ⟨ma_147, ka_147⟩, ⟨ma_148, ka_148⟩, bv_149, ⟨ma_151, ka_151⟩, bv_152, ⟨ma_153, ka_153⟩, ⟨ma_154, ka_154⟩⟩ := un_11 (hG _ mo0) ko0
    have bv_150 : ((-2147483648) ≤ v_150.toInt ∧ v_150.toInt ≤ 2147483647) := ⟨i32_lo _, i32_hi _⟩
    have bv_155 : ((-2147483648) ≤ v_155.toInt ∧ v_155.toInt ≤ 2147483647) := ⟨i32_lo _, i32_hi _⟩
    refine tk_getP (D := (dC, dI)) (ci := 11) (v := .ref a_144) (C := RX11) (T := TX11) (N := 19) hx hb hU inlX11 hown hK hP mo0 hfo_136 rfl 7 (by decide) (hU _ wd_30) (fun _ h9 => h9) rfl dX11_image_16 ?_
    refine lv_aload_n hx hb dX11_image_19 rfl (lv_at hl 0 rfl) ?_
    refine tk_getP (D := (dC, dI)) (ci := 11) (v := .ref a_142) (C := RX11) (T := TX11) (N := 19) hx hb hU inlX11 hown hK hP mo0 hfo_136 rfl 5 (by decide) (hU _ wd_25) (fun _ h9 => h9) rfl dX11_image_20 ?_
    obtain ⟨v_157, v_158, a_159, a_160, a_161, v_162, a_163, a_164, a_165, hfo_156, bv_158, ⟨ma_159, ka_159⟩, ⟨ma_160, ka_160⟩, ⟨ma_161, ka_161⟩, ⟨ma_163, ka_163⟩, ⟨ma_164, ka_164⟩, ⟨ma_165, ka_165⟩⟩ := un_6 (hG _ ma_144) ka_144
    have bv_157 : ((-2147483648) ≤ v_157.toInt ∧ v_157.toInt ≤ 2147483647) := ⟨i32_lo _, i32_hi _⟩
    have bv_162 : ((-2147483648) ≤ v_162.toInt ∧ v_162.toInt ≤ 2147483647) := ⟨i32_lo _, i32_hi _⟩
    refine tk_VvP (As := [.ref a_142]) (rest := []) (n := 1) hx hb hml hown hU hN (s_X6_copyFrom_k6_k6 l (dC, dI) cI cL cZ cR kd L f_135 hG a_144 ma_144 ka_144 a_142 ma_142 ka_142) wd_1473 wd_1474 wd_1475 wd_24 wd_1476 (by decide +kernel) ⟨Nat.le_of_ble_eq_true rfl, Nat.le_of_ble_eq_true rfl⟩ hK hP hD hS ma_144 hfo_156 6 rfl rfl rfl hl.1 rfl (Nat.le_of_ble_eq_true rfl) dX11_image_23 ⟨Nat.le_of_ble_eq_true rfl, Nat.le_of_ble_eq_true rfl⟩ (fun f_167 H locs hw hP hD hS => ?_)
    have hG : GI (okc cI cL cZ cR L kd) kd L f_167 := hw
    refine lv_aload_n hx hb dX11_image_26 rfl (lv_at hl 0 rfl) ?_
    refine lv_iconst (v := 1) hx hb dX11_image_27 (by decide) ?_
    obtain ⟨a_169, v_170, a_171, a_172, a_173, a_174, a_175, a_176, v_177, a_178, a_179, a_180, v_181, v_182, a_183, v_184, a_185, a_186, v_187, hfo_168, ⟨ma_169, ka_169⟩, bv_170, ⟨ma_171, ka_171⟩, ⟨ma_172, ka_172⟩, ⟨ma_173, ka_173⟩, ⟨ma_174, ka_174⟩, ⟨ma_175, ka_175⟩, ⟨ma_176, ka_176⟩, bv_177, ⟨ma_178, ka_178⟩, ⟨ma_179, ka_179⟩, ⟨ma_180, ka_180⟩, bv_181, ⟨ma_183, ka_183⟩, bv_184, ⟨ma_185, ka_185⟩, ⟨ma_186, ka_186⟩⟩ := un_11 (hG _ mo0) ko0
    have bv_182 : ((-2147483648) ≤ v_182.toInt ∧ v_182.toInt ≤ 2147483647) := ⟨i32_lo _, i32_hi _⟩
    have bv_187 : ((-2147483648) ≤ v_187.toInt ∧ v_187.toInt ≤ 2147483647) := ⟨i32_lo _, i32_hi _⟩
    refine tk_putP (D := (dC, dI)) (ci := 11) (v := .int 1) (ty := .boolean) (C := RX11) (T := TX11) (N := 19) hx hb hU inlX11 tyX11 tyX11_ok nmX11 hown hK hP hD hS mo0 hfo_168 rfl 8 (by decide) (hU _ wd_1472) (fun _ h9 => h9) rfl (by decide +kernel) rfl rfl (Nat.le_of_ble_eq_true rfl) dX11_image_28 (fun H locs hP hD hS => ?_)
    obtain ⟨f_188, ef_188⟩ : ∃ y : Nat → va_E, y = va_up f_167 o0 (.inr (11, [.ref a_169, .int v_170, .ref a_171, .ref a_172, .ref a_173, .ref a_174, .ref a_175, .ref a_176, .int 1, .ref a_178, .ref a_179, .ref a_180, .int v_181, .int v_182, .ref a_183, .int v_184, .ref a_185, .ref a_186, .int v_187])) := ⟨_, rfl⟩
    have hP : va_P (dC, dI) vwCl (va_pl L f_188) H := by rw [ef_188]; exact hP
    have hD : va_D (fun q => q ∈ L) (va_pl L f_188) := by rw [ef_188]; exact hD
    have hG : GI (okc cI cL cZ cR L kd) kd L f_188 := by rw [ef_188]; exact hG.set o0 (mk_11 ko0 ⟨a_169, v_170, a_171, a_172, a_173, a_174, a_175, a_176, 1, a_178, a_179, a_180, v_181, v_182, a_183, v_184, a_185, a_186, v_187, rfl, ⟨ma_169, ka_169⟩, (by constructor <;> omega), ⟨ma_171, ka_171⟩, ⟨ma_172, ka_172⟩, ⟨ma_173, ka_173⟩, ⟨ma_174, ka_174⟩, ⟨ma_175, ka_175⟩, ⟨ma_176, ka_176⟩, (by decide), ⟨ma_178, ka_178⟩, ⟨ma_179, ka_179⟩, ⟨ma_180, ka_180⟩, (by constructor <;> omega), ⟨ma_183, ka_183⟩, (by constructor <;> omega), ⟨ma_185, ka_185⟩, ⟨ma_186, ka_186⟩⟩)
    have hfo_189 : f_188 o0 = .inr (11, [.ref a_169, .int v_170, .ref a_171, .ref a_172, .ref a_173, .ref a_174, .ref a_175, .ref a_176, .int 1, .ref a_178, .ref a_179, .ref a_180, .int v_181, .int v_182, .ref a_183, .int v_184, .ref a_185, .ref a_186, .int v_187]) := by rw [ef_188]; exact up_self
    refine lv_iconst (v := 1) hx hb dX11_image_31 (by decide) ?_
    exact W.zret (v := 1) (ty := .boolean) hx hb hr rfl (fun t ht hW => ⟨⟨1, f_188, rfl, ⟨hG, (by decide)⟩, by rw [ht]; exact hP, va_K.moved hW.alike hK, pl_in hD⟩, hS.F ht⟩) hS.2.2 dX11_image_32
