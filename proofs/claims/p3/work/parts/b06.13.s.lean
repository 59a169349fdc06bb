set_option maxHeartbeats 8000000 in
set_option maxRecDepth 100000 in
theorem s_X11_quarrel_k11 (l : Launch) (D : va_G) (cI cL cZ cR cG cH : ClassId) (Z : zT) (kd : Nat → Nat) (L : List Nat) (f : Nat → va_E) (hG : GI (okc cI cL cZ cR cG cH L kd) kd L f) (o0 : Nat) (mo0 : o0 ∈ L) (ko0 : kd o0 = 11) (p1 : Int32) (p2 : Int32) : mPI l D cI cL cZ cR cG cH Z yX11_quarrel cX11_quarrel 5 (some .int) 5 143 [.ref o0, .int p1, .int p2] L f (fun (r : Int32) (f9 : Nat → va_E) => f = f9 ∧ ((-2147483648) ≤ r.toInt ∧ r.toInt ≤ 2147483647)) := by
  obtain ⟨dC, dI⟩ := D
  refine Met.ofW (cc := cX11_quarrel) (maxL := 5) (ret := (some .int)) (by decide) rfl ?_
  intro p e s m args below meth c s₁ B hml hv
  obtain ⟨rfl, hP, hK, hD0, hN, hZ⟩ := hv
  have hx := B.exec
  have hb := B.bytes
  have hr := B.returns
  have hU : ∀ w ∈ wsU, w.before _ s = true := fun w h => atoms_spec (ws := wU yX11_quarrel cX11_quarrel 5 (some .int)) B.pre w (List.mem_cons_of_mem _ h)
  have hown : s.vm.findClass RX11 = some m.cls := findClass_of_methodNamed B.named
  have hlocks := B.notSynchronized
  have hD := pl_in hD0
  have hS : va_S (fun q => q ∈ L) s.heap s.heap [] := va_S.rf
  have hl := lv_entry ([.ref o0, .int p1, .int p2]) (n := 5) (Nat.le_of_ble_eq_true rfl)
  rw [lg_entry_eq]
  generalize (lg_sl ([.ref o0, .int p1, .int p2]) ++ List.replicate (5 - (lg_sl ([.ref o0, .int p1, .int p2])).length) Slot.unset).toArray = ls at hl ⊢
  have hl : lv_has ls 5 [(0, .ref o0), (1, .int p1), (2, .int p2)] := hl
  have bp1 : ((-2147483648) ≤ p1.toInt ∧ p1.toInt ≤ 2147483647) := ⟨i32_lo _, i32_hi _⟩
  have bp2 : ((-2147483648) ≤ p2.toInt ∧ p2.toInt ≤ 2147483647) := ⟨i32_lo _, i32_hi _⟩
  refine lv_aload_n hx hb dX11_quarrel_0 rfl (lv_at hl 0 rfl) ?_
  refine lv_iload_n hx hb dX11_quarrel_1 rfl (lv_at hl 1 rfl) ?_
  obtain ⟨a_2, v_3, a_4, a_5, a_6, a_7, a_8, a_9, v_10, a_11, a_12, a_13, v_14, v_15, a_16, v_17, a_18, a_19, v_20, hfo_1, ⟨ma_2, ka_2⟩, bv_3, ⟨ma_4, ka_4⟩, ⟨ma_5, ka_5⟩, ⟨ma_6, ka_6⟩, ⟨ma_7, ka_7⟩, ⟨ma_8, ka_8⟩, ⟨ma_9, ka_9⟩, bv_10, ⟨ma_11, ka_11⟩, ⟨ma_12, ka_12⟩, ⟨ma_13, ka_13⟩, bv_14, ⟨ma_16, ka_16⟩, bv_17, ⟨ma_18, ka_18⟩, ⟨ma_19, ka_19⟩⟩ := un_11 (hG _ mo0) ko0
  have bv_15 : ((-2147483648) ≤ v_15.toInt ∧ v_15.toInt ≤ 2147483647) := ⟨i32_lo _, i32_hi _⟩
  have bv_20 : ((-2147483648) ≤ v_20.toInt ∧ v_20.toInt ≤ 2147483647) := ⟨i32_lo _, i32_hi _⟩
  refine tk_ViP (As := [.int p1]) (rest := []) (n := 1) hx hb hml hown hU hN hZ (s_X11_isRule_k11 l (dC, dI) cI cL cZ cR cG cH Z kd L f hG o0 mo0 ko0 p1) wd_1135 wd_1136 wd_1137 wd_2 wd_1138 (by decide +kernel) ⟨Nat.le_of_ble_eq_true rfl, Nat.le_of_ble_eq_true rfl⟩ hK hP hD hS mo0 hfo_1 11 rfl rfl rfl hl.1 rfl (Nat.le_of_ble_eq_true rfl) dX11_quarrel_2 ⟨Nat.le_of_ble_eq_true rfl, Nat.le_of_ble_eq_true rfl⟩ (fun x_21 f_22 H locs hw hP hD hS => ?_)
  obtain ⟨rfl, bx_21, relx_21⟩ := hw
  refine lv_if_eq (tgt := 21) hx hb dX11_quarrel_5 (by decide) (fun c_24 => ?_) (fun c_24 => ?_)
  · skip
    rw [← Int32.toInt_inj, ti_0] at c_24
    refine lv_iconst (v := (-1)) hx hb dX11_quarrel_21 (by decide) ?_
    exact W.iret (v := (-1)) hx hb hr (fun t ht hW => ⟨⟨(-1), f, rfl, ⟨rfl, (by decide)⟩, by rw [ht]; exact hP, va_K.moved hW.alike hK, pl_in hD⟩, hS.F ht⟩) hS.2.2 dX11_quarrel_22
  · skip
    rw [← Int32.toInt_inj, ti_0] at c_24
    refine lv_aload_n hx hb dX11_quarrel_8 rfl (lv_at hl 0 rfl) ?_
    refine lv_iload_n hx hb dX11_quarrel_9 rfl (lv_at hl 2 rfl) ?_
    refine tk_ViP (As := [.int p2]) (rest := []) (n := 1) hx hb hml hown hU hN hZ (s_X11_isRule_k11 l (dC, dI) cI cL cZ cR cG cH Z kd L f hG o0 mo0 ko0 p2) wd_1135 wd_1136 wd_1137 wd_2 wd_1138 (by decide +kernel) ⟨Nat.le_of_ble_eq_true rfl, Nat.le_of_ble_eq_true rfl⟩ hK hP hD hS mo0 hfo_1 11 rfl rfl rfl hl.1 rfl (Nat.le_of_ble_eq_true rfl) dX11_quarrel_10 ⟨Nat.le_of_ble_eq_true rfl, Nat.le_of_ble_eq_true rfl⟩ (fun x_25 f_26 H locs hw hP hD hS => ?_)
    obtain ⟨rfl, bx_25, relx_25⟩ := hw
    refine lv_if_eq (tgt := 21) hx hb dX11_quarrel_13 (by decide) (fun c_28 => ?_) (fun c_28 => ?_)
    · skip
      rw [← Int32.toInt_inj, ti_0] at c_28
      refine lv_iconst (v := (-1)) hx hb dX11_quarrel_21 (by decide) ?_
      exact W.iret (v := (-1)) hx hb hr (fun t ht hW => ⟨⟨(-1), f, rfl, ⟨rfl, (by decide)⟩, by rw [ht]; exact hP, va_K.moved hW.alike hK, pl_in hD⟩, hS.F ht⟩) hS.2.2 dX11_quarrel_22
    · skip
      rw [← Int32.toInt_inj, ti_0] at c_28
      refine lv_iload_n hx hb dX11_quarrel_16 rfl (lv_at hl 1 rfl) ?_
      refine lv_iload_n hx hb dX11_quarrel_17 rfl (lv_at hl 2 rfl) ?_
      refine lv_icmp_ne (tgt := 23) hx hb dX11_quarrel_18 (by decide) (fun c_29 => ?_) (fun c_29 => ?_)
      · skip
        rw [← Int32.toInt_inj] at c_29
        refine lv_aload_n hx hb dX11_quarrel_23 rfl (lv_at hl 0 rfl) ?_
        refine tk_getP (D := (dC, dI)) (ci := 11) (v := .ref a_5) (C := RX11) (T := TX11) (N := 19) hx hb hU inlX11 hown hK hP mo0 hfo_1 rfl 3 (by decide) (hU _ wd_19) (fun _ h9 => h9) rfl dX11_quarrel_24 ?_
        obtain ⟨a_31, v_32, a_33, a_34, a_35, a_36, v_37, a_38, a_39, a_40, a_41, a_42, v_43, a_44, a_45, a_46, hfo_30, ⟨ma_31, ka_31⟩, bv_32, ⟨ma_33, ka_33⟩, ⟨ma_34, ka_34⟩, ⟨ma_35, ka_35⟩, ⟨ma_36, ka_36⟩, bv_37, ⟨ma_38, ka_38⟩, ⟨ma_39, ka_39⟩, ⟨ma_40, ka_40⟩, ⟨ma_41, ka_41⟩, ⟨ma_42, ka_42⟩, bv_43, ⟨ma_44, ka_44⟩, ⟨ma_45, ka_45⟩, ⟨ma_46, ka_46⟩⟩ := un_7 (hG _ ma_5) ka_5
        refine tk_getP (D := (dC, dI)) (ci := 7) (v := .ref a_42) (C := RX7) (T := TX7) (N := 16) hx hb hU inlX7 hown hK hP ma_5 hfo_30 rfl 11 (by decide) (hU _ wd_1070) (fun _ h9 => h9) rfl dX11_quarrel_27 ?_
        refine lv_iload_n hx hb dX11_quarrel_30 rfl (lv_at hl 1 rfl) ?_
        obtain ⟨g_48, hfo_47, hbg_48⟩ := un_515 (hG _ ma_42) ka_42
        obtain ⟨a_49, hga_49, ma_49, ka_49⟩ := hbg_48 (Int32.toNatClampNeg p1) (in_lt (vp_in_iff.mpr (by constructor <;> omega)))
        refine tk_aldP hx hb hK hP 3 ma_42 hfo_47 rfl (vp_in_iff.mpr (by constructor <;> omega)) hga_49 dX11_quarrel_31 ?_
        refine lv_astore_n (lv' := [(3, .ref a_49), (0, .ref o0), (1, .int p1), (2, .int p2)]) hx hb dX11_quarrel_32 rfl hl (by decide) rfl (fun ls hl => ?_)
        refine lv_aload_n hx hb dX11_quarrel_33 rfl (lv_at hl 1 rfl) ?_
        refine tk_getP (D := (dC, dI)) (ci := 11) (v := .ref a_5) (C := RX11) (T := TX11) (N := 19) hx hb hU inlX11 hown hK hP mo0 hfo_1 rfl 3 (by decide) (hU _ wd_19) (fun _ h9 => h9) rfl dX11_quarrel_34 ?_
        refine tk_getP (D := (dC, dI)) (ci := 7) (v := .ref a_42) (C := RX7) (T := TX7) (N := 16) hx hb hU inlX7 hown hK hP ma_5 hfo_30 rfl 11 (by decide) (hU _ wd_1070) (fun _ h9 => h9) rfl dX11_quarrel_37 ?_
        refine lv_iload_n hx hb dX11_quarrel_40 rfl (lv_at hl 3 rfl) ?_
        obtain ⟨a_50, hga_50, ma_50, ka_50⟩ := hbg_48 (Int32.toNatClampNeg p2) (in_lt (vp_in_iff.mpr (by constructor <;> omega)))
        refine tk_aldP hx hb hK hP 3 ma_42 hfo_47 rfl (vp_in_iff.mpr (by constructor <;> omega)) hga_50 dX11_quarrel_41 ?_
        refine lv_astore (lv' := [(4, .ref a_50), (3, .ref a_49), (0, .ref o0), (1, .int p1), (2, .int p2)]) hx hb dX11_quarrel_42 hl (by decide) rfl (fun ls hl => ?_)
        refine lv_aload_n hx hb dX11_quarrel_44 rfl (lv_at hl 1 rfl) ?_
        refine lv_aload hx hb dX11_quarrel_45 (lv_at hl 0 rfl) ?_
        obtain ⟨v_52, v_53, v_54, v_55, a_56, a_57, a_58, a_59, v_60, v_61, v_62, hfo_51, bv_52, bv_53, bv_54, bv_55, ⟨ma_56, ka_56⟩, ⟨ma_57, ka_57⟩, ⟨ma_58, ka_58⟩, ⟨ma_59, ka_59⟩⟩ := un_4 (hG _ ma_49) ka_49
        have bv_60 : ((-2147483648) ≤ v_60.toInt ∧ v_60.toInt ≤ 2147483647) := ⟨i32_lo _, i32_hi _⟩
        have bv_61 : ((-2147483648) ≤ v_61.toInt ∧ v_61.toInt ≤ 2147483647) := ⟨i32_lo _, i32_hi _⟩
        have bv_62 : ((-2147483648) ≤ v_62.toInt ∧ v_62.toInt ≤ 2147483647) := ⟨i32_lo _, i32_hi _⟩
        refine tk_ViP (As := [.ref a_50]) (rest := []) (n := 1) hx hb hml hown hU hN hZ (s_X4_mayClash_k4_k4 l (dC, dI) cI cL cZ cR cG cH Z kd L f hG a_49 ma_49 ka_49 a_50 ma_50 ka_50) wd_1260 wd_1261 wd_1262 wd_90 wd_1263 (by decide +kernel) ⟨Nat.le_of_ble_eq_true rfl, Nat.le_of_ble_eq_true rfl⟩ hK hP hD hS ma_49 hfo_51 4 rfl rfl rfl hl.1 rfl (Nat.le_of_ble_eq_true rfl) dX11_quarrel_47 ⟨Nat.le_of_ble_eq_true rfl, Nat.le_of_ble_eq_true rfl⟩ (fun x_63 f_64 H locs hw hP hD hS => ?_)
        obtain ⟨rfl, bx_63⟩ := hw
        refine lv_if_eq (tgt := 69) hx hb dX11_quarrel_50 (by decide) (fun c_66 => ?_) (fun c_66 => ?_)
        · skip
          rw [← Int32.toInt_inj, ti_0] at c_66
          refine lv_iconst (v := (-1)) hx hb dX11_quarrel_69 (by decide) ?_
          exact W.iret (v := (-1)) hx hb hr (fun t ht hW => ⟨⟨(-1), f, rfl, ⟨rfl, (by decide)⟩, by rw [ht]; exact hP, va_K.moved hW.alike hK, pl_in hD⟩, hS.F ht⟩) hS.2.2 dX11_quarrel_70
        · skip
          rw [← Int32.toInt_inj, ti_0] at c_66
          refine lv_aload_n hx hb dX11_quarrel_53 rfl (lv_at hl 1 rfl) ?_
          refine lv_aload hx hb dX11_quarrel_54 (lv_at hl 0 rfl) ?_
          refine lv_aload_n hx hb dX11_quarrel_56 rfl (lv_at hl 2 rfl) ?_
          refine tk_getP (D := (dC, dI)) (ci := 11) (v := .ref a_5) (C := RX11) (T := TX11) (N := 19) hx hb hU inlX11 hown hK hP mo0 hfo_1 rfl 3 (by decide) (hU _ wd_19) (fun _ h9 => h9) rfl dX11_quarrel_57 ?_
          refine tk_getP (D := (dC, dI)) (ci := 7) (v := .int v_37) (C := RX7) (T := TX7) (N := 16) hx hb hU inlX7 hown hK hP ma_5 hfo_30 rfl 6 (by decide) (hU _ wd_1259) (fun _ h9 => h9) rfl dX11_quarrel_60 ?_
          refine tk_ViP (As := [.ref a_50, .int v_37]) (rest := []) (n := 2) hx hb hml hown hU hN hZ (s_X4_shortestClash_k4_k4 l (dC, dI) cI cL cZ cR cG cH Z kd L f hG a_49 ma_49 ka_49 a_50 ma_50 ka_50 v_37 (by constructor <;> omega)) wd_1264 wd_1265 wd_1266 wd_90 wd_1267 (by decide +kernel) ⟨Nat.le_of_ble_eq_true rfl, Nat.le_of_ble_eq_true rfl⟩ hK hP hD hS ma_49 hfo_51 4 rfl rfl rfl hl.1 rfl (Nat.le_of_ble_eq_true rfl) dX11_quarrel_63 ⟨Nat.le_of_ble_eq_true rfl, Nat.le_of_ble_eq_true rfl⟩ (fun x_67 f_68 H locs hw hP hD hS => ?_)
          obtain ⟨rfl, bx_67⟩ := hw
          refine lv_goto (tgt := 70) hx hb dX11_quarrel_66 (by decide) ?_
          exact W.iret (v := x_67) hx hb hr (fun t ht hW => ⟨⟨x_67, f, rfl, ⟨rfl, (by constructor <;> omega)⟩, by rw [ht]; exact hP, va_K.moved hW.alike hK, pl_in hD⟩, hS.F ht⟩) hS.2.2 dX11_quarrel_70
      · skip
        rw [← Int32.toInt_inj] at c_29
        refine lv_iconst (v := (-1)) hx hb dX11_quarrel_21 (by decide) ?_
        exact W.iret (v := (-1)) hx hb hr (fun t ht hW => ⟨⟨(-1), f, rfl, ⟨rfl, (by decide)⟩, by rw [ht]; exact hP, va_K.moved hW.alike hK, pl_in hD⟩, hS.F ht⟩) hS.2.2 dX11_quarrel_22
set_option maxHeartbeats 8000000 in
set_option maxRecDepth 100000 in
theorem s_X11_found_k11 (l : Launch) (D : va_G) (cI cL cZ cR cG cH : ClassId) (Z : zT) (kd : Nat → Nat) (L : List Nat) (f : Nat → va_E) (hG : GI (okc cI cL cZ cR cG cH L kd) kd L f) (o0 : Nat) (mo0 : o0 ∈ L) (ko0 : kd o0 = 11) (p1 : Int32) (p2 : Int32) : mPI l D cI cL cZ cR cG cH Z yX11_found cX11_found 3 (some .int) 3 65 [.ref o0, .int p1, .int p2] L f (fun (r : Int32) (f9 : Nat → va_E) => f = f9 ∧ ((-2147483648) ≤ r.toInt ∧ r.toInt ≤ 2147483647)) := by
  obtain ⟨dC, dI⟩ := D
  refine Met.ofW (cc := cX11_found) (maxL := 3) (ret := (some .int)) (by decide) rfl ?_
  intro p e s m args below meth c s₁ B hml hv
  obtain ⟨rfl, hP, hK, hD0, hN, hZ⟩ := hv
  have hx := B.exec
  have hb := B.bytes
  have hr := B.returns
  have hU : ∀ w ∈ wsU, w.before _ s = true := fun w h => atoms_spec (ws := wU yX11_found cX11_found 3 (some .int)) B.pre w (List.mem_cons_of_mem _ h)
  have hown : s.vm.findClass RX11 = some m.cls := findClass_of_methodNamed B.named
  have hlocks := B.notSynchronized
  have hD := pl_in hD0
  have hS : va_S (fun q => q ∈ L) s.heap s.heap [] := va_S.rf
  have hl := lv_entry ([.ref o0, .int p1, .int p2]) (n := 3) (Nat.le_of_ble_eq_true rfl)
  rw [lg_entry_eq]
  generalize (lg_sl ([.ref o0, .int p1, .int p2]) ++ List.replicate (3 - (lg_sl ([.ref o0, .int p1, .int p2])).length) Slot.unset).toArray = ls at hl ⊢
  have hl : lv_has ls 3 [(0, .ref o0), (1, .int p1), (2, .int p2)] := hl
  have bp1 : ((-2147483648) ≤ p1.toInt ∧ p1.toInt ≤ 2147483647) := ⟨i32_lo _, i32_hi _⟩
  have bp2 : ((-2147483648) ≤ p2.toInt ∧ p2.toInt ≤ 2147483647) := ⟨i32_lo _, i32_hi _⟩
  refine lv_iload_n hx hb dX11_found_0 rfl (lv_at hl 1 rfl) ?_
  refine lv_if_lt (tgt := 15) hx hb dX11_found_1 (by decide) (fun c_1 => ?_) (fun c_1 => ?_)
  · skip
    rw [Int32.lt_iff_toInt_lt, ti_0] at c_1
    refine lv_iconst (v := (-1)) hx hb dX11_found_15 (by decide) ?_
    exact W.iret (v := (-1)) hx hb hr (fun t ht hW => ⟨⟨(-1), f, rfl, ⟨rfl, (by decide)⟩, by rw [ht]; exact hP, va_K.moved hW.alike hK, pl_in hD⟩, hS.F ht⟩) hS.2.2 dX11_found_16
  · skip
    rw [Int32.lt_iff_toInt_lt, ti_0] at c_1
    refine lv_iload_n hx hb dX11_found_4 rfl (lv_at hl 1 rfl) ?_
    refine lv_aload_n hx hb dX11_found_5 rfl (lv_at hl 0 rfl) ?_
    obtain ⟨a_3, v_4, a_5, a_6, a_7, a_8, a_9, a_10, v_11, a_12, a_13, a_14, v_15, v_16, a_17, v_18, a_19, a_20, v_21, hfo_2, ⟨ma_3, ka_3⟩, bv_4, ⟨ma_5, ka_5⟩, ⟨ma_6, ka_6⟩, ⟨ma_7, ka_7⟩, ⟨ma_8, ka_8⟩, ⟨ma_9, ka_9⟩, ⟨ma_10, ka_10⟩, bv_11, ⟨ma_12, ka_12⟩, ⟨ma_13, ka_13⟩, ⟨ma_14, ka_14⟩, bv_15, ⟨ma_17, ka_17⟩, bv_18, ⟨ma_19, ka_19⟩, ⟨ma_20, ka_20⟩⟩ := un_11 (hG _ mo0) ko0
    have bv_16 : ((-2147483648) ≤ v_16.toInt ∧ v_16.toInt ≤ 2147483647) := ⟨i32_lo _, i32_hi _⟩
    have bv_21 : ((-2147483648) ≤ v_21.toInt ∧ v_21.toInt ≤ 2147483647) := ⟨i32_lo _, i32_hi _⟩
    refine tk_getP (D := (dC, dI)) (ci := 11) (v := .ref a_7) (C := RX11) (T := TX11) (N := 19) hx hb hU inlX11 hown hK hP mo0 hfo_2 rfl 4 (by decide) (hU _ wd_21) (fun _ h9 => h9) rfl dX11_found_6 ?_
    obtain ⟨a_23, v_24, v_25, hfo_22, ⟨ma_23, ka_23⟩, bv_24, bv_25⟩ := un_10 (hG _ ma_7) ka_7
    refine tk_getP (D := (dC, dI)) (ci := 10) (v := .int v_24) (C := RX10) (T := TX10) (N := 3) hx hb hU inlX10 hown hK hP ma_7 hfo_22 rfl 1 (by decide) (hU _ wd_708) (fun _ h9 => h9) rfl dX11_found_9 ?_
    refine lv_icmp_lt (tgt := 17) hx hb dX11_found_12 (by decide) (fun c_26 => ?_) (fun c_26 => ?_)
    · skip
      rw [Int32.lt_iff_toInt_lt] at c_26
      refine lv_iload_n hx hb dX11_found_17 rfl (lv_at hl 2 rfl) ?_
      refine lv_iconst (v := (-1)) hx hb dX11_found_18 (by decide) ?_
      refine lv_icmp_ne (tgt := 33) hx hb dX11_found_19 (by decide) (fun c_27 => ?_) (fun c_27 => ?_)
      · skip
        rw [← Int32.toInt_inj, ti_m1] at c_27
        refine lv_aload_n hx hb dX11_found_33 rfl (lv_at hl 0 rfl) ?_
        refine tk_getP (D := (dC, dI)) (ci := 11) (v := .ref a_7) (C := RX11) (T := TX11) (N := 19) hx hb hU inlX11 hown hK hP mo0 hfo_2 rfl 4 (by decide) (hU _ wd_21) (fun _ h9 => h9) rfl dX11_found_34 ?_
        refine lv_iload_n hx hb dX11_found_37 rfl (lv_at hl 1 rfl) ?_
        refine lv_iload_n hx hb dX11_found_38 rfl (lv_at hl 2 rfl) ?_
        refine tk_ViP (As := [.int p1, .int p2]) (rest := []) (n := 2) hx hb hml hown hU hN hZ (s_X10_letterOf_k10 l (dC, dI) cI cL cZ cR cG cH Z kd L f hG a_7 ma_7 ka_7 p1 p2) wd_990 wd_984 wd_985 wd_51 wd_986 (by decide +kernel) ⟨Nat.le_of_ble_eq_true rfl, Nat.le_of_ble_eq_true rfl⟩ hK hP hD hS ma_7 hfo_22 10 rfl rfl rfl hl.1 rfl (Nat.le_of_ble_eq_true rfl) dX11_found_39 ⟨Nat.le_of_ble_eq_true rfl, Nat.le_of_ble_eq_true rfl⟩ (fun x_28 f_29 H locs hw hP hD hS => ?_)
        obtain ⟨rfl, bx_28⟩ := hw
        exact W.iret (v := x_28) hx hb hr (fun t ht hW => ⟨⟨x_28, f, rfl, ⟨rfl, (by constructor <;> omega)⟩, by rw [ht]; exact hP, va_K.moved hW.alike hK, pl_in hD⟩, hS.F ht⟩) hS.2.2 dX11_found_42
      · skip
        rw [← Int32.toInt_inj, ti_m1] at c_27
        refine lv_aload_n hx hb dX11_found_22 rfl (lv_at hl 0 rfl) ?_
        refine tk_getP (D := (dC, dI)) (ci := 11) (v := .ref a_7) (C := RX11) (T := TX11) (N := 19) hx hb hU inlX11 hown hK hP mo0 hfo_2 rfl 4 (by decide) (hU _ wd_21) (fun _ h9 => h9) rfl dX11_found_23 ?_
        refine lv_iload_n hx hb dX11_found_26 rfl (lv_at hl 1 rfl) ?_
        refine tk_ViP (As := [.int p1]) (rest := []) (n := 1) hx hb hml hown hU hN hZ (s_X10_lengthOf_k10 l (dC, dI) cI cL cZ cR cG cH Z kd L f hG a_7 ma_7 ka_7 p1) wd_978 wd_979 wd_980 wd_51 wd_981 (by decide +kernel) ⟨Nat.le_of_ble_eq_true rfl, Nat.le_of_ble_eq_true rfl⟩ hK hP hD hS ma_7 hfo_22 10 rfl rfl rfl hl.1 rfl (Nat.le_of_ble_eq_true rfl) dX11_found_27 ⟨Nat.le_of_ble_eq_true rfl, Nat.le_of_ble_eq_true rfl⟩ (fun x_31 f_32 H locs hw hP hD hS => ?_)
        obtain ⟨rfl, bx_31⟩ := hw
        refine lv_goto (tgt := 42) hx hb dX11_found_30 (by decide) ?_
        exact W.iret (v := x_31) hx hb hr (fun t ht hW => ⟨⟨x_31, f, rfl, ⟨rfl, (by constructor <;> omega)⟩, by rw [ht]; exact hP, va_K.moved hW.alike hK, pl_in hD⟩, hS.F ht⟩) hS.2.2 dX11_found_42
    · skip
      rw [Int32.lt_iff_toInt_lt] at c_26
      refine lv_iconst (v := (-1)) hx hb dX11_found_15 (by decide) ?_
      exact W.iret (v := (-1)) hx hb hr (fun t ht hW => ⟨⟨(-1), f, rfl, ⟨rfl, (by decide)⟩, by rw [ht]; exact hP, va_K.moved hW.alike hK, pl_in hD⟩, hS.F ht⟩) hS.2.2 dX11_found_16
set_option maxHeartbeats 8000000 in
set_option maxRecDepth 100000 in
theorem s_X11_lookFurther_k11 (l : Launch) (D : va_G) (cI cL cZ cR cG cH : ClassId) (Z : zT) (kd : Nat → Nat) (L : List Nat) (f : Nat → va_E) (hG : GI (okc cI cL cZ cR cG cH L kd) kd L f) (o0 : Nat) (mo0 : o0 ∈ L) (ko0 : kd o0 = 11) (p1 : Int32) : mPI l D cI cL cZ cR cG cH Z yX11_lookFurther cX11_lookFurther 2 (some .int) 1 21 [.ref o0, .int p1] L f (fun (r : Int32) (f9 : Nat → va_E) => f = f9 ∧ ((-2147483648) ≤ r.toInt ∧ r.toInt ≤ 2147483647)) := by
  obtain ⟨dC, dI⟩ := D
  refine Met.ofW (cc := cX11_lookFurther) (maxL := 2) (ret := (some .int)) (by decide) rfl ?_
  intro p e s m args below meth c s₁ B hml hv
  obtain ⟨rfl, hP, hK, hD0, hN, hZ⟩ := hv
  have hx := B.exec
  have hb := B.bytes
  have hr := B.returns
  have hU : ∀ w ∈ wsU, w.before _ s = true := fun w h => atoms_spec (ws := wU yX11_lookFurther cX11_lookFurther 2 (some .int)) B.pre w (List.mem_cons_of_mem _ h)
  have hown : s.vm.findClass RX11 = some m.cls := findClass_of_methodNamed B.named
  have hlocks := B.notSynchronized
  have hD := pl_in hD0
  have hS : va_S (fun q => q ∈ L) s.heap s.heap [] := va_S.rf
  have hl := lv_entry ([.ref o0, .int p1]) (n := 2) (Nat.le_of_ble_eq_true rfl)
  rw [lg_entry_eq]
  generalize (lg_sl ([.ref o0, .int p1]) ++ List.replicate (2 - (lg_sl ([.ref o0, .int p1])).length) Slot.unset).toArray = ls at hl ⊢
  have hl : lv_has ls 2 [(0, .ref o0), (1, .int p1)] := hl
  have bp1 : ((-2147483648) ≤ p1.toInt ∧ p1.toInt ≤ 2147483647) := ⟨i32_lo _, i32_hi _⟩
  refine lv_iload_n hx hb dX11_lookFurther_0 rfl (lv_at hl 1 rfl) ?_
  refine lv_bipush (v := 10) hx hb dX11_lookFurther_1 (by decide) ?_
  refine lv_icmp_lt (tgt := 28) hx hb dX11_lookFurther_3 (by decide) (fun c_1 => ?_) (fun c_1 => ?_)
  · skip
    rw [Int32.lt_iff_toInt_lt, ti_10] at c_1
    refine lv_iload_n hx hb dX11_lookFurther_28 rfl (lv_at hl 1 rfl) ?_
    refine lv_bipush (v := 20) hx hb dX11_lookFurther_29 (by decide) ?_
    refine lv_icmp_lt (tgt := 55) hx hb dX11_lookFurther_31 (by decide) (fun c_2 => ?_) (fun c_2 => ?_)
    · skip
      rw [Int32.lt_iff_toInt_lt, ti_20] at c_2
      refine lv_iload_n hx hb dX11_lookFurther_55 rfl (lv_at hl 1 rfl) ?_
      refine lv_bipush (v := 40) hx hb dX11_lookFurther_56 (by decide) ?_
      refine lv_icmp_lt (tgt := 82) hx hb dX11_lookFurther_58 (by decide) (fun c_3 => ?_) (fun c_3 => ?_)
      · skip
        rw [Int32.lt_iff_toInt_lt, ti_40] at c_3
        refine lv_iload_n hx hb dX11_lookFurther_82 rfl (lv_at hl 1 rfl) ?_
        refine lv_bipush (v := 50) hx hb dX11_lookFurther_83 (by decide) ?_
        refine lv_icmp_lt (tgt := 115) hx hb dX11_lookFurther_85 (by decide) (fun c_4 => ?_) (fun c_4 => ?_)
        · skip
          rw [Int32.lt_iff_toInt_lt, ti_50] at c_4
          refine lv_iconst (v := (-1)) hx hb dX11_lookFurther_115 (by decide) ?_
          exact W.iret (v := (-1)) hx hb hr (fun t ht hW => ⟨⟨(-1), f, rfl, ⟨rfl, (by decide)⟩, by rw [ht]; exact hP, va_K.moved hW.alike hK, pl_in hD⟩, hS.F ht⟩) hS.2.2 dX11_lookFurther_116
        · skip
          rw [Int32.lt_iff_toInt_lt, ti_50] at c_4
          exfalso
          omega
      · skip
        rw [Int32.lt_iff_toInt_lt, ti_40] at c_3
        exfalso
        omega
    · skip
      rw [Int32.lt_iff_toInt_lt, ti_20] at c_2
      exfalso
      omega
  · skip
    rw [Int32.lt_iff_toInt_lt, ti_10] at c_1
    refine lv_iload_n hx hb dX11_lookFurther_6 rfl (lv_at hl 1 rfl) ?_
    refine lv_bipush (v := 16) hx hb dX11_lookFurther_7 (by decide) ?_
    refine lv_icmp_ge (tgt := 28) hx hb dX11_lookFurther_9 (by decide) (fun c_5 => ?_) (fun c_5 => ?_)
    · skip
      rw [Int32.le_iff_toInt_le, ti_16] at c_5
      refine lv_iload_n hx hb dX11_lookFurther_28 rfl (lv_at hl 1 rfl) ?_
      refine lv_bipush (v := 20) hx hb dX11_lookFurther_29 (by decide) ?_
      refine lv_icmp_lt (tgt := 55) hx hb dX11_lookFurther_31 (by decide) (fun c_6 => ?_) (fun c_6 => ?_)
      · skip
        rw [Int32.lt_iff_toInt_lt, ti_20] at c_6
        refine lv_iload_n hx hb dX11_lookFurther_55 rfl (lv_at hl 1 rfl) ?_
        refine lv_bipush (v := 40) hx hb dX11_lookFurther_56 (by decide) ?_
        refine lv_icmp_lt (tgt := 82) hx hb dX11_lookFurther_58 (by decide) (fun c_7 => ?_) (fun c_7 => ?_)
        · skip
          rw [Int32.lt_iff_toInt_lt, ti_40] at c_7
          refine lv_iload_n hx hb dX11_lookFurther_82 rfl (lv_at hl 1 rfl) ?_
          refine lv_bipush (v := 50) hx hb dX11_lookFurther_83 (by decide) ?_
          refine lv_icmp_lt (tgt := 115) hx hb dX11_lookFurther_85 (by decide) (fun c_8 => ?_) (fun c_8 => ?_)
          · skip
            rw [Int32.lt_iff_toInt_lt, ti_50] at c_8
            refine lv_iconst (v := (-1)) hx hb dX11_lookFurther_115 (by decide) ?_
            exact W.iret (v := (-1)) hx hb hr (fun t ht hW => ⟨⟨(-1), f, rfl, ⟨rfl, (by decide)⟩, by rw [ht]; exact hP, va_K.moved hW.alike hK, pl_in hD⟩, hS.F ht⟩) hS.2.2 dX11_lookFurther_116
          · skip
            rw [Int32.lt_iff_toInt_lt, ti_50] at c_8
            exfalso
            omega
        · skip
          rw [Int32.lt_iff_toInt_lt, ti_40] at c_7
          exfalso
          omega
      · skip
        rw [Int32.lt_iff_toInt_lt, ti_20] at c_6
        refine lv_iload_n hx hb dX11_lookFurther_34 rfl (lv_at hl 1 rfl) ?_
        refine lv_bipush (v := 40) hx hb dX11_lookFurther_35 (by decide) ?_
        refine lv_icmp_ge (tgt := 55) hx hb dX11_lookFurther_37 (by decide) (fun c_9 => ?_) (fun c_9 => ?_)
        · skip
          rw [Int32.le_iff_toInt_le, ti_40] at c_9
          refine lv_iload_n hx hb dX11_lookFurther_55 rfl (lv_at hl 1 rfl) ?_
          refine lv_bipush (v := 40) hx hb dX11_lookFurther_56 (by decide) ?_
          refine lv_icmp_lt (tgt := 82) hx hb dX11_lookFurther_58 (by decide) (fun c_10 => ?_) (fun c_10 => ?_)
          · skip
            rw [Int32.lt_iff_toInt_lt, ti_40] at c_10
            exfalso
            omega
          · skip
            rw [Int32.lt_iff_toInt_lt, ti_40] at c_10
            refine lv_iload_n hx hb dX11_lookFurther_61 rfl (lv_at hl 1 rfl) ?_
            refine lv_bipush (v := 50) hx hb dX11_lookFurther_62 (by decide) ?_
            refine lv_icmp_ge (tgt := 82) hx hb dX11_lookFurther_64 (by decide) (fun c_11 => ?_) (fun c_11 => ?_)
            · skip
              rw [Int32.le_iff_toInt_le, ti_50] at c_11
              refine lv_iload_n hx hb dX11_lookFurther_82 rfl (lv_at hl 1 rfl) ?_
              refine lv_bipush (v := 50) hx hb dX11_lookFurther_83 (by decide) ?_
              refine lv_icmp_lt (tgt := 115) hx hb dX11_lookFurther_85 (by decide) (fun c_12 => ?_) (fun c_12 => ?_)
              · skip
                rw [Int32.lt_iff_toInt_lt, ti_50] at c_12
                exfalso
                omega
              · skip
                rw [Int32.lt_iff_toInt_lt, ti_50] at c_12
                refine lv_iload_n hx hb dX11_lookFurther_88 rfl (lv_at hl 1 rfl) ?_
                refine lv_bipush (v := 50) hx hb dX11_lookFurther_89 (by decide) ?_
                refine lv_aload_n hx hb dX11_lookFurther_91 rfl (lv_at hl 0 rfl) ?_
                obtain ⟨a_14, v_15, a_16, a_17, a_18, a_19, a_20, a_21, v_22, a_23, a_24, a_25, v_26, v_27, a_28, v_29, a_30, a_31, v_32, hfo_13, ⟨ma_14, ka_14⟩, bv_15, ⟨ma_16, ka_16⟩, ⟨ma_17, ka_17⟩, ⟨ma_18, ka_18⟩, ⟨ma_19, ka_19⟩, ⟨ma_20, ka_20⟩, ⟨ma_21, ka_21⟩, bv_22, ⟨ma_23, ka_23⟩, ⟨ma_24, ka_24⟩, ⟨ma_25, ka_25⟩, bv_26, ⟨ma_28, ka_28⟩, bv_29, ⟨ma_30, ka_30⟩, ⟨ma_31, ka_31⟩⟩ := un_11 (hG _ mo0) ko0
                have bv_27 : ((-2147483648) ≤ v_27.toInt ∧ v_27.toInt ≤ 2147483647) := ⟨i32_lo _, i32_hi _⟩
                have bv_32 : ((-2147483648) ≤ v_32.toInt ∧ v_32.toInt ≤ 2147483647) := ⟨i32_lo _, i32_hi _⟩
                refine tk_getP (D := (dC, dI)) (ci := 11) (v := .ref a_17) (C := RX11) (T := TX11) (N := 19) hx hb hU inlX11 hown hK hP mo0 hfo_13 rfl 3 (by decide) (hU _ wd_19) (fun _ h9 => h9) rfl dX11_lookFurther_92 ?_
                obtain ⟨a_34, v_35, a_36, a_37, a_38, a_39, v_40, a_41, a_42, a_43, a_44, a_45, v_46, a_47, a_48, a_49, hfo_33, ⟨ma_34, ka_34⟩, bv_35, ⟨ma_36, ka_36⟩, ⟨ma_37, ka_37⟩, ⟨ma_38, ka_38⟩, ⟨ma_39, ka_39⟩, bv_40, ⟨ma_41, ka_41⟩, ⟨ma_42, ka_42⟩, ⟨ma_43, ka_43⟩, ⟨ma_44, ka_44⟩, ⟨ma_45, ka_45⟩, bv_46, ⟨ma_47, ka_47⟩, ⟨ma_48, ka_48⟩, ⟨ma_49, ka_49⟩⟩ := un_7 (hG _ ma_17) ka_17
                refine tk_getP (D := (dC, dI)) (ci := 7) (v := .int v_46) (C := RX7) (T := TX7) (N := 16) hx hb hU inlX7 hown hK hP ma_17 hfo_33 rfl 12 (by decide) (hU _ wd_235) (fun _ h9 => h9) rfl dX11_lookFurther_95 ?_
                refine lv_iadd hx hb dX11_lookFurther_98 ?_
                refine lv_topi (fun x_50 ex_50 => ?_)
                have hx_50 : x_50.toInt = 50 + v_46.toInt := by rw [ex_50, ad_I (by rw [ti_50]; omega) (by rw [ti_50]; omega), ti_50]
                have bx_50 : (50 ≤ x_50.toInt ∧ x_50.toInt ≤ 58) := by constructor <;> omega
                refine lv_icmp_ge (tgt := 115) hx hb dX11_lookFurther_99 (by decide) (fun c_51 => ?_) (fun c_51 => ?_)
                · skip
                  rw [Int32.le_iff_toInt_le] at c_51
                  refine lv_iconst (v := (-1)) hx hb dX11_lookFurther_115 (by decide) ?_
                  exact W.iret (v := (-1)) hx hb hr (fun t ht hW => ⟨⟨(-1), f, rfl, ⟨rfl, (by decide)⟩, by rw [ht]; exact hP, va_K.moved hW.alike hK, pl_in hD⟩, hS.F ht⟩) hS.2.2 dX11_lookFurther_116
                · skip
                  rw [Int32.le_iff_toInt_le] at c_51
                  refine lv_aload_n hx hb dX11_lookFurther_102 rfl (lv_at hl 0 rfl) ?_
                  refine tk_getP (D := (dC, dI)) (ci := 11) (v := .ref a_19) (C := RX11) (T := TX11) (N := 19) hx hb hU inlX11 hown hK hP mo0 hfo_13 rfl 5 (by decide) (hU _ wd_25) (fun _ h9 => h9) rfl dX11_lookFurther_103 ?_
                  obtain ⟨v_53, v_54, a_55, a_56, a_57, v_58, a_59, a_60, a_61, hfo_52, bv_54, ⟨ma_55, ka_55⟩, ⟨ma_56, ka_56⟩, ⟨ma_57, ka_57⟩, ⟨ma_59, ka_59⟩, ⟨ma_60, ka_60⟩, ⟨ma_61, ka_61⟩⟩ := un_6 (hG _ ma_19) ka_19
                  have bv_53 : ((-2147483648) ≤ v_53.toInt ∧ v_53.toInt ≤ 2147483647) := ⟨i32_lo _, i32_hi _⟩
                  have bv_58 : ((-2147483648) ≤ v_58.toInt ∧ v_58.toInt ≤ 2147483647) := ⟨i32_lo _, i32_hi _⟩
                  refine tk_getP (D := (dC, dI)) (ci := 6) (v := .ref a_55) (C := RX6) (T := TX6) (N := 9) hx hb hU inlX6 hown hK hP ma_19 hfo_52 rfl 2 (by decide) (hU _ wd_1102) (fun _ h9 => h9) rfl dX11_lookFurther_106 ?_
                  refine lv_iload_n hx hb dX11_lookFurther_109 rfl (lv_at hl 1 rfl) ?_
                  refine lv_bipush (v := 50) hx hb dX11_lookFurther_110 (by decide) ?_
                  refine lv_isub hx hb dX11_lookFurther_112 ?_
                  refine lv_topi (fun x_62 ex_62 => ?_)
                  have hx_62 : x_62.toInt = p1.toInt - 50 := by rw [ex_62, sb_I (by rw [ti_50]; omega) (by rw [ti_50]; omega), ti_50]
                  have bx_62 : (0 ≤ x_62.toInt ∧ x_62.toInt ≤ 7) := by constructor <;> omega
                  obtain ⟨g_64, hfo_63, hbg_64⟩ := un_530 (hG _ ma_55) ka_55
                  refine tk_ildP hx hb hK hP 0 ma_55 hfo_63 rfl (vp_in_iff.mpr (by constructor <;> omega)) dX11_lookFurther_113 ?_
                  refine lv_topi (fun x_65 ex_65 => ?_)
                  have bx_65 : (0 ≤ x_65.toInt ∧ x_65.toInt ≤ 7) := by rw [ex_65]; exact hbg_64 _
                  exact W.iret (v := x_65) hx hb hr (fun t ht hW => ⟨⟨x_65, f, rfl, ⟨rfl, (by constructor <;> omega)⟩, by rw [ht]; exact hP, va_K.moved hW.alike hK, pl_in hD⟩, hS.F ht⟩) hS.2.2 dX11_lookFurther_114
            · skip
              rw [Int32.le_iff_toInt_le, ti_50] at c_11
              refine lv_aload_n hx hb dX11_lookFurther_67 rfl (lv_at hl 0 rfl) ?_
              obtain ⟨a_67, v_68, a_69, a_70, a_71, a_72, a_73, a_74, v_75, a_76, a_77, a_78, v_79, v_80, a_81, v_82, a_83, a_84, v_85, hfo_66, ⟨ma_67, ka_67⟩, bv_68, ⟨ma_69, ka_69⟩, ⟨ma_70, ka_70⟩, ⟨ma_71, ka_71⟩, ⟨ma_72, ka_72⟩, ⟨ma_73, ka_73⟩, ⟨ma_74, ka_74⟩, bv_75, ⟨ma_76, ka_76⟩, ⟨ma_77, ka_77⟩, ⟨ma_78, ka_78⟩, bv_79, ⟨ma_81, ka_81⟩, bv_82, ⟨ma_83, ka_83⟩, ⟨ma_84, ka_84⟩⟩ := un_11 (hG _ mo0) ko0
              have bv_80 : ((-2147483648) ≤ v_80.toInt ∧ v_80.toInt ≤ 2147483647) := ⟨i32_lo _, i32_hi _⟩
              have bv_85 : ((-2147483648) ≤ v_85.toInt ∧ v_85.toInt ≤ 2147483647) := ⟨i32_lo _, i32_hi _⟩
              refine tk_getP (D := (dC, dI)) (ci := 11) (v := .ref a_70) (C := RX11) (T := TX11) (N := 19) hx hb hU inlX11 hown hK hP mo0 hfo_66 rfl 3 (by decide) (hU _ wd_19) (fun _ h9 => h9) rfl dX11_lookFurther_68 ?_
              obtain ⟨a_87, v_88, a_89, a_90, a_91, a_92, v_93, a_94, a_95, a_96, a_97, a_98, v_99, a_100, a_101, a_102, hfo_86, ⟨ma_87, ka_87⟩, bv_88, ⟨ma_89, ka_89⟩, ⟨ma_90, ka_90⟩, ⟨ma_91, ka_91⟩, ⟨ma_92, ka_92⟩, bv_93, ⟨ma_94, ka_94⟩, ⟨ma_95, ka_95⟩, ⟨ma_96, ka_96⟩, ⟨ma_97, ka_97⟩, ⟨ma_98, ka_98⟩, bv_99, ⟨ma_100, ka_100⟩, ⟨ma_101, ka_101⟩, ⟨ma_102, ka_102⟩⟩ := un_7 (hG _ ma_70) ka_70
              refine tk_getP (D := (dC, dI)) (ci := 7) (v := .ref a_101) (C := RX7) (T := TX7) (N := 16) hx hb hU inlX7 hown hK hP ma_70 hfo_86 rfl 14 (by decide) (hU _ wd_1001) (fun _ h9 => h9) rfl dX11_lookFurther_71 ?_
              refine lv_iload_n hx hb dX11_lookFurther_74 rfl (lv_at hl 1 rfl) ?_
              refine lv_bipush (v := 40) hx hb dX11_lookFurther_75 (by decide) ?_
              refine lv_isub hx hb dX11_lookFurther_77 ?_
              refine lv_topi (fun x_103 ex_103 => ?_)
              have hx_103 : x_103.toInt = p1.toInt - 40 := by rw [ex_103, sb_I (by rw [ti_40]; omega) (by rw [ti_40]; omega), ti_40]
              have bx_103 : (0 ≤ x_103.toInt ∧ x_103.toInt ≤ 9) := by constructor <;> omega
              obtain ⟨a_105, a_106, v_107, hfo_104, ⟨ma_105, ka_105⟩, ⟨ma_106, ka_106⟩, bv_107⟩ := un_13 (hG _ ma_101) ka_101
              refine tk_ViP (As := [.int x_103]) (rest := []) (n := 1) hx hb hml hown hU hN hZ (s_X9_lengthOf_k13 l (dC, dI) cI cL cZ cR cG cH Z kd L f hG a_101 ma_101 ka_101 x_103) wd_1493 wd_1011 wd_1012 wd_85 wd_1013 (by decide +kernel) ⟨Nat.le_of_ble_eq_true rfl, Nat.le_of_ble_eq_true rfl⟩ hK hP hD hS ma_101 hfo_104 9 rfl rfl rfl hl.1 rfl (Nat.le_of_ble_eq_true rfl) dX11_lookFurther_78 ⟨Nat.le_of_ble_eq_true rfl, Nat.le_of_ble_eq_true rfl⟩ (fun x_108 f_109 H locs hw hP hD hS => ?_)
              obtain ⟨rfl, bx_108, relx_108⟩ := hw
              exact W.iret (v := x_108) hx hb hr (fun t ht hW => ⟨⟨x_108, f, rfl, ⟨rfl, (by constructor <;> omega)⟩, by rw [ht]; exact hP, va_K.moved hW.alike hK, pl_in hD⟩, hS.F ht⟩) hS.2.2 dX11_lookFurther_81
        · skip
          rw [Int32.le_iff_toInt_le, ti_40] at c_9
          refine lv_aload_n hx hb dX11_lookFurther_40 rfl (lv_at hl 0 rfl) ?_
          obtain ⟨a_112, v_113, a_114, a_115, a_116, a_117, a_118, a_119, v_120, a_121, a_122, a_123, v_124, v_125, a_126, v_127, a_128, a_129, v_130, hfo_111, ⟨ma_112, ka_112⟩, bv_113, ⟨ma_114, ka_114⟩, ⟨ma_115, ka_115⟩, ⟨ma_116, ka_116⟩, ⟨ma_117, ka_117⟩, ⟨ma_118, ka_118⟩, ⟨ma_119, ka_119⟩, bv_120, ⟨ma_121, ka_121⟩, ⟨ma_122, ka_122⟩, ⟨ma_123, ka_123⟩, bv_124, ⟨ma_126, ka_126⟩, bv_127, ⟨ma_128, ka_128⟩, ⟨ma_129, ka_129⟩⟩ := un_11 (hG _ mo0) ko0
          have bv_125 : ((-2147483648) ≤ v_125.toInt ∧ v_125.toInt ≤ 2147483647) := ⟨i32_lo _, i32_hi _⟩
          have bv_130 : ((-2147483648) ≤ v_130.toInt ∧ v_130.toInt ≤ 2147483647) := ⟨i32_lo _, i32_hi _⟩
          refine tk_getP (D := (dC, dI)) (ci := 11) (v := .ref a_115) (C := RX11) (T := TX11) (N := 19) hx hb hU inlX11 hown hK hP mo0 hfo_111 rfl 3 (by decide) (hU _ wd_19) (fun _ h9 => h9) rfl dX11_lookFurther_41 ?_
          obtain ⟨a_132, v_133, a_134, a_135, a_136, a_137, v_138, a_139, a_140, a_141, a_142, a_143, v_144, a_145, a_146, a_147, hfo_131, ⟨ma_132, ka_132⟩, bv_133, ⟨ma_134, ka_134⟩, ⟨ma_135, ka_135⟩, ⟨ma_136, ka_136⟩, ⟨ma_137, ka_137⟩, bv_138, ⟨ma_139, ka_139⟩, ⟨ma_140, ka_140⟩, ⟨ma_141, ka_141⟩, ⟨ma_142, ka_142⟩, ⟨ma_143, ka_143⟩, bv_144, ⟨ma_145, ka_145⟩, ⟨ma_146, ka_146⟩, ⟨ma_147, ka_147⟩⟩ := un_7 (hG _ ma_115) ka_115
          refine tk_getP (D := (dC, dI)) (ci := 7) (v := .ref a_145) (C := RX7) (T := TX7) (N := 16) hx hb hU inlX7 hown hK hP ma_115 hfo_131 rfl 13 (by decide) (hU _ wd_999) (fun _ h9 => h9) rfl dX11_lookFurther_44 ?_
          refine lv_iload_n hx hb dX11_lookFurther_47 rfl (lv_at hl 1 rfl) ?_
          refine lv_bipush (v := 20) hx hb dX11_lookFurther_48 (by decide) ?_
          refine lv_isub hx hb dX11_lookFurther_50 ?_
          refine lv_topi (fun x_148 ex_148 => ?_)
          have hx_148 : x_148.toInt = p1.toInt - 20 := by rw [ex_148, sb_I (by rw [ti_20]; omega) (by rw [ti_20]; omega), ti_20]
          have bx_148 : (0 ≤ x_148.toInt ∧ x_148.toInt ≤ 19) := by constructor <;> omega
          obtain ⟨a_150, a_151, v_152, hfo_149, ⟨ma_150, ka_150⟩, ⟨ma_151, ka_151⟩, bv_152⟩ := un_9 (hG _ ma_145) ka_145
          refine tk_ViP (As := [.int x_148]) (rest := []) (n := 1) hx hb hml hown hU hN hZ (s_X9_lengthOf_k9 l (dC, dI) cI cL cZ cR cG cH Z kd L f hG a_145 ma_145 ka_145 x_148) wd_1493 wd_1011 wd_1012 wd_85 wd_1013 (by decide +kernel) ⟨Nat.le_of_ble_eq_true rfl, Nat.le_of_ble_eq_true rfl⟩ hK hP hD hS ma_145 hfo_149 9 rfl rfl rfl hl.1 rfl (Nat.le_of_ble_eq_true rfl) dX11_lookFurther_51 ⟨Nat.le_of_ble_eq_true rfl, Nat.le_of_ble_eq_true rfl⟩ (fun x_153 f_154 H locs hw hP hD hS => ?_)
          obtain ⟨rfl, bx_153, relx_153⟩ := hw
          exact W.iret (v := x_153) hx hb hr (fun t ht hW => ⟨⟨x_153, f, rfl, ⟨rfl, (by constructor <;> omega)⟩, by rw [ht]; exact hP, va_K.moved hW.alike hK, pl_in hD⟩, hS.F ht⟩) hS.2.2 dX11_lookFurther_54
    · skip
      rw [Int32.le_iff_toInt_le, ti_16] at c_5
      refine lv_aload_n hx hb dX11_lookFurther_12 rfl (lv_at hl 0 rfl) ?_
      obtain ⟨a_157, v_158, a_159, a_160, a_161, a_162, a_163, a_164, v_165, a_166, a_167, a_168, v_169, v_170, a_171, v_172, a_173, a_174, v_175, hfo_156, ⟨ma_157, ka_157⟩, bv_158, ⟨ma_159, ka_159⟩, ⟨ma_160, ka_160⟩, ⟨ma_161, ka_161⟩, ⟨ma_162, ka_162⟩, ⟨ma_163, ka_163⟩, ⟨ma_164, ka_164⟩, bv_165, ⟨ma_166, ka_166⟩, ⟨ma_167, ka_167⟩, ⟨ma_168, ka_168⟩, bv_169, ⟨ma_171, ka_171⟩, bv_172, ⟨ma_173, ka_173⟩, ⟨ma_174, ka_174⟩⟩ := un_11 (hG _ mo0) ko0
      have bv_170 : ((-2147483648) ≤ v_170.toInt ∧ v_170.toInt ≤ 2147483647) := ⟨i32_lo _, i32_hi _⟩
      have bv_175 : ((-2147483648) ≤ v_175.toInt ∧ v_175.toInt ≤ 2147483647) := ⟨i32_lo _, i32_hi _⟩
      refine tk_getP (D := (dC, dI)) (ci := 11) (v := .ref a_160) (C := RX11) (T := TX11) (N := 19) hx hb hU inlX11 hown hK hP mo0 hfo_156 rfl 3 (by decide) (hU _ wd_19) (fun _ h9 => h9) rfl dX11_lookFurther_13 ?_
      obtain ⟨a_177, v_178, a_179, a_180, a_181, a_182, v_183, a_184, a_185, a_186, a_187, a_188, v_189, a_190, a_191, a_192, hfo_176, ⟨ma_177, ka_177⟩, bv_178, ⟨ma_179, ka_179⟩, ⟨ma_180, ka_180⟩, ⟨ma_181, ka_181⟩, ⟨ma_182, ka_182⟩, bv_183, ⟨ma_184, ka_184⟩, ⟨ma_185, ka_185⟩, ⟨ma_186, ka_186⟩, ⟨ma_187, ka_187⟩, ⟨ma_188, ka_188⟩, bv_189, ⟨ma_190, ka_190⟩, ⟨ma_191, ka_191⟩, ⟨ma_192, ka_192⟩⟩ := un_7 (hG _ ma_160) ka_160
      refine tk_getP (D := (dC, dI)) (ci := 7) (v := .ref a_179) (C := RX7) (T := TX7) (N := 16) hx hb hU inlX7 hown hK hP ma_160 hfo_176 rfl 2 (by decide) (hU _ wd_1492) (fun _ h9 => h9) rfl dX11_lookFurther_16 ?_
      refine lv_iload_n hx hb dX11_lookFurther_19 rfl (lv_at hl 1 rfl) ?_
      refine lv_bipush (v := 10) hx hb dX11_lookFurther_20 (by decide) ?_
      refine lv_isub hx hb dX11_lookFurther_22 ?_
      refine lv_topi (fun x_193 ex_193 => ?_)
      have hx_193 : x_193.toInt = p1.toInt - 10 := by rw [ex_193, sb_I (by rw [ti_10]; omega) (by rw [ti_10]; omega), ti_10]
      have bx_193 : (0 ≤ x_193.toInt ∧ x_193.toInt ≤ 5) := by constructor <;> omega
      obtain ⟨g_195, hfo_194, hbg_195⟩ := un_509 (hG _ ma_179) ka_179
      refine tk_ildP hx hb hK hP 0 ma_179 hfo_194 rfl (vp_in_iff.mpr (by constructor <;> omega)) dX11_lookFurther_23 ?_
      refine lv_topi (fun x_196 ex_196 => ?_)
      have bx_196 : ((-2147483648) ≤ x_196.toInt ∧ x_196.toInt ≤ 2147483647) := ⟨i32_lo _, i32_hi _⟩
      refine tk_SiP (As := [.int x_196]) (rest := []) (n := 1) hx hb hml hown hU hN hZ (s_J6_bitCount_0f7a4 l (dC, dI) cI cL cZ cR cG cH Z kd L f hG x_196) wd_1183 wd_1184 wd_1185 wd_1186 (by decide +kernel) ⟨Nat.le_of_ble_eq_true rfl, Nat.le_of_ble_eq_true rfl⟩ hK hP hD hS rfl hl.1 rfl (Nat.le_of_ble_eq_true rfl) dX11_lookFurther_24 ⟨Nat.le_of_ble_eq_true rfl, Nat.le_of_ble_eq_true rfl⟩ (fun x_197 f_198 H locs hw hP hD hS => ?_)
      obtain ⟨rfl, bx_197⟩ := hw
      exact W.iret (v := x_197) hx hb hr (fun t ht hW => ⟨⟨x_197, f, rfl, ⟨rfl, (by constructor <;> omega)⟩, by rw [ht]; exact hP, va_K.moved hW.alike hK, pl_in hD⟩, hS.F ht⟩) hS.2.2 dX11_lookFurther_27
set_option maxHeartbeats 8000000 in
set_option maxRecDepth 100000 in
theorem s_X11_look_k11 (l : Launch) (D : va_G) (cI cL cZ cR cG cH : ClassId) (Z : zT) (kd : Nat → Nat) (L : List Nat) (f : Nat → va_E) (hG : GI (okc cI cL cZ cR cG cH L kd) kd L f) (o0 : Nat) (mo0 : o0 ∈ L) (ko0 : kd o0 = 11) (p1 : Int32) : mPI l D cI cL cZ cR cG cH Z yX11_look cX11_look 2 (some .int) 2 42 [.ref o0, .int p1] L f (fun (r : Int32) (f9 : Nat → va_E) => f = f9 ∧ ((-2147483648) ≤ r.toInt ∧ r.toInt ≤ 2147483647)) := by
  obtain ⟨dC, dI⟩ := D
  refine Met.ofW (cc := cX11_look) (maxL := 2) (ret := (some .int)) (by decide) rfl ?_
  intro p e s m args below meth c s₁ B hml hv
  obtain ⟨rfl, hP, hK, hD0, hN, hZ⟩ := hv
  have hx := B.exec
  have hb := B.bytes
  have hr := B.returns
  have hU : ∀ w ∈ wsU, w.before _ s = true := fun w h => atoms_spec (ws := wU yX11_look cX11_look 2 (some .int)) B.pre w (List.mem_cons_of_mem _ h)
  have hown : s.vm.findClass RX11 = some m.cls := findClass_of_methodNamed B.named
  have hlocks := B.notSynchronized
  have hD := pl_in hD0
  have hS : va_S (fun q => q ∈ L) s.heap s.heap [] := va_S.rf
  have hl := lv_entry ([.ref o0, .int p1]) (n := 2) (Nat.le_of_ble_eq_true rfl)
  rw [lg_entry_eq]
  generalize (lg_sl ([.ref o0, .int p1]) ++ List.replicate (2 - (lg_sl ([.ref o0, .int p1])).length) Slot.unset).toArray = ls at hl ⊢
  have hl : lv_has ls 2 [(0, .ref o0), (1, .int p1)] := hl
  have bp1 : ((-2147483648) ≤ p1.toInt ∧ p1.toInt ≤ 2147483647) := ⟨i32_lo _, i32_hi _⟩
  refine lv_iload_n hx hb dX11_look_0 rfl (lv_at hl 1 rfl) ?_
  by_cases c_1 : p1 = 0
  · refine tk_topi (y := 0) c_1 ?_
    refine lv_tableIn (tgt := 48) hx hb dX11_look_1 (by decide) (by decide) rfl (by decide) ?_
    refine lv_aload_n hx hb dX11_look_48 rfl (lv_at hl 0 rfl) ?_
    obtain ⟨a_3, v_4, a_5, a_6, a_7, a_8, a_9, a_10, v_11, a_12, a_13, a_14, v_15, v_16, a_17, v_18, a_19, a_20, v_21, hfo_2, ⟨ma_3, ka_3⟩, bv_4, ⟨ma_5, ka_5⟩, ⟨ma_6, ka_6⟩, ⟨ma_7, ka_7⟩, ⟨ma_8, ka_8⟩, ⟨ma_9, ka_9⟩, ⟨ma_10, ka_10⟩, bv_11, ⟨ma_12, ka_12⟩, ⟨ma_13, ka_13⟩, ⟨ma_14, ka_14⟩, bv_15, ⟨ma_17, ka_17⟩, bv_18, ⟨ma_19, ka_19⟩, ⟨ma_20, ka_20⟩⟩ := un_11 (hG _ mo0) ko0
    have bv_16 : ((-2147483648) ≤ v_16.toInt ∧ v_16.toInt ≤ 2147483647) := ⟨i32_lo _, i32_hi _⟩
    have bv_21 : ((-2147483648) ≤ v_21.toInt ∧ v_21.toInt ≤ 2147483647) := ⟨i32_lo _, i32_hi _⟩
    refine tk_getP (D := (dC, dI)) (ci := 11) (v := .ref a_6) (C := RX11) (T := TX11) (N := 19) hx hb hU inlX11 hown hK hP mo0 hfo_2 rfl 3 (by decide) (hU _ wd_19) (fun _ h9 => h9) rfl dX11_look_49 ?_
    obtain ⟨a_23, v_24, a_25, a_26, a_27, a_28, v_29, a_30, a_31, a_32, a_33, a_34, v_35, a_36, a_37, a_38, hfo_22, ⟨ma_23, ka_23⟩, bv_24, ⟨ma_25, ka_25⟩, ⟨ma_26, ka_26⟩, ⟨ma_27, ka_27⟩, ⟨ma_28, ka_28⟩, bv_29, ⟨ma_30, ka_30⟩, ⟨ma_31, ka_31⟩, ⟨ma_32, ka_32⟩, ⟨ma_33, ka_33⟩, ⟨ma_34, ka_34⟩, bv_35, ⟨ma_36, ka_36⟩, ⟨ma_37, ka_37⟩, ⟨ma_38, ka_38⟩⟩ := un_7 (hG _ ma_6) ka_6
    refine tk_getP (D := (dC, dI)) (ci := 7) (v := .int v_24) (C := RX7) (T := TX7) (N := 16) hx hb hU inlX7 hown hK hP ma_6 hfo_22 rfl 1 (by decide) (hU _ wd_1151) (fun _ h9 => h9) rfl dX11_look_52 ?_
    exact W.iret (v := v_24) hx hb hr (fun t ht hW => ⟨⟨v_24, f, rfl, ⟨rfl, (by constructor <;> omega)⟩, by rw [ht]; exact hP, va_K.moved hW.alike hK, pl_in hD⟩, hS.F ht⟩) hS.2.2 dX11_look_55
  by_cases c_39 : p1 = 1
  · refine tk_topi (y := 1) c_39 ?_
    refine lv_tableIn (tgt := 56) hx hb dX11_look_1 (by decide) (by decide) rfl (by decide) ?_
    refine lv_aload_n hx hb dX11_look_56 rfl (lv_at hl 0 rfl) ?_
    obtain ⟨a_41, v_42, a_43, a_44, a_45, a_46, a_47, a_48, v_49, a_50, a_51, a_52, v_53, v_54, a_55, v_56, a_57, a_58, v_59, hfo_40, ⟨ma_41, ka_41⟩, bv_42, ⟨ma_43, ka_43⟩, ⟨ma_44, ka_44⟩, ⟨ma_45, ka_45⟩, ⟨ma_46, ka_46⟩, ⟨ma_47, ka_47⟩, ⟨ma_48, ka_48⟩, bv_49, ⟨ma_50, ka_50⟩, ⟨ma_51, ka_51⟩, ⟨ma_52, ka_52⟩, bv_53, ⟨ma_55, ka_55⟩, bv_56, ⟨ma_57, ka_57⟩, ⟨ma_58, ka_58⟩⟩ := un_11 (hG _ mo0) ko0
    have bv_54 : ((-2147483648) ≤ v_54.toInt ∧ v_54.toInt ≤ 2147483647) := ⟨i32_lo _, i32_hi _⟩
    have bv_59 : ((-2147483648) ≤ v_59.toInt ∧ v_59.toInt ≤ 2147483647) := ⟨i32_lo _, i32_hi _⟩
    refine tk_getP (D := (dC, dI)) (ci := 11) (v := .ref a_44) (C := RX11) (T := TX11) (N := 19) hx hb hU inlX11 hown hK hP mo0 hfo_40 rfl 3 (by decide) (hU _ wd_19) (fun _ h9 => h9) rfl dX11_look_57 ?_
    obtain ⟨a_61, v_62, a_63, a_64, a_65, a_66, v_67, a_68, a_69, a_70, a_71, a_72, v_73, a_74, a_75, a_76, hfo_60, ⟨ma_61, ka_61⟩, bv_62, ⟨ma_63, ka_63⟩, ⟨ma_64, ka_64⟩, ⟨ma_65, ka_65⟩, ⟨ma_66, ka_66⟩, bv_67, ⟨ma_68, ka_68⟩, ⟨ma_69, ka_69⟩, ⟨ma_70, ka_70⟩, ⟨ma_71, ka_71⟩, ⟨ma_72, ka_72⟩, bv_73, ⟨ma_74, ka_74⟩, ⟨ma_75, ka_75⟩, ⟨ma_76, ka_76⟩⟩ := un_7 (hG _ ma_44) ka_44
    refine tk_getP (D := (dC, dI)) (ci := 7) (v := .int v_67) (C := RX7) (T := TX7) (N := 16) hx hb hU inlX7 hown hK hP ma_44 hfo_60 rfl 6 (by decide) (hU _ wd_1259) (fun _ h9 => h9) rfl dX11_look_60 ?_
    exact W.iret (v := v_67) hx hb hr (fun t ht hW => ⟨⟨v_67, f, rfl, ⟨rfl, (by constructor <;> omega)⟩, by rw [ht]; exact hP, va_K.moved hW.alike hK, pl_in hD⟩, hS.F ht⟩) hS.2.2 dX11_look_63
  by_cases c_77 : p1 = 2
  · refine tk_topi (y := 2) c_77 ?_
    refine lv_tableIn (tgt := 64) hx hb dX11_look_1 (by decide) (by decide) rfl (by decide) ?_
    refine lv_aload_n hx hb dX11_look_64 rfl (lv_at hl 0 rfl) ?_
    obtain ⟨a_79, v_80, a_81, a_82, a_83, a_84, a_85, a_86, v_87, a_88, a_89, a_90, v_91, v_92, a_93, v_94, a_95, a_96, v_97, hfo_78, ⟨ma_79, ka_79⟩, bv_80, ⟨ma_81, ka_81⟩, ⟨ma_82, ka_82⟩, ⟨ma_83, ka_83⟩, ⟨ma_84, ka_84⟩, ⟨ma_85, ka_85⟩, ⟨ma_86, ka_86⟩, bv_87, ⟨ma_88, ka_88⟩, ⟨ma_89, ka_89⟩, ⟨ma_90, ka_90⟩, bv_91, ⟨ma_93, ka_93⟩, bv_94, ⟨ma_95, ka_95⟩, ⟨ma_96, ka_96⟩⟩ := un_11 (hG _ mo0) ko0
    have bv_92 : ((-2147483648) ≤ v_92.toInt ∧ v_92.toInt ≤ 2147483647) := ⟨i32_lo _, i32_hi _⟩
    have bv_97 : ((-2147483648) ≤ v_97.toInt ∧ v_97.toInt ≤ 2147483647) := ⟨i32_lo _, i32_hi _⟩
    refine tk_getP (D := (dC, dI)) (ci := 11) (v := .ref a_82) (C := RX11) (T := TX11) (N := 19) hx hb hU inlX11 hown hK hP mo0 hfo_78 rfl 3 (by decide) (hU _ wd_19) (fun _ h9 => h9) rfl dX11_look_65 ?_
    obtain ⟨a_99, v_100, a_101, a_102, a_103, a_104, v_105, a_106, a_107, a_108, a_109, a_110, v_111, a_112, a_113, a_114, hfo_98, ⟨ma_99, ka_99⟩, bv_100, ⟨ma_101, ka_101⟩, ⟨ma_102, ka_102⟩, ⟨ma_103, ka_103⟩, ⟨ma_104, ka_104⟩, bv_105, ⟨ma_106, ka_106⟩, ⟨ma_107, ka_107⟩, ⟨ma_108, ka_108⟩, ⟨ma_109, ka_109⟩, ⟨ma_110, ka_110⟩, bv_111, ⟨ma_112, ka_112⟩, ⟨ma_113, ka_113⟩, ⟨ma_114, ka_114⟩⟩ := un_7 (hG _ ma_82) ka_82
    refine tk_getP (D := (dC, dI)) (ci := 7) (v := .int v_111) (C := RX7) (T := TX7) (N := 16) hx hb hU inlX7 hown hK hP ma_82 hfo_98 rfl 12 (by decide) (hU _ wd_235) (fun _ h9 => h9) rfl dX11_look_68 ?_
    exact W.iret (v := v_111) hx hb hr (fun t ht hW => ⟨⟨v_111, f, rfl, ⟨rfl, (by constructor <;> omega)⟩, by rw [ht]; exact hP, va_K.moved hW.alike hK, pl_in hD⟩, hS.F ht⟩) hS.2.2 dX11_look_71
  by_cases c_115 : p1 = 3
  · refine tk_topi (y := 3) c_115 ?_
    refine lv_tableIn (tgt := 72) hx hb dX11_look_1 (by decide) (by decide) rfl (by decide) ?_
    refine lv_aload_n hx hb dX11_look_72 rfl (lv_at hl 0 rfl) ?_
    obtain ⟨a_117, v_118, a_119, a_120, a_121, a_122, a_123, a_124, v_125, a_126, a_127, a_128, v_129, v_130, a_131, v_132, a_133, a_134, v_135, hfo_116, ⟨ma_117, ka_117⟩, bv_118, ⟨ma_119, ka_119⟩, ⟨ma_120, ka_120⟩, ⟨ma_121, ka_121⟩, ⟨ma_122, ka_122⟩, ⟨ma_123, ka_123⟩, ⟨ma_124, ka_124⟩, bv_125, ⟨ma_126, ka_126⟩, ⟨ma_127, ka_127⟩, ⟨ma_128, ka_128⟩, bv_129, ⟨ma_131, ka_131⟩, bv_132, ⟨ma_133, ka_133⟩, ⟨ma_134, ka_134⟩⟩ := un_11 (hG _ mo0) ko0
    have bv_130 : ((-2147483648) ≤ v_130.toInt ∧ v_130.toInt ≤ 2147483647) := ⟨i32_lo _, i32_hi _⟩
    have bv_135 : ((-2147483648) ≤ v_135.toInt ∧ v_135.toInt ≤ 2147483647) := ⟨i32_lo _, i32_hi _⟩
    refine tk_getP (D := (dC, dI)) (ci := 11) (v := .ref a_120) (C := RX11) (T := TX11) (N := 19) hx hb hU inlX11 hown hK hP mo0 hfo_116 rfl 3 (by decide) (hU _ wd_19) (fun _ h9 => h9) rfl dX11_look_73 ?_
    obtain ⟨a_137, v_138, a_139, a_140, a_141, a_142, v_143, a_144, a_145, a_146, a_147, a_148, v_149, a_150, a_151, a_152, hfo_136, ⟨ma_137, ka_137⟩, bv_138, ⟨ma_139, ka_139⟩, ⟨ma_140, ka_140⟩, ⟨ma_141, ka_141⟩, ⟨ma_142, ka_142⟩, bv_143, ⟨ma_144, ka_144⟩, ⟨ma_145, ka_145⟩, ⟨ma_146, ka_146⟩, ⟨ma_147, ka_147⟩, ⟨ma_148, ka_148⟩, bv_149, ⟨ma_150, ka_150⟩, ⟨ma_151, ka_151⟩, ⟨ma_152, ka_152⟩⟩ := un_7 (hG _ ma_120) ka_120
    refine tk_getP (D := (dC, dI)) (ci := 7) (v := .ref a_150) (C := RX7) (T := TX7) (N := 16) hx hb hU inlX7 hown hK hP ma_120 hfo_136 rfl 13 (by decide) (hU _ wd_999) (fun _ h9 => h9) rfl dX11_look_76 ?_
    obtain ⟨a_154, a_155, v_156, hfo_153, ⟨ma_154, ka_154⟩, ⟨ma_155, ka_155⟩, bv_156⟩ := un_9 (hG _ ma_150) ka_150
    refine tk_getP (D := (dC, dI)) (ci := 9) (v := .int v_156) (C := RX9) (T := TX9) (N := 3) hx hb hU inlX9 hown hK hP ma_150 hfo_153 rfl 2 (by decide) (hU _ wd_1000) (fun _ h9 => h9) rfl dX11_look_79 ?_
    exact W.iret (v := v_156) hx hb hr (fun t ht hW => ⟨⟨v_156, f, rfl, ⟨rfl, (by constructor <;> omega)⟩, by rw [ht]; exact hP, va_K.moved hW.alike hK, pl_in hD⟩, hS.F ht⟩) hS.2.2 dX11_look_82
  by_cases c_157 : p1 = 4
  · refine tk_topi (y := 4) c_157 ?_
    refine lv_tableIn (tgt := 83) hx hb dX11_look_1 (by decide) (by decide) rfl (by decide) ?_
    refine lv_aload_n hx hb dX11_look_83 rfl (lv_at hl 0 rfl) ?_
    obtain ⟨a_159, v_160, a_161, a_162, a_163, a_164, a_165, a_166, v_167, a_168, a_169, a_170, v_171, v_172, a_173, v_174, a_175, a_176, v_177, hfo_158, ⟨ma_159, ka_159⟩, bv_160, ⟨ma_161, ka_161⟩, ⟨ma_162, ka_162⟩, ⟨ma_163, ka_163⟩, ⟨ma_164, ka_164⟩, ⟨ma_165, ka_165⟩, ⟨ma_166, ka_166⟩, bv_167, ⟨ma_168, ka_168⟩, ⟨ma_169, ka_169⟩, ⟨ma_170, ka_170⟩, bv_171, ⟨ma_173, ka_173⟩, bv_174, ⟨ma_175, ka_175⟩, ⟨ma_176, ka_176⟩⟩ := un_11 (hG _ mo0) ko0
    have bv_172 : ((-2147483648) ≤ v_172.toInt ∧ v_172.toInt ≤ 2147483647) := ⟨i32_lo _, i32_hi _⟩
    have bv_177 : ((-2147483648) ≤ v_177.toInt ∧ v_177.toInt ≤ 2147483647) := ⟨i32_lo _, i32_hi _⟩
    refine tk_getP (D := (dC, dI)) (ci := 11) (v := .ref a_162) (C := RX11) (T := TX11) (N := 19) hx hb hU inlX11 hown hK hP mo0 hfo_158 rfl 3 (by decide) (hU _ wd_19) (fun _ h9 => h9) rfl dX11_look_84 ?_
    obtain ⟨a_179, v_180, a_181, a_182, a_183, a_184, v_185, a_186, a_187, a_188, a_189, a_190, v_191, a_192, a_193, a_194, hfo_178, ⟨ma_179, ka_179⟩, bv_180, ⟨ma_181, ka_181⟩, ⟨ma_182, ka_182⟩, ⟨ma_183, ka_183⟩, ⟨ma_184, ka_184⟩, bv_185, ⟨ma_186, ka_186⟩, ⟨ma_187, ka_187⟩, ⟨ma_188, ka_188⟩, ⟨ma_189, ka_189⟩, ⟨ma_190, ka_190⟩, bv_191, ⟨ma_192, ka_192⟩, ⟨ma_193, ka_193⟩, ⟨ma_194, ka_194⟩⟩ := un_7 (hG _ ma_162) ka_162
    refine tk_getP (D := (dC, dI)) (ci := 7) (v := .ref a_193) (C := RX7) (T := TX7) (N := 16) hx hb hU inlX7 hown hK hP ma_162 hfo_178 rfl 14 (by decide) (hU _ wd_1001) (fun _ h9 => h9) rfl dX11_look_87 ?_
    obtain ⟨a_196, a_197, v_198, hfo_195, ⟨ma_196, ka_196⟩, ⟨ma_197, ka_197⟩, bv_198⟩ := un_13 (hG _ ma_193) ka_193
    refine tk_getP (D := (dC, dI)) (ci := 9) (v := .int v_198) (C := RX9) (T := TX9) (N := 3) hx hb hU inlX9 hown hK hP ma_193 hfo_195 rfl 2 (by decide) (hU _ wd_1000) (fun _ h9 => h9) rfl dX11_look_90 ?_
    exact W.iret (v := v_198) hx hb hr (fun t ht hW => ⟨⟨v_198, f, rfl, ⟨rfl, (by constructor <;> omega)⟩, by rw [ht]; exact hP, va_K.moved hW.alike hK, pl_in hD⟩, hS.F ht⟩) hS.2.2 dX11_look_93
  by_cases c_199 : p1 = 5
  · refine tk_topi (y := 5) c_199 ?_
    refine lv_tableIn (tgt := 94) hx hb dX11_look_1 (by decide) (by decide) rfl (by decide) ?_
    refine lv_aload_n hx hb dX11_look_94 rfl (lv_at hl 0 rfl) ?_
    obtain ⟨a_201, v_202, a_203, a_204, a_205, a_206, a_207, a_208, v_209, a_210, a_211, a_212, v_213, v_214, a_215, v_216, a_217, a_218, v_219, hfo_200, ⟨ma_201, ka_201⟩, bv_202, ⟨ma_203, ka_203⟩, ⟨ma_204, ka_204⟩, ⟨ma_205, ka_205⟩, ⟨ma_206, ka_206⟩, ⟨ma_207, ka_207⟩, ⟨ma_208, ka_208⟩, bv_209, ⟨ma_210, ka_210⟩, ⟨ma_211, ka_211⟩, ⟨ma_212, ka_212⟩, bv_213, ⟨ma_215, ka_215⟩, bv_216, ⟨ma_217, ka_217⟩, ⟨ma_218, ka_218⟩⟩ := un_11 (hG _ mo0) ko0
    have bv_214 : ((-2147483648) ≤ v_214.toInt ∧ v_214.toInt ≤ 2147483647) := ⟨i32_lo _, i32_hi _⟩
    have bv_219 : ((-2147483648) ≤ v_219.toInt ∧ v_219.toInt ≤ 2147483647) := ⟨i32_lo _, i32_hi _⟩
    refine tk_getP (D := (dC, dI)) (ci := 11) (v := .ref a_206) (C := RX11) (T := TX11) (N := 19) hx hb hU inlX11 hown hK hP mo0 hfo_200 rfl 5 (by decide) (hU _ wd_25) (fun _ h9 => h9) rfl dX11_look_95 ?_
    obtain ⟨v_221, v_222, a_223, a_224, a_225, v_226, a_227, a_228, a_229, hfo_220, bv_222, ⟨ma_223, ka_223⟩, ⟨ma_224, ka_224⟩, ⟨ma_225, ka_225⟩, ⟨ma_227, ka_227⟩, ⟨ma_228, ka_228⟩, ⟨ma_229, ka_229⟩⟩ := un_6 (hG _ ma_206) ka_206
    have bv_221 : ((-2147483648) ≤ v_221.toInt ∧ v_221.toInt ≤ 2147483647) := ⟨i32_lo _, i32_hi _⟩
    have bv_226 : ((-2147483648) ≤ v_226.toInt ∧ v_226.toInt ≤ 2147483647) := ⟨i32_lo _, i32_hi _⟩
    refine tk_getP (D := (dC, dI)) (ci := 6) (v := .int v_221) (C := RX6) (T := TX6) (N := 9) hx hb hU inlX6 hown hK hP ma_206 hfo_220 rfl 0 (by decide) (hU _ wd_677) (fun _ h9 => h9) rfl dX11_look_98 ?_
    exact W.iret (v := v_221) hx hb hr (fun t ht hW => ⟨⟨v_221, f, rfl, ⟨rfl, (by constructor <;> omega)⟩, by rw [ht]; exact hP, va_K.moved hW.alike hK, pl_in hD⟩, hS.F ht⟩) hS.2.2 dX11_look_101
  by_cases c_230 : p1 = 6
  · refine tk_topi (y := 6) c_230 ?_
    refine lv_tableIn (tgt := 102) hx hb dX11_look_1 (by decide) (by decide) rfl (by decide) ?_
    refine lv_aload_n hx hb dX11_look_102 rfl (lv_at hl 0 rfl) ?_
    obtain ⟨a_232, v_233, a_234, a_235, a_236, a_237, a_238, a_239, v_240, a_241, a_242, a_243, v_244, v_245, a_246, v_247, a_248, a_249, v_250, hfo_231, ⟨ma_232, ka_232⟩, bv_233, ⟨ma_234, ka_234⟩, ⟨ma_235, ka_235⟩, ⟨ma_236, ka_236⟩, ⟨ma_237, ka_237⟩, ⟨ma_238, ka_238⟩, ⟨ma_239, ka_239⟩, bv_240, ⟨ma_241, ka_241⟩, ⟨ma_242, ka_242⟩, ⟨ma_243, ka_243⟩, bv_244, ⟨ma_246, ka_246⟩, bv_247, ⟨ma_248, ka_248⟩, ⟨ma_249, ka_249⟩⟩ := un_11 (hG _ mo0) ko0
    have bv_245 : ((-2147483648) ≤ v_245.toInt ∧ v_245.toInt ≤ 2147483647) := ⟨i32_lo _, i32_hi _⟩
    have bv_250 : ((-2147483648) ≤ v_250.toInt ∧ v_250.toInt ≤ 2147483647) := ⟨i32_lo _, i32_hi _⟩
    refine tk_getP (D := (dC, dI)) (ci := 11) (v := .ref a_237) (C := RX11) (T := TX11) (N := 19) hx hb hU inlX11 hown hK hP mo0 hfo_231 rfl 5 (by decide) (hU _ wd_25) (fun _ h9 => h9) rfl dX11_look_103 ?_
    obtain ⟨v_252, v_253, a_254, a_255, a_256, v_257, a_258, a_259, a_260, hfo_251, bv_253, ⟨ma_254, ka_254⟩, ⟨ma_255, ka_255⟩, ⟨ma_256, ka_256⟩, ⟨ma_258, ka_258⟩, ⟨ma_259, ka_259⟩, ⟨ma_260, ka_260⟩⟩ := un_6 (hG _ ma_237) ka_237
    have bv_252 : ((-2147483648) ≤ v_252.toInt ∧ v_252.toInt ≤ 2147483647) := ⟨i32_lo _, i32_hi _⟩
    have bv_257 : ((-2147483648) ≤ v_257.toInt ∧ v_257.toInt ≤ 2147483647) := ⟨i32_lo _, i32_hi _⟩
    refine tk_getP (D := (dC, dI)) (ci := 6) (v := .int v_253) (C := RX6) (T := TX6) (N := 9) hx hb hU inlX6 hown hK hP ma_237 hfo_251 rfl 1 (by decide) (hU _ wd_694) (fun _ h9 => h9) rfl dX11_look_106 ?_
    exact W.iret (v := v_253) hx hb hr (fun t ht hW => ⟨⟨v_253, f, rfl, ⟨rfl, (by constructor <;> omega)⟩, by rw [ht]; exact hP, va_K.moved hW.alike hK, pl_in hD⟩, hS.F ht⟩) hS.2.2 dX11_look_109
  by_cases c_261 : p1 = 7
  · refine tk_topi (y := 7) c_261 ?_
    refine lv_tableIn (tgt := 110) hx hb dX11_look_1 (by decide) (by decide) rfl (by decide) ?_
    refine lv_aload_n hx hb dX11_look_110 rfl (lv_at hl 0 rfl) ?_
    obtain ⟨a_263, v_264, a_265, a_266, a_267, a_268, a_269, a_270, v_271, a_272, a_273, a_274, v_275, v_276, a_277, v_278, a_279, a_280, v_281, hfo_262, ⟨ma_263, ka_263⟩, bv_264, ⟨ma_265, ka_265⟩, ⟨ma_266, ka_266⟩, ⟨ma_267, ka_267⟩, ⟨ma_268, ka_268⟩, ⟨ma_269, ka_269⟩, ⟨ma_270, ka_270⟩, bv_271, ⟨ma_272, ka_272⟩, ⟨ma_273, ka_273⟩, ⟨ma_274, ka_274⟩, bv_275, ⟨ma_277, ka_277⟩, bv_278, ⟨ma_279, ka_279⟩, ⟨ma_280, ka_280⟩⟩ := un_11 (hG _ mo0) ko0
    have bv_276 : ((-2147483648) ≤ v_276.toInt ∧ v_276.toInt ≤ 2147483647) := ⟨i32_lo _, i32_hi _⟩
    have bv_281 : ((-2147483648) ≤ v_281.toInt ∧ v_281.toInt ≤ 2147483647) := ⟨i32_lo _, i32_hi _⟩
    refine tk_getP (D := (dC, dI)) (ci := 11) (v := .ref a_268) (C := RX11) (T := TX11) (N := 19) hx hb hU inlX11 hown hK hP mo0 hfo_262 rfl 5 (by decide) (hU _ wd_25) (fun _ h9 => h9) rfl dX11_look_111 ?_
    obtain ⟨v_283, v_284, a_285, a_286, a_287, v_288, a_289, a_290, a_291, hfo_282, bv_284, ⟨ma_285, ka_285⟩, ⟨ma_286, ka_286⟩, ⟨ma_287, ka_287⟩, ⟨ma_289, ka_289⟩, ⟨ma_290, ka_290⟩, ⟨ma_291, ka_291⟩⟩ := un_6 (hG _ ma_268) ka_268
    have bv_283 : ((-2147483648) ≤ v_283.toInt ∧ v_283.toInt ≤ 2147483647) := ⟨i32_lo _, i32_hi _⟩
    have bv_288 : ((-2147483648) ≤ v_288.toInt ∧ v_288.toInt ≤ 2147483647) := ⟨i32_lo _, i32_hi _⟩
    refine tk_getP (D := (dC, dI)) (ci := 6) (v := .ref a_286) (C := RX6) (T := TX6) (N := 9) hx hb hU inlX6 hown hK hP ma_268 hfo_282 rfl 3 (by decide) (hU _ wd_1387) (fun _ h9 => h9) rfl dX11_look_114 ?_
    obtain ⟨a_293, a_294, v_295, hfo_292, ⟨ma_293, ka_293⟩, ⟨ma_294, ka_294⟩, bv_295⟩ := un_9 (hG _ ma_286) ka_286
    refine tk_getP (D := (dC, dI)) (ci := 9) (v := .int v_295) (C := RX9) (T := TX9) (N := 3) hx hb hU inlX9 hown hK hP ma_286 hfo_292 rfl 2 (by decide) (hU _ wd_1000) (fun _ h9 => h9) rfl dX11_look_117 ?_
    exact W.iret (v := v_295) hx hb hr (fun t ht hW => ⟨⟨v_295, f, rfl, ⟨rfl, (by constructor <;> omega)⟩, by rw [ht]; exact hP, va_K.moved hW.alike hK, pl_in hD⟩, hS.F ht⟩) hS.2.2 dX11_look_120
  rw [← Int32.toInt_inj, ti_0] at c_1
  rw [← Int32.toInt_inj, ti_1] at c_39
  rw [← Int32.toInt_inj, ti_2] at c_77
  rw [← Int32.toInt_inj, ti_3] at c_115
  rw [← Int32.toInt_inj, ti_4] at c_157
  rw [← Int32.toInt_inj, ti_5] at c_199
  rw [← Int32.toInt_inj, ti_6] at c_230
  rw [← Int32.toInt_inj, ti_7] at c_261
  refine lv_tableOut (tgt := 121) hx hb dX11_look_1 (by omega) (by decide) ?_
  refine lv_aload_n hx hb dX11_look_121 rfl (lv_at hl 0 rfl) ?_
  refine lv_iload_n hx hb dX11_look_122 rfl (lv_at hl 1 rfl) ?_
  obtain ⟨a_297, v_298, a_299, a_300, a_301, a_302, a_303, a_304, v_305, a_306, a_307, a_308, v_309, v_310, a_311, v_312, a_313, a_314, v_315, hfo_296, ⟨ma_297, ka_297⟩, bv_298, ⟨ma_299, ka_299⟩, ⟨ma_300, ka_300⟩, ⟨ma_301, ka_301⟩, ⟨ma_302, ka_302⟩, ⟨ma_303, ka_303⟩, ⟨ma_304, ka_304⟩, bv_305, ⟨ma_306, ka_306⟩, ⟨ma_307, ka_307⟩, ⟨ma_308, ka_308⟩, bv_309, ⟨ma_311, ka_311⟩, bv_312, ⟨ma_313, ka_313⟩, ⟨ma_314, ka_314⟩⟩ := un_11 (hG _ mo0) ko0
  have bv_310 : ((-2147483648) ≤ v_310.toInt ∧ v_310.toInt ≤ 2147483647) := ⟨i32_lo _, i32_hi _⟩
  have bv_315 : ((-2147483648) ≤ v_315.toInt ∧ v_315.toInt ≤ 2147483647) := ⟨i32_lo _, i32_hi _⟩
  refine tk_ViP (As := [.int p1]) (rest := []) (n := 1) hx hb hml hown hU hN hZ (s_X11_lookFurther_k11 l (dC, dI) cI cL cZ cR cG cH Z kd L f hG o0 mo0 ko0 p1) wd_1488 wd_1489 wd_1490 wd_2 wd_1491 (by decide +kernel) ⟨Nat.le_of_ble_eq_true rfl, Nat.le_of_ble_eq_true rfl⟩ hK hP hD hS mo0 hfo_296 11 rfl rfl rfl hl.1 rfl (Nat.le_of_ble_eq_true rfl) dX11_look_123 ⟨Nat.le_of_ble_eq_true rfl, Nat.le_of_ble_eq_true rfl⟩ (fun x_316 f_317 H locs hw hP hD hS => ?_)
  obtain ⟨rfl, bx_316⟩ := hw
  exact W.iret (v := x_316) hx hb hr (fun t ht hW => ⟨⟨x_316, f, rfl, ⟨rfl, (by constructor <;> omega)⟩, by rw [ht]; exact hP, va_K.moved hW.alike hK, pl_in hD⟩, hS.F ht⟩) hS.2.2 dX11_look_126
set_option maxHeartbeats 8000000 in
set_option maxRecDepth 100000 in
theorem s_X11_walk_k11 (l : Launch) (D : va_G) (cI cL cZ cR cG cH : ClassId) (Z : zT) (kd : Nat → Nat) (L : List Nat) (f : Nat → va_E) (hG : GI (okc cI cL cZ cR cG cH L kd) kd L f) (o0 : Nat) (mo0 : o0 ∈ L) (ko0 : kd o0 = 11) : mPI l D cI cL cZ cR cG cH Z yX11_walk cX11_walk 3 (some .int) 3 75 [.ref o0] L f (fun (r : Int32) (f9 : Nat → va_E) => GI (okc cI cL cZ cR cG cH L kd) kd L f9 ∧ ((-2147483648) ≤ r.toInt ∧ r.toInt ≤ 2147483647) ∧ (∀ b, kd b ≠ 11 → kd b ≠ 540 → f9 b = f b) ∧ (∀ b, kd b = 11 → fldI (f9 b) 8 = fldI (f b) 8) ∧ (∀ b, kd b = 11 → fldR (f9 b) 2 = fldR (f b) 2) ∧ (∀ b, kd b = 11 → fldR (f9 b) 3 = fldR (f b) 3) ∧ (∀ b, kd b = 11 → fldR (f9 b) 5 = fldR (f b) 5) ∧ (∀ b, kd b = 11 → fldR (f9 b) 6 = fldR (f b) 6) ∧ (∀ b, kd b = 11 → fldR (f9 b) 7 = fldR (f b) 7) ∧ (∀ b, kd b = 11 → fldR (f9 b) 9 = fldR (f b) 9) ∧ (∀ b, kd b = 11 → fldR (f9 b) 10 = fldR (f b) 10) ∧ (∀ b, kd b = 11 → fldR (f9 b) 16 = fldR (f b) 16) ∧ (∀ (w1 z1 : Int32), fldI (f o0) 1 = some w1 → fldI (f9 o0) 1 = some z1 → z1.toInt = 0)) := by
  obtain ⟨dC, dI⟩ := D
  refine Met.ofW (cc := cX11_walk) (maxL := 3) (ret := (some .int)) (by decide) rfl ?_
  intro p e s m args below meth c s₁ B hml hv
  obtain ⟨rfl, hP, hK, hD0, hN, hZ⟩ := hv
  have hx := B.exec
  have hb := B.bytes
  have hr := B.returns
  have hU : ∀ w ∈ wsU, w.before _ s = true := fun w h => atoms_spec (ws := wU yX11_walk cX11_walk 3 (some .int)) B.pre w (List.mem_cons_of_mem _ h)
  have hown : s.vm.findClass RX11 = some m.cls := findClass_of_methodNamed B.named
  have hlocks := B.notSynchronized
  have hD := pl_in hD0
  have hS : va_S (fun q => q ∈ L) s.heap s.heap [] := va_S.rf
  have hl := lv_entry ([.ref o0]) (n := 3) (Nat.le_of_ble_eq_true rfl)
  rw [lg_entry_eq]
  generalize (lg_sl ([.ref o0]) ++ List.replicate (3 - (lg_sl ([.ref o0])).length) Slot.unset).toArray = ls at hl ⊢
  have hl : lv_has ls 3 [(0, .ref o0)] := hl
  have hfr0 : ∀ b, kd b ≠ 11 → kd b ≠ 540 → f b = f b := fun _ _ _ => rfl
  have hfr11_8 : ∀ b, kd b = 11 → fldI (f b) 8 = fldI (f b) 8 := fun _ _ => rfl
  have hrr11_2 : ∀ b, kd b = 11 → fldR (f b) 2 = fldR (f b) 2 := fun _ _ => rfl
  have hrr11_3 : ∀ b, kd b = 11 → fldR (f b) 3 = fldR (f b) 3 := fun _ _ => rfl
  have hrr11_5 : ∀ b, kd b = 11 → fldR (f b) 5 = fldR (f b) 5 := fun _ _ => rfl
  have hrr11_6 : ∀ b, kd b = 11 → fldR (f b) 6 = fldR (f b) 6 := fun _ _ => rfl
  have hrr11_7 : ∀ b, kd b = 11 → fldR (f b) 7 = fldR (f b) 7 := fun _ _ => rfl
  have hrr11_9 : ∀ b, kd b = 11 → fldR (f b) 9 = fldR (f b) 9 := fun _ _ => rfl
  have hrr11_10 : ∀ b, kd b = 11 → fldR (f b) 10 = fldR (f b) 10 := fun _ _ => rfl
  have hrr11_16 : ∀ b, kd b = 11 → fldR (f b) 16 = fldR (f b) 16 := fun _ _ => rfl
  obtain ⟨a_2, v_3, a_4, a_5, a_6, a_7, a_8, a_9, v_10, a_11, a_12, a_13, v_14, v_15, a_16, v_17, a_18, a_19, v_20, hfo_1, ⟨ma_2, ka_2⟩, bv_3, ⟨ma_4, ka_4⟩, ⟨ma_5, ka_5⟩, ⟨ma_6, ka_6⟩, ⟨ma_7, ka_7⟩, ⟨ma_8, ka_8⟩, ⟨ma_9, ka_9⟩, bv_10, ⟨ma_11, ka_11⟩, ⟨ma_12, ka_12⟩, ⟨ma_13, ka_13⟩, bv_14, ⟨ma_16, ka_16⟩, bv_17, ⟨ma_18, ka_18⟩, ⟨ma_19, ka_19⟩⟩ := un_11 (hG _ mo0) ko0
  have bv_15 : ((-2147483648) ≤ v_15.toInt ∧ v_15.toInt ≤ 2147483647) := ⟨i32_lo _, i32_hi _⟩
  have bv_20 : ((-2147483648) ≤ v_20.toInt ∧ v_20.toInt ≤ 2147483647) := ⟨i32_lo _, i32_hi _⟩
  refine lv_aload_n hx hb dX11_walk_0 rfl (lv_at hl 0 rfl) ?_
  refine lv_iconst (v := (-1)) hx hb dX11_walk_1 (by decide) ?_
  refine tk_putP (D := (dC, dI)) (ci := 11) (v := .int (-1)) (ty := .int) (C := RX11) (T := TX11) (N := 19) hx hb hU inlX11 tyX11 tyX11_ok nmX11 hown hK hP hD hS mo0 hfo_1 rfl 13 (by decide) (hU _ wd_40) (fun _ h9 => h9) rfl (by decide +kernel) rfl rfl (Nat.le_of_ble_eq_true rfl) dX11_walk_2 (fun H locs hP hD hS => ?_)
  obtain ⟨f_22, ef_22⟩ : ∃ y : Nat → va_E, y = va_up f o0 (.inr (11, [.ref a_2, .int v_3, .ref a_4, .ref a_5, .ref a_6, .ref a_7, .ref a_8, .ref a_9, .int v_10, .ref a_11, .ref a_12, .ref a_13, .int v_14, .int (-1), .ref a_16, .int v_17, .ref a_18, .ref a_19, .int v_20])) := ⟨_, rfl⟩
  have hP : va_P (dC, dI) vwCl (va_pl L f_22) H := by rw [ef_22]; exact hP
  have hD : va_D (fun q => q ∈ L) (va_pl L f_22) := by rw [ef_22]; exact hD
  have hG : GI (okc cI cL cZ cR cG cH L kd) kd L f_22 := by rw [ef_22]; exact hG.set o0 (mk_11 ko0 ⟨a_2, v_3, a_4, a_5, a_6, a_7, a_8, a_9, v_10, a_11, a_12, a_13, v_14, (-1), a_16, v_17, a_18, a_19, v_20, rfl, ⟨ma_2, ka_2⟩, (by constructor <;> omega), ⟨ma_4, ka_4⟩, ⟨ma_5, ka_5⟩, ⟨ma_6, ka_6⟩, ⟨ma_7, ka_7⟩, ⟨ma_8, ka_8⟩, ⟨ma_9, ka_9⟩, (by constructor <;> omega), ⟨ma_11, ka_11⟩, ⟨ma_12, ka_12⟩, ⟨ma_13, ka_13⟩, (by constructor <;> omega), ⟨ma_16, ka_16⟩, (by constructor <;> omega), ⟨ma_18, ka_18⟩, ⟨ma_19, ka_19⟩⟩)
  have hfr0 : ∀ b, kd b ≠ 11 → kd b ≠ 540 → f_22 b = f b := fun b q11 q540 => (congrFun ef_22 b).trans ((up_ne (fun e9 => q11 (by rw [e9]; exact ko0))).trans (hfr0 b q11 q540))
  have hfr11_8 : ∀ b, kd b = 11 → fldI (f_22 b) 8 = fldI (f b) 8 := fun b kb => ((congrArg (fun x => fldI x 8) (congrFun ef_22 b)).trans (fk_up (by rw [hfo_1]; rfl) b)).trans (hfr11_8 b kb)
  have hrr11_2 : ∀ b, kd b = 11 → fldR (f_22 b) 2 = fldR (f b) 2 := fun b kb => ((congrArg (fun x => fldR x 2) (congrFun ef_22 b)).trans (fr_up (by rw [hfo_1]; rfl) b)).trans (hrr11_2 b kb)
  have hrr11_3 : ∀ b, kd b = 11 → fldR (f_22 b) 3 = fldR (f b) 3 := fun b kb => ((congrArg (fun x => fldR x 3) (congrFun ef_22 b)).trans (fr_up (by rw [hfo_1]; rfl) b)).trans (hrr11_3 b kb)
  have hrr11_5 : ∀ b, kd b = 11 → fldR (f_22 b) 5 = fldR (f b) 5 := fun b kb => ((congrArg (fun x => fldR x 5) (congrFun ef_22 b)).trans (fr_up (by rw [hfo_1]; rfl) b)).trans (hrr11_5 b kb)
  have hrr11_6 : ∀ b, kd b = 11 → fldR (f_22 b) 6 = fldR (f b) 6 := fun b kb => ((congrArg (fun x => fldR x 6) (congrFun ef_22 b)).trans (fr_up (by rw [hfo_1]; rfl) b)).trans (hrr11_6 b kb)
  have hrr11_7 : ∀ b, kd b = 11 → fldR (f_22 b) 7 = fldR (f b) 7 := fun b kb => ((congrArg (fun x => fldR x 7) (congrFun ef_22 b)).trans (fr_up (by rw [hfo_1]; rfl) b)).trans (hrr11_7 b kb)
  have hrr11_9 : ∀ b, kd b = 11 → fldR (f_22 b) 9 = fldR (f b) 9 := fun b kb => ((congrArg (fun x => fldR x 9) (congrFun ef_22 b)).trans (fr_up (by rw [hfo_1]; rfl) b)).trans (hrr11_9 b kb)
  have hrr11_10 : ∀ b, kd b = 11 → fldR (f_22 b) 10 = fldR (f b) 10 := fun b kb => ((congrArg (fun x => fldR x 10) (congrFun ef_22 b)).trans (fr_up (by rw [hfo_1]; rfl) b)).trans (hrr11_10 b kb)
  have hrr11_16 : ∀ b, kd b = 11 → fldR (f_22 b) 16 = fldR (f b) 16 := fun b kb => ((congrArg (fun x => fldR x 16) (congrFun ef_22 b)).trans (fr_up (by rw [hfo_1]; rfl) b)).trans (hrr11_16 b kb)
  have hfo_23 : f_22 o0 = .inr (11, [.ref a_2, .int v_3, .ref a_4, .ref a_5, .ref a_6, .ref a_7, .ref a_8, .ref a_9, .int v_10, .ref a_11, .ref a_12, .ref a_13, .int v_14, .int (-1), .ref a_16, .int v_17, .ref a_18, .ref a_19, .int v_20]) := by rw [ef_22]; exact up_self
  refine lv_aload_n hx hb dX11_walk_5 rfl (lv_at hl 0 rfl) ?_
  refine tk_ViP (As := []) (rest := []) (n := 0) hx hb hml hown hU hN hZ (s_X11_takeRow_k11 l (dC, dI) cI cL cZ cR cG cH Z kd L f_22 hG o0 mo0 ko0) wd_1071 wd_1072 wd_1073 wd_2 wd_1074 (by decide +kernel) ⟨Nat.le_of_ble_eq_true rfl, Nat.le_of_ble_eq_true rfl⟩ hK hP hD hS mo0 hfo_23 11 rfl rfl rfl hl.1 rfl (Nat.le_of_ble_eq_true rfl) dX11_walk_6 ⟨Nat.le_of_ble_eq_true rfl, Nat.le_of_ble_eq_true rfl⟩ (fun x_24 f_25 H locs hw hP hD hS => ?_)
  obtain ⟨hG, bx_24, hkc_26, hfc_27, hrc_28, hrc_29, hrc_30, hrc_31, hrc_32, hrc_33, hrc_34, hrc_35, hpost_36⟩ := hw
  have hfr0 : ∀ b, kd b ≠ 11 → kd b ≠ 540 → f_25 b = f b := fun b q11 q540 => (hkc_26 b q11 q540).trans (hfr0 b q11 q540)
  have hfr11_8 : ∀ b, kd b = 11 → fldI (f_25 b) 8 = fldI (f b) 8 := fun b kb => (hfc_27 b kb).trans (hfr11_8 b kb)
  have hrr11_2 : ∀ b, kd b = 11 → fldR (f_25 b) 2 = fldR (f b) 2 := fun b kb => (hrc_28 b kb).trans (hrr11_2 b kb)
  have hrr11_3 : ∀ b, kd b = 11 → fldR (f_25 b) 3 = fldR (f b) 3 := fun b kb => (hrc_29 b kb).trans (hrr11_3 b kb)
  have hrr11_5 : ∀ b, kd b = 11 → fldR (f_25 b) 5 = fldR (f b) 5 := fun b kb => (hrc_30 b kb).trans (hrr11_5 b kb)
  have hrr11_6 : ∀ b, kd b = 11 → fldR (f_25 b) 6 = fldR (f b) 6 := fun b kb => (hrc_31 b kb).trans (hrr11_6 b kb)
  have hrr11_7 : ∀ b, kd b = 11 → fldR (f_25 b) 7 = fldR (f b) 7 := fun b kb => (hrc_32 b kb).trans (hrr11_7 b kb)
  have hrr11_9 : ∀ b, kd b = 11 → fldR (f_25 b) 9 = fldR (f b) 9 := fun b kb => (hrc_33 b kb).trans (hrr11_9 b kb)
  have hrr11_10 : ∀ b, kd b = 11 → fldR (f_25 b) 10 = fldR (f b) 10 := fun b kb => (hrc_34 b kb).trans (hrr11_10 b kb)
  have hrr11_16 : ∀ b, kd b = 11 → fldR (f_25 b) 16 = fldR (f b) 16 := fun b kb => (hrc_35 b kb).trans (hrr11_16 b kb)
  obtain ⟨a_39, v_40, a_41, a_42, a_43, a_44, a_45, a_46, v_47, a_48, a_49, a_50, v_51, v_52, a_53, v_54, a_55, a_56, v_57, hfo_38, ⟨ma_39, ka_39⟩, bv_40, ⟨ma_41, ka_41⟩, ⟨ma_42, ka_42⟩, ⟨ma_43, ka_43⟩, ⟨ma_44, ka_44⟩, ⟨ma_45, ka_45⟩, ⟨ma_46, ka_46⟩, bv_47, ⟨ma_48, ka_48⟩, ⟨ma_49, ka_49⟩, ⟨ma_50, ka_50⟩, bv_51, ⟨ma_53, ka_53⟩, bv_54, ⟨ma_55, ka_55⟩, ⟨ma_56, ka_56⟩⟩ := un_11 (hG _ mo0) ko0
  have bv_52 : ((-2147483648) ≤ v_52.toInt ∧ v_52.toInt ≤ 2147483647) := ⟨i32_lo _, i32_hi _⟩
  have bv_57 : ((-2147483648) ≤ v_57.toInt ∧ v_57.toInt ≤ 2147483647) := ⟨i32_lo _, i32_hi _⟩
  obtain rfl : a_4 = a_41 := by have hk9 := hrr11_2 o0 ko0; rw [hfo_38, hfo_1] at hk9; exact (Option.some.inj hk9).symm
  obtain rfl : a_5 = a_42 := by have hk9 := hrr11_3 o0 ko0; rw [hfo_38, hfo_1] at hk9; exact (Option.some.inj hk9).symm
  obtain rfl : a_7 = a_44 := by have hk9 := hrr11_5 o0 ko0; rw [hfo_38, hfo_1] at hk9; exact (Option.some.inj hk9).symm
  obtain rfl : a_8 = a_45 := by have hk9 := hrr11_6 o0 ko0; rw [hfo_38, hfo_1] at hk9; exact (Option.some.inj hk9).symm
  obtain rfl : a_9 = a_46 := by have hk9 := hrr11_7 o0 ko0; rw [hfo_38, hfo_1] at hk9; exact (Option.some.inj hk9).symm
  obtain rfl : a_11 = a_48 := by have hk9 := hrr11_9 o0 ko0; rw [hfo_38, hfo_1] at hk9; exact (Option.some.inj hk9).symm
  obtain rfl : a_12 = a_49 := by have hk9 := hrr11_10 o0 ko0; rw [hfo_38, hfo_1] at hk9; exact (Option.some.inj hk9).symm
  obtain rfl : a_18 = a_55 := by have hk9 := hrr11_16 o0 ko0; rw [hfo_38, hfo_1] at hk9; exact (Option.some.inj hk9).symm
  obtain rfl : v_10 = v_47 := by have hk9 := hfc_27 o0 ko0; rw [hfo_38, hfo_23] at hk9; exact (Option.some.inj hk9).symm
  have hqhpost_36 := hpost_36 v_3 v_40 (by rw [hfo_23]; rfl) (by rw [hfo_38]; rfl)
  refine lv_istore_n (lv' := [(1, .int x_24), (0, .ref o0)]) hx hb dX11_walk_9 rfl hl (by decide) rfl (fun ls hl => ?_)
  refine lv_iload_n hx hb dX11_walk_10 rfl (lv_at hl 0 rfl) ?_
  refine lv_iconst (v := (-1)) hx hb dX11_walk_11 (by decide) ?_
  refine lv_icmp_ne (tgt := 18) hx hb dX11_walk_12 (by decide) (fun c_58 => ?_) (fun c_58 => ?_)
  · skip
    rw [← Int32.toInt_inj, ti_m1] at c_58
    refine lv_iconst (v := 0) hx hb dX11_walk_18 (by decide) ?_
    refine lv_istore_n (lv' := [(2, .int 0), (1, .int x_24), (0, .ref o0)]) hx hb dX11_walk_19 rfl hl (by decide) rfl (fun ls hl => ?_)
    have hloop_112 : ∀ (n : Nat), ∀ (y_113 : Int32), (0 ≤ y_113.toInt ∧ y_113.toInt ≤ 8) → ∀ (f_115 : Nat → va_E), GI (okc cI cL cZ cR cG cH L kd) kd L f_115 → ∀ (H : Heap) (locs : List Loc), va_P (dC, dI) vwCl (va_pl L f_115) H → va_S (fun q => q ∈ L) s.heap H locs → va_D (fun q => q ∈ L) (va_pl L f_115) → (∀ b, kd b ≠ 11 → kd b ≠ 540 → f_115 b = f b) → (∀ b, kd b = 11 → fldI (f_115 b) 8 = fldI (f b) 8) → (∀ b, kd b = 11 → fldR (f_115 b) 2 = fldR (f b) 2) → (∀ b, kd b = 11 → fldR (f_115 b) 3 = fldR (f b) 3) → (∀ b, kd b = 11 → fldR (f_115 b) 5 = fldR (f b) 5) → (∀ b, kd b = 11 → fldR (f_115 b) 6 = fldR (f b) 6) → (∀ b, kd b = 11 → fldR (f_115 b) 7 = fldR (f b) 7) → (∀ b, kd b = 11 → fldR (f_115 b) 9 = fldR (f b) 9) → (∀ b, kd b = 11 → fldR (f_115 b) 10 = fldR (f b) 10) → (∀ b, kd b = 11 → fldR (f_115 b) 16 = fldR (f b) 16) → ∀ (whloop_112_0_1 : Int32), fldI (f_115 o0) 1 = some whloop_112_0_1 → (0 ≤ whloop_112_0_1.toInt ∧ whloop_112_0_1.toInt ≤ 0) → 8 - y_113.toInt < (n : Int) → ∀ (ls : Array Slot), lv_has ls 3 [(2, .int y_113), (1, .int x_24), (0, .ref o0)] → W p l e (headSpec (wU yX11_walk cX11_walk 3 (some .int)) { frames := 3, cells := 0, slots := 0, locals := 75 }).room s m [.ref o0].toArray below meth c H locs 0 0 (MQ below (va_Qi (fun (r : Int32) (f9 : Nat → va_E) => GI (okc cI cL cZ cR cG cH L kd) kd L f9 ∧ ((-2147483648) ≤ r.toInt ∧ r.toInt ≤ 2147483647) ∧ (∀ b, kd b ≠ 11 → kd b ≠ 540 → f9 b = f b) ∧ (∀ b, kd b = 11 → fldI (f9 b) 8 = fldI (f b) 8) ∧ (∀ b, kd b = 11 → fldR (f9 b) 2 = fldR (f b) 2) ∧ (∀ b, kd b = 11 → fldR (f9 b) 3 = fldR (f b) 3) ∧ (∀ b, kd b = 11 → fldR (f9 b) 5 = fldR (f b) 5) ∧ (∀ b, kd b = 11 → fldR (f9 b) 6 = fldR (f b) 6) ∧ (∀ b, kd b = 11 → fldR (f9 b) 7 = fldR (f b) 7) ∧ (∀ b, kd b = 11 → fldR (f9 b) 9 = fldR (f b) 9) ∧ (∀ b, kd b = 11 → fldR (f9 b) 10 = fldR (f b) 10) ∧ (∀ b, kd b = 11 → fldR (f9 b) 16 = fldR (f b) 16) ∧ (∀ (w1 z1 : Int32), fldI (f o0) 1 = some w1 → fldI (f9 o0) 1 = some z1 → z1.toInt = 0)) (qP (dC, dI) cI cL cZ cR cG cH L) (fun q => q ∈ L)) [.ref o0].toArray s 0 0 (fun q => q ∈ L)) (F0 m 20 ls []) := by
      intro n
      induction n with
      | zero => intro y_113 by_113 f_115 hG H locs hP hS hD hfr0 hfr11_8 hrr11_2 hrr11_3 hrr11_5 hrr11_6 hrr11_7 hrr11_9 hrr11_10 hrr11_16 whloop_112_0_1 hghloop_112_0_1 hrelhloop_112_0 hmuhloop_112 ls hl; exfalso; omega
      | succ n ih_hloop_112 =>
        intro y_113 by_113 f_115 hG H locs hP hS hD hfr0 hfr11_8 hrr11_2 hrr11_3 hrr11_5 hrr11_6 hrr11_7 hrr11_9 hrr11_10 hrr11_16 whloop_112_0_1 hghloop_112_0_1 hrelhloop_112_0 hmuhloop_112 ls hl
        obtain ⟨a_117, v_118, a_119, a_120, a_121, a_122, a_123, a_124, v_125, a_126, a_127, a_128, v_129, v_130, a_131, v_132, a_133, a_134, v_135, hfo_116, ⟨ma_117, ka_117⟩, bv_118, ⟨ma_119, ka_119⟩, ⟨ma_120, ka_120⟩, ⟨ma_121, ka_121⟩, ⟨ma_122, ka_122⟩, ⟨ma_123, ka_123⟩, ⟨ma_124, ka_124⟩, bv_125, ⟨ma_126, ka_126⟩, ⟨ma_127, ka_127⟩, ⟨ma_128, ka_128⟩, bv_129, ⟨ma_131, ka_131⟩, bv_132, ⟨ma_133, ka_133⟩, ⟨ma_134, ka_134⟩⟩ := un_11 (hG _ mo0) ko0
        have bv_130 : ((-2147483648) ≤ v_130.toInt ∧ v_130.toInt ≤ 2147483647) := ⟨i32_lo _, i32_hi _⟩
        have bv_135 : ((-2147483648) ≤ v_135.toInt ∧ v_135.toInt ≤ 2147483647) := ⟨i32_lo _, i32_hi _⟩
        obtain rfl : a_4 = a_119 := by have hk9 := hrr11_2 o0 ko0; rw [hfo_116, hfo_1] at hk9; exact (Option.some.inj hk9).symm
        obtain rfl : a_5 = a_120 := by have hk9 := hrr11_3 o0 ko0; rw [hfo_116, hfo_1] at hk9; exact (Option.some.inj hk9).symm
        obtain rfl : a_7 = a_122 := by have hk9 := hrr11_5 o0 ko0; rw [hfo_116, hfo_1] at hk9; exact (Option.some.inj hk9).symm
        obtain rfl : a_8 = a_123 := by have hk9 := hrr11_6 o0 ko0; rw [hfo_116, hfo_1] at hk9; exact (Option.some.inj hk9).symm
        obtain rfl : a_9 = a_124 := by have hk9 := hrr11_7 o0 ko0; rw [hfo_116, hfo_1] at hk9; exact (Option.some.inj hk9).symm
        obtain rfl : a_11 = a_126 := by have hk9 := hrr11_9 o0 ko0; rw [hfo_116, hfo_1] at hk9; exact (Option.some.inj hk9).symm
        obtain rfl : a_12 = a_127 := by have hk9 := hrr11_10 o0 ko0; rw [hfo_116, hfo_1] at hk9; exact (Option.some.inj hk9).symm
        obtain rfl : a_18 = a_133 := by have hk9 := hrr11_16 o0 ko0; rw [hfo_116, hfo_1] at hk9; exact (Option.some.inj hk9).symm
        obtain rfl : v_118 = whloop_112_0_1 := by rw [hfo_116] at hghloop_112_0_1; exact Option.some.inj hghloop_112_0_1
        refine lv_iload_n hx hb dX11_walk_20 rfl (lv_at hl 0 rfl) ?_
        refine lv_aload_n hx hb dX11_walk_21 rfl (lv_at hl 2 rfl) ?_
        refine tk_getP (D := (dC, dI)) (ci := 11) (v := .ref a_5) (C := RX11) (T := TX11) (N := 19) hx hb hU inlX11 hown hK hP mo0 hfo_116 rfl 3 (by decide) (hU _ wd_19) (fun _ h9 => h9) rfl dX11_walk_22 ?_
        obtain ⟨a_137, v_138, a_139, a_140, a_141, a_142, v_143, a_144, a_145, a_146, a_147, a_148, v_149, a_150, a_151, a_152, hfo_136, ⟨ma_137, ka_137⟩, bv_138, ⟨ma_139, ka_139⟩, ⟨ma_140, ka_140⟩, ⟨ma_141, ka_141⟩, ⟨ma_142, ka_142⟩, bv_143, ⟨ma_144, ka_144⟩, ⟨ma_145, ka_145⟩, ⟨ma_146, ka_146⟩, ⟨ma_147, ka_147⟩, ⟨ma_148, ka_148⟩, bv_149, ⟨ma_150, ka_150⟩, ⟨ma_151, ka_151⟩, ⟨ma_152, ka_152⟩⟩ := un_7 (hG _ ma_5) ka_5
        refine tk_getP (D := (dC, dI)) (ci := 7) (v := .int v_149) (C := RX7) (T := TX7) (N := 16) hx hb hU inlX7 hown hK hP ma_5 hfo_136 rfl 12 (by decide) (hU _ wd_235) (fun _ h9 => h9) rfl dX11_walk_25 ?_
        refine lv_icmp_ge (tgt := 83) hx hb dX11_walk_28 (by decide) (fun c_153 => ?_) (fun c_153 => ?_)
        · skip
          rw [Int32.le_iff_toInt_le] at c_153
          refine lv_iconst (v := (-1)) hx hb dX11_walk_83 (by decide) ?_
          exact W.iret (v := (-1)) hx hb hr (fun t ht hW => ⟨⟨(-1), f_115, rfl, ⟨hG, (by decide), hfr0, hfr11_8, hrr11_2, hrr11_3, hrr11_5, hrr11_6, hrr11_7, hrr11_9, hrr11_10, hrr11_16, (by intro w1 z1 e1 d1; rw [hfo_1] at e1; rw [hfo_116] at d1; obtain rfl := Option.some.inj e1; obtain rfl := Option.some.inj d1; (try rw [ti_m1]) <;> omega)⟩, by rw [ht]; exact hP, va_K.moved hW.alike hK, pl_in hD⟩, hS.F ht⟩) hS.2.2 dX11_walk_84
        · skip
          rw [Int32.le_iff_toInt_le] at c_153
          refine lv_aload_n hx hb dX11_walk_31 rfl (lv_at hl 2 rfl) ?_
          refine tk_getP (D := (dC, dI)) (ci := 11) (v := .ref a_7) (C := RX11) (T := TX11) (N := 19) hx hb hU inlX11 hown hK hP mo0 hfo_116 rfl 5 (by decide) (hU _ wd_25) (fun _ h9 => h9) rfl dX11_walk_32 ?_
          obtain ⟨v_155, v_156, a_157, a_158, a_159, v_160, a_161, a_162, a_163, hfo_154, bv_156, ⟨ma_157, ka_157⟩, ⟨ma_158, ka_158⟩, ⟨ma_159, ka_159⟩, ⟨ma_161, ka_161⟩, ⟨ma_162, ka_162⟩, ⟨ma_163, ka_163⟩⟩ := un_6 (hG _ ma_7) ka_7
          have bv_155 : ((-2147483648) ≤ v_155.toInt ∧ v_155.toInt ≤ 2147483647) := ⟨i32_lo _, i32_hi _⟩
          have bv_160 : ((-2147483648) ≤ v_160.toInt ∧ v_160.toInt ≤ 2147483647) := ⟨i32_lo _, i32_hi _⟩
          refine tk_getP (D := (dC, dI)) (ci := 6) (v := .int v_155) (C := RX6) (T := TX6) (N := 9) hx hb hU inlX6 hown hK hP ma_7 hfo_154 rfl 0 (by decide) (hU _ wd_677) (fun _ h9 => h9) rfl dX11_walk_35 ?_
          refine lv_iload_n hx hb dX11_walk_38 rfl (lv_at hl 0 rfl) ?_
          refine lv_ishr hx hb dX11_walk_39 ?_
          refine lv_topi (fun x_164 ex_164 => ?_)
          have bx_164 : ((-2147483648) ≤ x_164.toInt ∧ x_164.toInt ≤ 2147483647) := ⟨i32_lo _, i32_hi _⟩
          refine lv_iconst (v := 1) hx hb dX11_walk_40 (by decide) ?_
          refine lv_iand hx hb dX11_walk_41 ?_
          refine lv_topi (fun x_165 ex_165 => ?_)
          have bx_165 : (0 ≤ x_165.toInt ∧ x_165.toInt ≤ 1) := by rw [ex_165]; have h8 := an_C x_164 (m := 1) (by decide); rw [ti_1] at h8; exact h8
          refine lv_iconst (v := 1) hx hb dX11_walk_42 (by decide) ?_
          refine lv_icmp_ne (tgt := 67) hx hb dX11_walk_43 (by decide) (fun c_166 => ?_) (fun c_166 => ?_)
          · skip
            rw [← Int32.toInt_inj, ti_1] at c_166
            refine lv_aload_n hx hb dX11_walk_67 rfl (lv_at hl 2 rfl) ?_
            refine tk_getP (D := (dC, dI)) (ci := 11) (v := .int v_130) (C := RX11) (T := TX11) (N := 19) hx hb hU inlX11 hown hK hP mo0 hfo_116 rfl 13 (by decide) (hU _ wd_40) (fun _ h9 => h9) rfl dX11_walk_68 ?_
            refine lv_iconst (v := (-1)) hx hb dX11_walk_71 (by decide) ?_
            refine lv_icmp_eq (tgt := 77) hx hb dX11_walk_72 (by decide) (fun c_167 => ?_) (fun c_167 => ?_)
            · skip
              rw [← Int32.toInt_inj, ti_m1] at c_167
              obtain ⟨x_168, ex_168⟩ : ∃ y : Int32, y_113 + 1 = y := ⟨_, rfl⟩
              have hx_168 : x_168.toInt = y_113.toInt + 1 := by rw [← ex_168, ad_I (by rw [ti_1]; omega) (by rw [ti_1]; omega), ti_1]
              have bx_168 : (1 ≤ x_168.toInt ∧ x_168.toInt ≤ 8) := by constructor <;> omega
              refine lv_iinc (v := x_168) (lv' := [(2, .int x_168), (1, .int x_24), (0, .ref o0)]) hx hb dX11_walk_77 hl (k := 0) rfl ex_168 (by decide) rfl (fun ls hl => ?_)
              refine lv_goto (tgt := 20) hx hb dX11_walk_80 (by decide) ?_
              exact ih_hloop_112 x_168 (by constructor <;> omega) f_115 hG _ _ hP hS hD hfr0 hfr11_8 hrr11_2 hrr11_3 hrr11_5 hrr11_6 hrr11_7 hrr11_9 hrr11_10 hrr11_16 v_118 (by rw [hfo_116]; rfl) (by omega) (by omega) ls (lv_sub hl [0, 1, 2] rfl)
            · skip
              rw [← Int32.toInt_inj, ti_m1] at c_167
              refine lv_iload_n hx hb dX11_walk_75 rfl (lv_at hl 0 rfl) ?_
              exact W.iret (v := y_113) hx hb hr (fun t ht hW => ⟨⟨y_113, f_115, rfl, ⟨hG, (by constructor <;> omega), hfr0, hfr11_8, hrr11_2, hrr11_3, hrr11_5, hrr11_6, hrr11_7, hrr11_9, hrr11_10, hrr11_16, (by intro w1 z1 e1 d1; rw [hfo_1] at e1; rw [hfo_116] at d1; obtain rfl := Option.some.inj e1; obtain rfl := Option.some.inj d1; omega)⟩, by rw [ht]; exact hP, va_K.moved hW.alike hK, pl_in hD⟩, hS.F ht⟩) hS.2.2 dX11_walk_76
          · skip
            rw [← Int32.toInt_inj, ti_1] at c_166
            refine lv_aload_n hx hb dX11_walk_46 rfl (lv_at hl 2 rfl) ?_
            refine lv_aload_n hx hb dX11_walk_47 rfl (lv_at hl 2 rfl) ?_
            refine tk_getP (D := (dC, dI)) (ci := 11) (v := .ref a_5) (C := RX11) (T := TX11) (N := 19) hx hb hU inlX11 hown hK hP mo0 hfo_116 rfl 3 (by decide) (hU _ wd_19) (fun _ h9 => h9) rfl dX11_walk_48 ?_
            refine tk_getP (D := (dC, dI)) (ci := 7) (v := .ref a_148) (C := RX7) (T := TX7) (N := 16) hx hb hU inlX7 hown hK hP ma_5 hfo_136 rfl 11 (by decide) (hU _ wd_1070) (fun _ h9 => h9) rfl dX11_walk_51 ?_
            refine lv_iload_n hx hb dX11_walk_54 rfl (lv_at hl 0 rfl) ?_
            obtain ⟨g_170, hfo_169, hbg_170⟩ := un_515 (hG _ ma_148) ka_148
            obtain ⟨a_171, hga_171, ma_171, ka_171⟩ := hbg_170 (Int32.toNatClampNeg y_113) (in_lt (vp_in_iff.mpr (by constructor <;> omega)))
            refine tk_aldP hx hb hK hP 3 ma_148 hfo_169 rfl (vp_in_iff.mpr (by constructor <;> omega)) hga_171 dX11_walk_55 ?_
            refine lv_aload_n hx hb dX11_walk_56 rfl (lv_at hl 2 rfl) ?_
            refine tk_getP (D := (dC, dI)) (ci := 11) (v := .ref a_18) (C := RX11) (T := TX11) (N := 19) hx hb hU inlX11 hown hK hP mo0 hfo_116 rfl 16 (by decide) (hU _ wd_42) (fun _ h9 => h9) rfl dX11_walk_57 ?_
            refine lv_iload_n hx hb dX11_walk_60 rfl (lv_at hl 1 rfl) ?_
            obtain ⟨v_173, v_174, v_175, v_176, a_177, a_178, a_179, a_180, v_181, v_182, v_183, hfo_172, bv_173, bv_174, bv_175, bv_176, ⟨ma_177, ka_177⟩, ⟨ma_178, ka_178⟩, ⟨ma_179, ka_179⟩, ⟨ma_180, ka_180⟩⟩ := un_4 (hG _ ma_171) ka_171
            have bv_181 : ((-2147483648) ≤ v_181.toInt ∧ v_181.toInt ≤ 2147483647) := ⟨i32_lo _, i32_hi _⟩
            have bv_182 : ((-2147483648) ≤ v_182.toInt ∧ v_182.toInt ≤ 2147483647) := ⟨i32_lo _, i32_hi _⟩
            have bv_183 : ((-2147483648) ≤ v_183.toInt ∧ v_183.toInt ≤ 2147483647) := ⟨i32_lo _, i32_hi _⟩
            refine tk_ViP (As := [.ref a_18, .int x_24]) (rest := [.ref o0]) (n := 2) hx hb hml hown hU hN hZ (s_X4_firstBreak_k4_a540 l (dC, dI) cI cL cZ cR cG cH Z kd L f_115 hG a_171 ma_171 ka_171 a_18 ma_18 ka_18 x_24 (by constructor <;> omega)) wd_1080 wd_1035 wd_1036 wd_90 wd_1037 (by decide +kernel) ⟨Nat.le_of_ble_eq_true rfl, Nat.le_of_ble_eq_true rfl⟩ hK hP hD hS ma_171 hfo_172 4 rfl rfl rfl hl.1 rfl (Nat.le_of_ble_eq_true rfl) dX11_walk_61 ⟨Nat.le_of_ble_eq_true rfl, Nat.le_of_ble_eq_true rfl⟩ (fun x_184 f_185 H locs hw hP hD hS => ?_)
            obtain ⟨rfl, bx_184⟩ := hw
            refine tk_putP (D := (dC, dI)) (ci := 11) (v := .int x_184) (ty := .int) (C := RX11) (T := TX11) (N := 19) hx hb hU inlX11 tyX11 tyX11_ok nmX11 hown hK hP hD hS mo0 hfo_116 rfl 13 (by decide) (hU _ wd_40) (fun _ h9 => h9) rfl (by decide +kernel) rfl rfl (Nat.le_of_ble_eq_true rfl) dX11_walk_64 (fun H locs hP hD hS => ?_)
            obtain ⟨f_188, ef_188⟩ : ∃ y : Nat → va_E, y = va_up f_115 o0 (.inr (11, [.ref a_117, .int v_118, .ref a_4, .ref a_5, .ref a_121, .ref a_7, .ref a_8, .ref a_9, .int v_125, .ref a_11, .ref a_12, .ref a_128, .int v_129, .int x_184, .ref a_131, .int v_132, .ref a_18, .ref a_134, .int v_135])) := ⟨_, rfl⟩
            have hP : va_P (dC, dI) vwCl (va_pl L f_188) H := by rw [ef_188]; exact hP
            have hD : va_D (fun q => q ∈ L) (va_pl L f_188) := by rw [ef_188]; exact hD
            have hG : GI (okc cI cL cZ cR cG cH L kd) kd L f_188 := by rw [ef_188]; exact hG.set o0 (mk_11 ko0 ⟨a_117, v_118, a_4, a_5, a_121, a_7, a_8, a_9, v_125, a_11, a_12, a_128, v_129, x_184, a_131, v_132, a_18, a_134, v_135, rfl, ⟨ma_117, ka_117⟩, (by constructor <;> omega), ⟨ma_4, ka_4⟩, ⟨ma_5, ka_5⟩, ⟨ma_121, ka_121⟩, ⟨ma_7, ka_7⟩, ⟨ma_8, ka_8⟩, ⟨ma_9, ka_9⟩, (by constructor <;> omega), ⟨ma_11, ka_11⟩, ⟨ma_12, ka_12⟩, ⟨ma_128, ka_128⟩, (by constructor <;> omega), ⟨ma_131, ka_131⟩, (by constructor <;> omega), ⟨ma_18, ka_18⟩, ⟨ma_134, ka_134⟩⟩)
            have hfo_189 : f_188 a_5 = .inr (7, [.ref a_137, .int v_138, .ref a_139, .ref a_140, .ref a_141, .ref a_142, .int v_143, .ref a_144, .ref a_145, .ref a_146, .ref a_147, .ref a_148, .int v_149, .ref a_150, .ref a_151, .ref a_152]) := by rw [ef_188, up_ne (kd_ne ko0 ka_5 (by decide))]; exact hfo_136
            have hfo_190 : f_188 a_7 = .inr (6, [.int v_155, .int v_156, .ref a_157, .ref a_158, .ref a_159, .int v_160, .ref a_161, .ref a_162, .ref a_163]) := by rw [ef_188, up_ne (kd_ne ko0 ka_7 (by decide))]; exact hfo_154
            have hfo_191 : f_188 a_148 = .inl (cR, 8, .inr (.inr (.inr (.inr g_170)))) := by rw [ef_188, up_ne (kd_ne ko0 ka_148 (by decide))]; exact hfo_169
            have hfo_192 : f_188 a_171 = .inr (4, [.int v_173, .int v_174, .int v_175, .int v_176, .ref a_177, .ref a_178, .ref a_179, .ref a_180, .int v_181, .int v_182, .int v_183]) := by rw [ef_188, up_ne (kd_ne ko0 ka_171 (by decide))]; exact hfo_172
            have hfr0 : ∀ b, kd b ≠ 11 → kd b ≠ 540 → f_188 b = f b := fun b q11 q540 => (congrFun ef_188 b).trans ((up_ne (fun e9 => q11 (by rw [e9]; exact ko0))).trans (hfr0 b q11 q540))
            have hfr11_8 : ∀ b, kd b = 11 → fldI (f_188 b) 8 = fldI (f b) 8 := fun b kb => ((congrArg (fun x => fldI x 8) (congrFun ef_188 b)).trans (fk_up (by rw [hfo_116]; rfl) b)).trans (hfr11_8 b kb)
            have hrr11_2 : ∀ b, kd b = 11 → fldR (f_188 b) 2 = fldR (f b) 2 := fun b kb => ((congrArg (fun x => fldR x 2) (congrFun ef_188 b)).trans (fr_up (by rw [hfo_116]; rfl) b)).trans (hrr11_2 b kb)
            have hrr11_3 : ∀ b, kd b = 11 → fldR (f_188 b) 3 = fldR (f b) 3 := fun b kb => ((congrArg (fun x => fldR x 3) (congrFun ef_188 b)).trans (fr_up (by rw [hfo_116]; rfl) b)).trans (hrr11_3 b kb)
            have hrr11_5 : ∀ b, kd b = 11 → fldR (f_188 b) 5 = fldR (f b) 5 := fun b kb => ((congrArg (fun x => fldR x 5) (congrFun ef_188 b)).trans (fr_up (by rw [hfo_116]; rfl) b)).trans (hrr11_5 b kb)
            have hrr11_6 : ∀ b, kd b = 11 → fldR (f_188 b) 6 = fldR (f b) 6 := fun b kb => ((congrArg (fun x => fldR x 6) (congrFun ef_188 b)).trans (fr_up (by rw [hfo_116]; rfl) b)).trans (hrr11_6 b kb)
            have hrr11_7 : ∀ b, kd b = 11 → fldR (f_188 b) 7 = fldR (f b) 7 := fun b kb => ((congrArg (fun x => fldR x 7) (congrFun ef_188 b)).trans (fr_up (by rw [hfo_116]; rfl) b)).trans (hrr11_7 b kb)
            have hrr11_9 : ∀ b, kd b = 11 → fldR (f_188 b) 9 = fldR (f b) 9 := fun b kb => ((congrArg (fun x => fldR x 9) (congrFun ef_188 b)).trans (fr_up (by rw [hfo_116]; rfl) b)).trans (hrr11_9 b kb)
            have hrr11_10 : ∀ b, kd b = 11 → fldR (f_188 b) 10 = fldR (f b) 10 := fun b kb => ((congrArg (fun x => fldR x 10) (congrFun ef_188 b)).trans (fr_up (by rw [hfo_116]; rfl) b)).trans (hrr11_10 b kb)
            have hrr11_16 : ∀ b, kd b = 11 → fldR (f_188 b) 16 = fldR (f b) 16 := fun b kb => ((congrArg (fun x => fldR x 16) (congrFun ef_188 b)).trans (fr_up (by rw [hfo_116]; rfl) b)).trans (hrr11_16 b kb)
            have hfo_193 : f_188 o0 = .inr (11, [.ref a_117, .int v_118, .ref a_4, .ref a_5, .ref a_121, .ref a_7, .ref a_8, .ref a_9, .int v_125, .ref a_11, .ref a_12, .ref a_128, .int v_129, .int x_184, .ref a_131, .int v_132, .ref a_18, .ref a_134, .int v_135]) := by rw [ef_188]; exact up_self
            refine lv_aload_n hx hb dX11_walk_67 rfl (lv_at hl 2 rfl) ?_
            refine tk_getP (D := (dC, dI)) (ci := 11) (v := .int x_184) (C := RX11) (T := TX11) (N := 19) hx hb hU inlX11 hown hK hP mo0 hfo_193 rfl 13 (by decide) (hU _ wd_40) (fun _ h9 => h9) rfl dX11_walk_68 ?_
            refine lv_iconst (v := (-1)) hx hb dX11_walk_71 (by decide) ?_
            refine lv_icmp_eq (tgt := 77) hx hb dX11_walk_72 (by decide) (fun c_194 => ?_) (fun c_194 => ?_)
            · skip
              rw [← Int32.toInt_inj, ti_m1] at c_194
              obtain ⟨x_195, ex_195⟩ : ∃ y : Int32, y_113 + 1 = y := ⟨_, rfl⟩
              have hx_195 : x_195.toInt = y_113.toInt + 1 := by rw [← ex_195, ad_I (by rw [ti_1]; omega) (by rw [ti_1]; omega), ti_1]
              have bx_195 : (1 ≤ x_195.toInt ∧ x_195.toInt ≤ 8) := by constructor <;> omega
              refine lv_iinc (v := x_195) (lv' := [(2, .int x_195), (1, .int x_24), (0, .ref o0)]) hx hb dX11_walk_77 hl (k := 0) rfl ex_195 (by decide) rfl (fun ls hl => ?_)
              refine lv_goto (tgt := 20) hx hb dX11_walk_80 (by decide) ?_
              exact ih_hloop_112 x_195 (by constructor <;> omega) f_188 hG _ _ hP hS hD hfr0 hfr11_8 hrr11_2 hrr11_3 hrr11_5 hrr11_6 hrr11_7 hrr11_9 hrr11_10 hrr11_16 v_118 (by rw [hfo_193]; rfl) (by omega) (by omega) ls (lv_sub hl [0, 1, 2] rfl)
            · skip
              rw [← Int32.toInt_inj, ti_m1] at c_194
              refine lv_iload_n hx hb dX11_walk_75 rfl (lv_at hl 0 rfl) ?_
              exact W.iret (v := y_113) hx hb hr (fun t ht hW => ⟨⟨y_113, f_188, rfl, ⟨hG, (by constructor <;> omega), hfr0, hfr11_8, hrr11_2, hrr11_3, hrr11_5, hrr11_6, hrr11_7, hrr11_9, hrr11_10, hrr11_16, (by intro w1 z1 e1 d1; rw [hfo_1] at e1; rw [hfo_193] at d1; obtain rfl := Option.some.inj e1; obtain rfl := Option.some.inj d1; omega)⟩, by rw [ht]; exact hP, va_K.moved hW.alike hK, pl_in hD⟩, hS.F ht⟩) hS.2.2 dX11_walk_76
    exact hloop_112 9 0 (by decide) f_25 hG _ _ hP hS hD hfr0 hfr11_8 hrr11_2 hrr11_3 hrr11_5 hrr11_6 hrr11_7 hrr11_9 hrr11_10 hrr11_16 v_40 (by rw [hfo_38]; rfl) (by (try rw [ti_0]) <;> omega) (by (try rw [ti_0]) <;> omega) ls hl
  · skip
    rw [← Int32.toInt_inj, ti_m1] at c_58
    refine lv_bipush (v := (-2)) hx hb dX11_walk_15 (by decide) ?_
    exact W.iret (v := (-2)) hx hb hr (fun t ht hW => ⟨⟨(-2), f_25, rfl, ⟨hG, (by decide), hfr0, hfr11_8, hrr11_2, hrr11_3, hrr11_5, hrr11_6, hrr11_7, hrr11_9, hrr11_10, hrr11_16, (by intro w1 z1 e1 d1; rw [hfo_1] at e1; rw [hfo_38] at d1; obtain rfl := Option.some.inj e1; obtain rfl := Option.some.inj d1; (try rw [ti_m2]) <;> omega)⟩, by rw [ht]; exact hP, va_K.moved hW.alike hK, pl_in hD⟩, hS.F ht⟩) hS.2.2 dX11_walk_17
