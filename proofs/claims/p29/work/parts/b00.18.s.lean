set_option maxHeartbeats 8000000 in
set_option maxRecDepth 100000 in
theorem s_X4_mayClash_k4_k4 (l : Launch) (D : va_G) (cI cL cZ cR cG cH : ClassId) (Z : zT) (kd : Nat → Nat) (L : List Nat) (f : Nat → va_E) (hG : GI (okc cI cL cZ cR cG cH L kd) kd L f) (o0 : Nat) (mo0 : o0 ∈ L) (ko0 : kd o0 = 4) (o1 : Nat) (mo1 : o1 ∈ L) (ko1 : kd o1 = 4) : mPI l D cI cL cZ cR cG cH Z yX4_mayClash cX4_mayClash 4 (some .boolean) 1 20 [.ref o0, .ref o1] L f (fun (r : Int32) (f9 : Nat → va_E) => f = f9 ∧ (0 ≤ r.toInt ∧ r.toInt ≤ 1)) := by
  obtain ⟨dC, dI⟩ := D
  refine Met.ofW (cc := cX4_mayClash) (maxL := 4) (ret := (some .boolean)) (by decide) rfl ?_
  intro p e s m args below meth c s₁ B hml hv
  obtain ⟨rfl, hP, hK, hD0, hN, hZ⟩ := hv
  have hx := B.exec
  have hb := B.bytes
  have hr := B.returns
  have hU : ∀ w ∈ wsU, w.before _ s = true := fun w h => atoms_spec (ws := wU yX4_mayClash cX4_mayClash 4 (some .boolean)) B.pre w (List.mem_cons_of_mem _ h)
  have hown : s.vm.findClass RX4 = some m.cls := findClass_of_methodNamed B.named
  have hlocks := B.notSynchronized
  have hD := pl_in hD0
  have hS : va_S (fun q => q ∈ L) s.heap s.heap [] := va_S.rf
  have hl := lv_entry ([.ref o0, .ref o1]) (n := 4) (Nat.le_of_ble_eq_true rfl)
  rw [lg_entry_eq]
  generalize (lg_sl ([.ref o0, .ref o1]) ++ List.replicate (4 - (lg_sl ([.ref o0, .ref o1])).length) Slot.unset).toArray = ls at hl ⊢
  have hl : lv_has ls 4 [(0, .ref o0), (1, .ref o1)] := hl
  refine lv_aload_n hx hb dX4_mayClash_0 rfl (lv_at hl 0 rfl) ?_
  obtain ⟨v_2, v_3, v_4, v_5, a_6, a_7, a_8, a_9, v_10, v_11, v_12, hfo_1, bv_2, bv_3, bv_4, bv_5, ⟨ma_6, ka_6⟩, ⟨ma_7, ka_7⟩, ⟨ma_8, ka_8⟩, ⟨ma_9, ka_9⟩⟩ := un_4 (hG _ mo0) ko0
  have bv_10 : ((-2147483648) ≤ v_10.toInt ∧ v_10.toInt ≤ 2147483647) := ⟨i32_lo _, i32_hi _⟩
  have bv_11 : ((-2147483648) ≤ v_11.toInt ∧ v_11.toInt ≤ 2147483647) := ⟨i32_lo _, i32_hi _⟩
  have bv_12 : ((-2147483648) ≤ v_12.toInt ∧ v_12.toInt ≤ 2147483647) := ⟨i32_lo _, i32_hi _⟩
  refine tk_getP (D := (dC, dI)) (ci := 4) (v := .int v_2) (C := RX4) (T := TX4) (N := 11) hx hb hU inlX4 hown hK hP mo0 hfo_1 rfl 0 (by decide) (hU _ wd_407) (fun _ h9 => h9) rfl dX4_mayClash_1 ?_
  refine lv_aload_n hx hb dX4_mayClash_4 rfl (lv_at hl 1 rfl) ?_
  obtain ⟨v_14, v_15, v_16, v_17, a_18, a_19, a_20, a_21, v_22, v_23, v_24, hfo_13, bv_14, bv_15, bv_16, bv_17, ⟨ma_18, ka_18⟩, ⟨ma_19, ka_19⟩, ⟨ma_20, ka_20⟩, ⟨ma_21, ka_21⟩⟩ := un_4 (hG _ mo1) ko1
  have bv_22 : ((-2147483648) ≤ v_22.toInt ∧ v_22.toInt ≤ 2147483647) := ⟨i32_lo _, i32_hi _⟩
  have bv_23 : ((-2147483648) ≤ v_23.toInt ∧ v_23.toInt ≤ 2147483647) := ⟨i32_lo _, i32_hi _⟩
  have bv_24 : ((-2147483648) ≤ v_24.toInt ∧ v_24.toInt ≤ 2147483647) := ⟨i32_lo _, i32_hi _⟩
  refine tk_getP (D := (dC, dI)) (ci := 4) (v := .int v_14) (C := RX4) (T := TX4) (N := 11) hx hb hU inlX4 hown hK hP mo1 hfo_13 rfl 0 (by decide) (hU _ wd_407) (fun _ h9 => h9) rfl dX4_mayClash_5 ?_
  refine lv_icmp_eq (tgt := 13) hx hb dX4_mayClash_8 (by decide) (fun c_25 => ?_) (fun c_25 => ?_)
  · skip
    rw [← Int32.toInt_inj] at c_25
    refine lv_aload_n hx hb dX4_mayClash_13 rfl (lv_at hl 0 rfl) ?_
    refine tk_ViP (As := []) (rest := []) (n := 0) hx hb hml hown hU hN hZ (s_X4_isAlways_k4 l (dC, dI) cI cL cZ cR cG cH Z kd L f hG o0 mo0 ko0) wd_511 wd_429 wd_430 wd_90 wd_431 (by decide +kernel) ⟨Nat.le_of_ble_eq_true rfl, Nat.le_of_ble_eq_true rfl⟩ hK hP hD hS mo0 hfo_1 4 rfl rfl rfl hl.1 rfl (Nat.le_of_ble_eq_true rfl) dX4_mayClash_14 ⟨Nat.le_of_ble_eq_true rfl, Nat.le_of_ble_eq_true rfl⟩ (fun x_26 f_27 H locs hw hP hD hS => ?_)
    obtain ⟨rfl, bx_26⟩ := hw
    refine lv_if_eq (tgt := 44) hx hb dX4_mayClash_17 (by decide) (fun c_29 => ?_) (fun c_29 => ?_)
    · skip
      rw [← Int32.toInt_inj, ti_0] at c_29
      refine lv_aload_n hx hb dX4_mayClash_44 rfl (lv_at hl 0 rfl) ?_
      refine tk_ViP (As := []) (rest := []) (n := 0) hx hb hml hown hU hN hZ (s_X4_isAlways_k4 l (dC, dI) cI cL cZ cR cG cH Z kd L f hG o0 mo0 ko0) wd_511 wd_429 wd_430 wd_90 wd_431 (by decide +kernel) ⟨Nat.le_of_ble_eq_true rfl, Nat.le_of_ble_eq_true rfl⟩ hK hP hD hS mo0 hfo_1 4 rfl rfl rfl hl.1 rfl (Nat.le_of_ble_eq_true rfl) dX4_mayClash_45 ⟨Nat.le_of_ble_eq_true rfl, Nat.le_of_ble_eq_true rfl⟩ (fun x_30 f_31 H locs hw hP hD hS => ?_)
      obtain ⟨rfl, bx_30⟩ := hw
      have hcut_34 : ∀ (y_33 : Int32), (0 ≤ y_33.toInt ∧ y_33.toInt ≤ 1) → ∀ (ls : Array Slot), lv_has ls 4 [(0, .ref o0), (1, .ref o1)] → W p l e (headSpec (wU yX4_mayClash cX4_mayClash 4 (some .boolean)) { frames := 1, cells := 0, slots := 0, locals := 20 }).room s m [.ref o0, .ref o1].toArray below meth c H locs 0 0 (MQ below (va_Qi (fun (r : Int32) (f9 : Nat → va_E) => f = f9 ∧ (0 ≤ r.toInt ∧ r.toInt ≤ 1)) (qP (dC, dI) cI cL cZ cR cG cH L) (fun q => q ∈ L)) [.ref o0, .ref o1].toArray s 0 0 (fun q => q ∈ L)) (F0 m 64 ls [.int y_33]) := by
        intro y_33 by_33 ls hl
        refine lv_istore_n (lv' := [(2, .int y_33), (0, .ref o0), (1, .ref o1)]) hx hb dX4_mayClash_64 rfl hl (by decide) rfl (fun ls hl => ?_)
        refine lv_aload_n hx hb dX4_mayClash_65 rfl (lv_at hl 1 rfl) ?_
        refine tk_getP (D := (dC, dI)) (ci := 4) (v := .int v_4) (C := RX4) (T := TX4) (N := 11) hx hb hU inlX4 hown hK hP mo0 hfo_1 rfl 2 (by decide) (hU _ wd_409) (fun _ h9 => h9) rfl dX4_mayClash_66 ?_
        refine lv_iconst (v := 3) hx hb dX4_mayClash_69 (by decide) ?_
        have hcut_37 : ∀ (y_35 : Int32), (0 ≤ y_35.toInt ∧ y_35.toInt ≤ 1) → ∀ (H : Heap) (locs : List Loc), va_P (dC, dI) vwCl (va_pl L f) H → va_S (fun q => q ∈ L) s.heap H locs → ∀ (ls : Array Slot), lv_has ls 4 [(2, .int y_33), (0, .ref o0), (1, .ref o1)] → W p l e (headSpec (wU yX4_mayClash cX4_mayClash 4 (some .boolean)) { frames := 1, cells := 0, slots := 0, locals := 20 }).room s m [.ref o0, .ref o1].toArray below meth c H locs 0 0 (MQ below (va_Qi (fun (r : Int32) (f9 : Nat → va_E) => f = f9 ∧ (0 ≤ r.toInt ∧ r.toInt ≤ 1)) (qP (dC, dI) cI cL cZ cR cG cH L) (fun q => q ∈ L)) [.ref o0, .ref o1].toArray s 0 0 (fun q => q ∈ L)) (F0 m 85 ls [.int y_35]) := by
          intro y_35 by_35 H locs hP hS ls hl
          refine lv_istore_n (lv' := [(3, .int y_35), (2, .int y_33), (0, .ref o0), (1, .ref o1)]) hx hb dX4_mayClash_85 rfl hl (by decide) rfl (fun ls hl => ?_)
          refine lv_iload_n hx hb dX4_mayClash_86 rfl (lv_at hl 1 rfl) ?_
          refine lv_if_ne (tgt := 94) hx hb dX4_mayClash_87 (by decide) (fun c_38 => ?_) (fun c_38 => ?_)
          · skip
            rw [← Int32.toInt_inj, ti_0] at c_38
            refine lv_aload_n hx hb dX4_mayClash_94 rfl (lv_at hl 2 rfl) ?_
            refine tk_getP (D := (dC, dI)) (ci := 4) (v := .int v_3) (C := RX4) (T := TX4) (N := 11) hx hb hU inlX4 hown hK hP mo0 hfo_1 rfl 1 (by decide) (hU _ wd_408) (fun _ h9 => h9) rfl dX4_mayClash_95 ?_
            refine lv_aload_n hx hb dX4_mayClash_98 rfl (lv_at hl 3 rfl) ?_
            refine tk_getP (D := (dC, dI)) (ci := 4) (v := .int v_15) (C := RX4) (T := TX4) (N := 11) hx hb hU inlX4 hown hK hP mo1 hfo_13 rfl 1 (by decide) (hU _ wd_408) (fun _ h9 => h9) rfl dX4_mayClash_99 ?_
            refine lv_icmp_ne (tgt := 109) hx hb dX4_mayClash_102 (by decide) (fun c_39 => ?_) (fun c_39 => ?_)
            · skip
              rw [← Int32.toInt_inj] at c_39
              refine lv_iconst (v := 0) hx hb dX4_mayClash_109 (by decide) ?_
              exact W.zret (v := 0) (ty := .boolean) hx hb hr rfl (fun t ht hW => ⟨⟨0, f, rfl, ⟨rfl, (by decide)⟩, by rw [ht]; exact hP, va_K.moved hW.alike hK, pl_in hD⟩, hS.F ht⟩) hS.2.2 dX4_mayClash_110
            · skip
              rw [← Int32.toInt_inj] at c_39
              refine lv_iconst (v := 1) hx hb dX4_mayClash_105 (by decide) ?_
              refine lv_goto (tgt := 110) hx hb dX4_mayClash_106 (by decide) ?_
              exact W.zret (v := 1) (ty := .boolean) hx hb hr rfl (fun t ht hW => ⟨⟨1, f, rfl, ⟨rfl, (by decide)⟩, by rw [ht]; exact hP, va_K.moved hW.alike hK, pl_in hD⟩, hS.F ht⟩) hS.2.2 dX4_mayClash_110
          · skip
            rw [← Int32.toInt_inj, ti_0] at c_38
            refine lv_iload_n hx hb dX4_mayClash_90 rfl (lv_at hl 0 rfl) ?_
            refine lv_if_eq (tgt := 109) hx hb dX4_mayClash_91 (by decide) (fun c_40 => ?_) (fun c_40 => ?_)
            · skip
              rw [← Int32.toInt_inj, ti_0] at c_40
              refine lv_iconst (v := 0) hx hb dX4_mayClash_109 (by decide) ?_
              exact W.zret (v := 0) (ty := .boolean) hx hb hr rfl (fun t ht hW => ⟨⟨0, f, rfl, ⟨rfl, (by decide)⟩, by rw [ht]; exact hP, va_K.moved hW.alike hK, pl_in hD⟩, hS.F ht⟩) hS.2.2 dX4_mayClash_110
            · skip
              rw [← Int32.toInt_inj, ti_0] at c_40
              refine lv_aload_n hx hb dX4_mayClash_94 rfl (lv_at hl 2 rfl) ?_
              refine tk_getP (D := (dC, dI)) (ci := 4) (v := .int v_3) (C := RX4) (T := TX4) (N := 11) hx hb hU inlX4 hown hK hP mo0 hfo_1 rfl 1 (by decide) (hU _ wd_408) (fun _ h9 => h9) rfl dX4_mayClash_95 ?_
              refine lv_aload_n hx hb dX4_mayClash_98 rfl (lv_at hl 3 rfl) ?_
              refine tk_getP (D := (dC, dI)) (ci := 4) (v := .int v_15) (C := RX4) (T := TX4) (N := 11) hx hb hU inlX4 hown hK hP mo1 hfo_13 rfl 1 (by decide) (hU _ wd_408) (fun _ h9 => h9) rfl dX4_mayClash_99 ?_
              refine lv_icmp_ne (tgt := 109) hx hb dX4_mayClash_102 (by decide) (fun c_41 => ?_) (fun c_41 => ?_)
              · skip
                rw [← Int32.toInt_inj] at c_41
                refine lv_iconst (v := 0) hx hb dX4_mayClash_109 (by decide) ?_
                exact W.zret (v := 0) (ty := .boolean) hx hb hr rfl (fun t ht hW => ⟨⟨0, f, rfl, ⟨rfl, (by decide)⟩, by rw [ht]; exact hP, va_K.moved hW.alike hK, pl_in hD⟩, hS.F ht⟩) hS.2.2 dX4_mayClash_110
              · skip
                rw [← Int32.toInt_inj] at c_41
                refine lv_iconst (v := 1) hx hb dX4_mayClash_105 (by decide) ?_
                refine lv_goto (tgt := 110) hx hb dX4_mayClash_106 (by decide) ?_
                exact W.zret (v := 1) (ty := .boolean) hx hb hr rfl (fun t ht hW => ⟨⟨1, f, rfl, ⟨rfl, (by decide)⟩, by rw [ht]; exact hP, va_K.moved hW.alike hK, pl_in hD⟩, hS.F ht⟩) hS.2.2 dX4_mayClash_110
        refine lv_icmp_ne (tgt := 84) hx hb dX4_mayClash_70 (by decide) (fun c_42 => ?_) (fun c_42 => ?_)
        · skip
          rw [← Int32.toInt_inj, ti_3] at c_42
          refine lv_iconst (v := 0) hx hb dX4_mayClash_84 (by decide) ?_
          exact hcut_37 0 (by decide) _ _ hP hS ls (lv_sub hl [0, 1, 2] rfl)
        · skip
          rw [← Int32.toInt_inj, ti_3] at c_42
          refine lv_aload_n hx hb dX4_mayClash_73 rfl (lv_at hl 2 rfl) ?_
          refine tk_ViP (As := []) (rest := []) (n := 0) hx hb hml hown hU hN hZ (s_X4_isAlways_k4 l (dC, dI) cI cL cZ cR cG cH Z kd L f hG o1 mo1 ko1) wd_511 wd_429 wd_430 wd_90 wd_431 (by decide +kernel) ⟨Nat.le_of_ble_eq_true rfl, Nat.le_of_ble_eq_true rfl⟩ hK hP hD hS mo1 hfo_13 4 rfl rfl rfl hl.1 rfl (Nat.le_of_ble_eq_true rfl) dX4_mayClash_74 ⟨Nat.le_of_ble_eq_true rfl, Nat.le_of_ble_eq_true rfl⟩ (fun x_43 f_44 H locs hw hP hD hS => ?_)
          obtain ⟨rfl, bx_43⟩ := hw
          refine lv_if_eq (tgt := 84) hx hb dX4_mayClash_77 (by decide) (fun c_46 => ?_) (fun c_46 => ?_)
          · skip
            rw [← Int32.toInt_inj, ti_0] at c_46
            refine lv_iconst (v := 0) hx hb dX4_mayClash_84 (by decide) ?_
            exact hcut_37 0 (by decide) _ _ hP hS ls (lv_sub hl [0, 1, 2] rfl)
          · skip
            rw [← Int32.toInt_inj, ti_0] at c_46
            refine lv_iconst (v := 1) hx hb dX4_mayClash_80 (by decide) ?_
            refine lv_goto (tgt := 85) hx hb dX4_mayClash_81 (by decide) ?_
            exact hcut_37 1 (by decide) _ _ hP hS ls (lv_sub hl [0, 1, 2] rfl)
      refine lv_if_eq (tgt := 63) hx hb dX4_mayClash_48 (by decide) (fun c_47 => ?_) (fun c_47 => ?_)
      · skip
        rw [← Int32.toInt_inj, ti_0] at c_47
        refine lv_iconst (v := 0) hx hb dX4_mayClash_63 (by decide) ?_
        exact hcut_34 0 (by decide) ls (lv_sub hl [0, 1] rfl)
      · skip
        rw [← Int32.toInt_inj, ti_0] at c_47
        refine lv_aload_n hx hb dX4_mayClash_51 rfl (lv_at hl 1 rfl) ?_
        refine tk_getP (D := (dC, dI)) (ci := 4) (v := .int v_16) (C := RX4) (T := TX4) (N := 11) hx hb hU inlX4 hown hK hP mo1 hfo_13 rfl 2 (by decide) (hU _ wd_409) (fun _ h9 => h9) rfl dX4_mayClash_52 ?_
        refine lv_iconst (v := 3) hx hb dX4_mayClash_55 (by decide) ?_
        refine lv_icmp_ne (tgt := 63) hx hb dX4_mayClash_56 (by decide) (fun c_48 => ?_) (fun c_48 => ?_)
        · skip
          rw [← Int32.toInt_inj, ti_3] at c_48
          refine lv_iconst (v := 0) hx hb dX4_mayClash_63 (by decide) ?_
          exact hcut_34 0 (by decide) ls (lv_sub hl [0, 1] rfl)
        · skip
          rw [← Int32.toInt_inj, ti_3] at c_48
          refine lv_iconst (v := 1) hx hb dX4_mayClash_59 (by decide) ?_
          refine lv_goto (tgt := 64) hx hb dX4_mayClash_60 (by decide) ?_
          exact hcut_34 1 (by decide) ls (lv_sub hl [0, 1] rfl)
    · skip
      rw [← Int32.toInt_inj, ti_0] at c_29
      refine lv_aload_n hx hb dX4_mayClash_20 rfl (lv_at hl 1 rfl) ?_
      refine tk_ViP (As := []) (rest := []) (n := 0) hx hb hml hown hU hN hZ (s_X4_isAlways_k4 l (dC, dI) cI cL cZ cR cG cH Z kd L f hG o1 mo1 ko1) wd_511 wd_429 wd_430 wd_90 wd_431 (by decide +kernel) ⟨Nat.le_of_ble_eq_true rfl, Nat.le_of_ble_eq_true rfl⟩ hK hP hD hS mo1 hfo_13 4 rfl rfl rfl hl.1 rfl (Nat.le_of_ble_eq_true rfl) dX4_mayClash_21 ⟨Nat.le_of_ble_eq_true rfl, Nat.le_of_ble_eq_true rfl⟩ (fun x_49 f_50 H locs hw hP hD hS => ?_)
      obtain ⟨rfl, bx_49⟩ := hw
      refine lv_if_eq (tgt := 44) hx hb dX4_mayClash_24 (by decide) (fun c_52 => ?_) (fun c_52 => ?_)
      · skip
        rw [← Int32.toInt_inj, ti_0] at c_52
        refine lv_aload_n hx hb dX4_mayClash_44 rfl (lv_at hl 0 rfl) ?_
        refine tk_ViP (As := []) (rest := []) (n := 0) hx hb hml hown hU hN hZ (s_X4_isAlways_k4 l (dC, dI) cI cL cZ cR cG cH Z kd L f hG o0 mo0 ko0) wd_511 wd_429 wd_430 wd_90 wd_431 (by decide +kernel) ⟨Nat.le_of_ble_eq_true rfl, Nat.le_of_ble_eq_true rfl⟩ hK hP hD hS mo0 hfo_1 4 rfl rfl rfl hl.1 rfl (Nat.le_of_ble_eq_true rfl) dX4_mayClash_45 ⟨Nat.le_of_ble_eq_true rfl, Nat.le_of_ble_eq_true rfl⟩ (fun x_53 f_54 H locs hw hP hD hS => ?_)
        obtain ⟨rfl, bx_53⟩ := hw
        have hcut_57 : ∀ (y_56 : Int32), (0 ≤ y_56.toInt ∧ y_56.toInt ≤ 1) → ∀ (ls : Array Slot), lv_has ls 4 [(0, .ref o0), (1, .ref o1)] → W p l e (headSpec (wU yX4_mayClash cX4_mayClash 4 (some .boolean)) { frames := 1, cells := 0, slots := 0, locals := 20 }).room s m [.ref o0, .ref o1].toArray below meth c H locs 0 0 (MQ below (va_Qi (fun (r : Int32) (f9 : Nat → va_E) => f = f9 ∧ (0 ≤ r.toInt ∧ r.toInt ≤ 1)) (qP (dC, dI) cI cL cZ cR cG cH L) (fun q => q ∈ L)) [.ref o0, .ref o1].toArray s 0 0 (fun q => q ∈ L)) (F0 m 64 ls [.int y_56]) := by
          intro y_56 by_56 ls hl
          refine lv_istore_n (lv' := [(2, .int y_56), (0, .ref o0), (1, .ref o1)]) hx hb dX4_mayClash_64 rfl hl (by decide) rfl (fun ls hl => ?_)
          refine lv_aload_n hx hb dX4_mayClash_65 rfl (lv_at hl 1 rfl) ?_
          refine tk_getP (D := (dC, dI)) (ci := 4) (v := .int v_4) (C := RX4) (T := TX4) (N := 11) hx hb hU inlX4 hown hK hP mo0 hfo_1 rfl 2 (by decide) (hU _ wd_409) (fun _ h9 => h9) rfl dX4_mayClash_66 ?_
          refine lv_iconst (v := 3) hx hb dX4_mayClash_69 (by decide) ?_
          have hcut_60 : ∀ (y_58 : Int32), (0 ≤ y_58.toInt ∧ y_58.toInt ≤ 1) → ∀ (H : Heap) (locs : List Loc), va_P (dC, dI) vwCl (va_pl L f) H → va_S (fun q => q ∈ L) s.heap H locs → ∀ (ls : Array Slot), lv_has ls 4 [(2, .int y_56), (0, .ref o0), (1, .ref o1)] → W p l e (headSpec (wU yX4_mayClash cX4_mayClash 4 (some .boolean)) { frames := 1, cells := 0, slots := 0, locals := 20 }).room s m [.ref o0, .ref o1].toArray below meth c H locs 0 0 (MQ below (va_Qi (fun (r : Int32) (f9 : Nat → va_E) => f = f9 ∧ (0 ≤ r.toInt ∧ r.toInt ≤ 1)) (qP (dC, dI) cI cL cZ cR cG cH L) (fun q => q ∈ L)) [.ref o0, .ref o1].toArray s 0 0 (fun q => q ∈ L)) (F0 m 85 ls [.int y_58]) := by
            intro y_58 by_58 H locs hP hS ls hl
            refine lv_istore_n (lv' := [(3, .int y_58), (2, .int y_56), (0, .ref o0), (1, .ref o1)]) hx hb dX4_mayClash_85 rfl hl (by decide) rfl (fun ls hl => ?_)
            refine lv_iload_n hx hb dX4_mayClash_86 rfl (lv_at hl 1 rfl) ?_
            refine lv_if_ne (tgt := 94) hx hb dX4_mayClash_87 (by decide) (fun c_61 => ?_) (fun c_61 => ?_)
            · skip
              rw [← Int32.toInt_inj, ti_0] at c_61
              refine lv_aload_n hx hb dX4_mayClash_94 rfl (lv_at hl 2 rfl) ?_
              refine tk_getP (D := (dC, dI)) (ci := 4) (v := .int v_3) (C := RX4) (T := TX4) (N := 11) hx hb hU inlX4 hown hK hP mo0 hfo_1 rfl 1 (by decide) (hU _ wd_408) (fun _ h9 => h9) rfl dX4_mayClash_95 ?_
              refine lv_aload_n hx hb dX4_mayClash_98 rfl (lv_at hl 3 rfl) ?_
              refine tk_getP (D := (dC, dI)) (ci := 4) (v := .int v_15) (C := RX4) (T := TX4) (N := 11) hx hb hU inlX4 hown hK hP mo1 hfo_13 rfl 1 (by decide) (hU _ wd_408) (fun _ h9 => h9) rfl dX4_mayClash_99 ?_
              refine lv_icmp_ne (tgt := 109) hx hb dX4_mayClash_102 (by decide) (fun c_62 => ?_) (fun c_62 => ?_)
              · skip
                rw [← Int32.toInt_inj] at c_62
                refine lv_iconst (v := 0) hx hb dX4_mayClash_109 (by decide) ?_
                exact W.zret (v := 0) (ty := .boolean) hx hb hr rfl (fun t ht hW => ⟨⟨0, f, rfl, ⟨rfl, (by decide)⟩, by rw [ht]; exact hP, va_K.moved hW.alike hK, pl_in hD⟩, hS.F ht⟩) hS.2.2 dX4_mayClash_110
              · skip
                rw [← Int32.toInt_inj] at c_62
                refine lv_iconst (v := 1) hx hb dX4_mayClash_105 (by decide) ?_
                refine lv_goto (tgt := 110) hx hb dX4_mayClash_106 (by decide) ?_
                exact W.zret (v := 1) (ty := .boolean) hx hb hr rfl (fun t ht hW => ⟨⟨1, f, rfl, ⟨rfl, (by decide)⟩, by rw [ht]; exact hP, va_K.moved hW.alike hK, pl_in hD⟩, hS.F ht⟩) hS.2.2 dX4_mayClash_110
            · skip
              rw [← Int32.toInt_inj, ti_0] at c_61
              refine lv_iload_n hx hb dX4_mayClash_90 rfl (lv_at hl 0 rfl) ?_
              refine lv_if_eq (tgt := 109) hx hb dX4_mayClash_91 (by decide) (fun c_63 => ?_) (fun c_63 => ?_)
              · skip
                rw [← Int32.toInt_inj, ti_0] at c_63
                refine lv_iconst (v := 0) hx hb dX4_mayClash_109 (by decide) ?_
                exact W.zret (v := 0) (ty := .boolean) hx hb hr rfl (fun t ht hW => ⟨⟨0, f, rfl, ⟨rfl, (by decide)⟩, by rw [ht]; exact hP, va_K.moved hW.alike hK, pl_in hD⟩, hS.F ht⟩) hS.2.2 dX4_mayClash_110
              · skip
                rw [← Int32.toInt_inj, ti_0] at c_63
                refine lv_aload_n hx hb dX4_mayClash_94 rfl (lv_at hl 2 rfl) ?_
                refine tk_getP (D := (dC, dI)) (ci := 4) (v := .int v_3) (C := RX4) (T := TX4) (N := 11) hx hb hU inlX4 hown hK hP mo0 hfo_1 rfl 1 (by decide) (hU _ wd_408) (fun _ h9 => h9) rfl dX4_mayClash_95 ?_
                refine lv_aload_n hx hb dX4_mayClash_98 rfl (lv_at hl 3 rfl) ?_
                refine tk_getP (D := (dC, dI)) (ci := 4) (v := .int v_15) (C := RX4) (T := TX4) (N := 11) hx hb hU inlX4 hown hK hP mo1 hfo_13 rfl 1 (by decide) (hU _ wd_408) (fun _ h9 => h9) rfl dX4_mayClash_99 ?_
                refine lv_icmp_ne (tgt := 109) hx hb dX4_mayClash_102 (by decide) (fun c_64 => ?_) (fun c_64 => ?_)
                · skip
                  rw [← Int32.toInt_inj] at c_64
                  refine lv_iconst (v := 0) hx hb dX4_mayClash_109 (by decide) ?_
                  exact W.zret (v := 0) (ty := .boolean) hx hb hr rfl (fun t ht hW => ⟨⟨0, f, rfl, ⟨rfl, (by decide)⟩, by rw [ht]; exact hP, va_K.moved hW.alike hK, pl_in hD⟩, hS.F ht⟩) hS.2.2 dX4_mayClash_110
                · skip
                  rw [← Int32.toInt_inj] at c_64
                  refine lv_iconst (v := 1) hx hb dX4_mayClash_105 (by decide) ?_
                  refine lv_goto (tgt := 110) hx hb dX4_mayClash_106 (by decide) ?_
                  exact W.zret (v := 1) (ty := .boolean) hx hb hr rfl (fun t ht hW => ⟨⟨1, f, rfl, ⟨rfl, (by decide)⟩, by rw [ht]; exact hP, va_K.moved hW.alike hK, pl_in hD⟩, hS.F ht⟩) hS.2.2 dX4_mayClash_110
          refine lv_icmp_ne (tgt := 84) hx hb dX4_mayClash_70 (by decide) (fun c_65 => ?_) (fun c_65 => ?_)
          · skip
            rw [← Int32.toInt_inj, ti_3] at c_65
            refine lv_iconst (v := 0) hx hb dX4_mayClash_84 (by decide) ?_
            exact hcut_60 0 (by decide) _ _ hP hS ls (lv_sub hl [0, 1, 2] rfl)
          · skip
            rw [← Int32.toInt_inj, ti_3] at c_65
            refine lv_aload_n hx hb dX4_mayClash_73 rfl (lv_at hl 2 rfl) ?_
            refine tk_ViP (As := []) (rest := []) (n := 0) hx hb hml hown hU hN hZ (s_X4_isAlways_k4 l (dC, dI) cI cL cZ cR cG cH Z kd L f hG o1 mo1 ko1) wd_511 wd_429 wd_430 wd_90 wd_431 (by decide +kernel) ⟨Nat.le_of_ble_eq_true rfl, Nat.le_of_ble_eq_true rfl⟩ hK hP hD hS mo1 hfo_13 4 rfl rfl rfl hl.1 rfl (Nat.le_of_ble_eq_true rfl) dX4_mayClash_74 ⟨Nat.le_of_ble_eq_true rfl, Nat.le_of_ble_eq_true rfl⟩ (fun x_66 f_67 H locs hw hP hD hS => ?_)
            obtain ⟨rfl, bx_66⟩ := hw
            refine lv_if_eq (tgt := 84) hx hb dX4_mayClash_77 (by decide) (fun c_69 => ?_) (fun c_69 => ?_)
            · skip
              rw [← Int32.toInt_inj, ti_0] at c_69
              refine lv_iconst (v := 0) hx hb dX4_mayClash_84 (by decide) ?_
              exact hcut_60 0 (by decide) _ _ hP hS ls (lv_sub hl [0, 1, 2] rfl)
            · skip
              rw [← Int32.toInt_inj, ti_0] at c_69
              refine lv_iconst (v := 1) hx hb dX4_mayClash_80 (by decide) ?_
              refine lv_goto (tgt := 85) hx hb dX4_mayClash_81 (by decide) ?_
              exact hcut_60 1 (by decide) _ _ hP hS ls (lv_sub hl [0, 1, 2] rfl)
        refine lv_if_eq (tgt := 63) hx hb dX4_mayClash_48 (by decide) (fun c_70 => ?_) (fun c_70 => ?_)
        · skip
          rw [← Int32.toInt_inj, ti_0] at c_70
          refine lv_iconst (v := 0) hx hb dX4_mayClash_63 (by decide) ?_
          exact hcut_57 0 (by decide) ls (lv_sub hl [0, 1] rfl)
        · skip
          rw [← Int32.toInt_inj, ti_0] at c_70
          refine lv_aload_n hx hb dX4_mayClash_51 rfl (lv_at hl 1 rfl) ?_
          refine tk_getP (D := (dC, dI)) (ci := 4) (v := .int v_16) (C := RX4) (T := TX4) (N := 11) hx hb hU inlX4 hown hK hP mo1 hfo_13 rfl 2 (by decide) (hU _ wd_409) (fun _ h9 => h9) rfl dX4_mayClash_52 ?_
          refine lv_iconst (v := 3) hx hb dX4_mayClash_55 (by decide) ?_
          refine lv_icmp_ne (tgt := 63) hx hb dX4_mayClash_56 (by decide) (fun c_71 => ?_) (fun c_71 => ?_)
          · skip
            rw [← Int32.toInt_inj, ti_3] at c_71
            refine lv_iconst (v := 0) hx hb dX4_mayClash_63 (by decide) ?_
            exact hcut_57 0 (by decide) ls (lv_sub hl [0, 1] rfl)
          · skip
            rw [← Int32.toInt_inj, ti_3] at c_71
            refine lv_iconst (v := 1) hx hb dX4_mayClash_59 (by decide) ?_
            refine lv_goto (tgt := 64) hx hb dX4_mayClash_60 (by decide) ?_
            exact hcut_57 1 (by decide) ls (lv_sub hl [0, 1] rfl)
      · skip
        rw [← Int32.toInt_inj, ti_0] at c_52
        refine lv_aload_n hx hb dX4_mayClash_27 rfl (lv_at hl 0 rfl) ?_
        refine tk_getP (D := (dC, dI)) (ci := 4) (v := .int v_3) (C := RX4) (T := TX4) (N := 11) hx hb hU inlX4 hown hK hP mo0 hfo_1 rfl 1 (by decide) (hU _ wd_408) (fun _ h9 => h9) rfl dX4_mayClash_28 ?_
        refine lv_aload_n hx hb dX4_mayClash_31 rfl (lv_at hl 1 rfl) ?_
        refine tk_getP (D := (dC, dI)) (ci := 4) (v := .int v_15) (C := RX4) (T := TX4) (N := 11) hx hb hU inlX4 hown hK hP mo1 hfo_13 rfl 1 (by decide) (hU _ wd_408) (fun _ h9 => h9) rfl dX4_mayClash_32 ?_
        refine lv_icmp_eq (tgt := 42) hx hb dX4_mayClash_35 (by decide) (fun c_72 => ?_) (fun c_72 => ?_)
        · skip
          rw [← Int32.toInt_inj] at c_72
          refine lv_iconst (v := 0) hx hb dX4_mayClash_42 (by decide) ?_
          exact W.zret (v := 0) (ty := .boolean) hx hb hr rfl (fun t ht hW => ⟨⟨0, f, rfl, ⟨rfl, (by decide)⟩, by rw [ht]; exact hP, va_K.moved hW.alike hK, pl_in hD⟩, hS.F ht⟩) hS.2.2 dX4_mayClash_43
        · skip
          rw [← Int32.toInt_inj] at c_72
          refine lv_iconst (v := 1) hx hb dX4_mayClash_38 (by decide) ?_
          refine lv_goto (tgt := 43) hx hb dX4_mayClash_39 (by decide) ?_
          exact W.zret (v := 1) (ty := .boolean) hx hb hr rfl (fun t ht hW => ⟨⟨1, f, rfl, ⟨rfl, (by decide)⟩, by rw [ht]; exact hP, va_K.moved hW.alike hK, pl_in hD⟩, hS.F ht⟩) hS.2.2 dX4_mayClash_43
  · skip
    rw [← Int32.toInt_inj] at c_25
    refine lv_iconst (v := 0) hx hb dX4_mayClash_11 (by decide) ?_
    exact W.zret (v := 0) (ty := .boolean) hx hb hr rfl (fun t ht hW => ⟨⟨0, f, rfl, ⟨rfl, (by decide)⟩, by rw [ht]; exact hP, va_K.moved hW.alike hK, pl_in hD⟩, hS.F ht⟩) hS.2.2 dX4_mayClash_12
set_option maxHeartbeats 8000000 in
set_option maxRecDepth 100000 in
theorem s_X7_compile_k207 (l : Launch) (D : va_G) (cI cL cZ cR cG cH : ClassId) (Z : zT) (kd : Nat → Nat) (L : List Nat) (f : Nat → va_E) (hG : GI (okc cI cL cZ cR cG cH L kd) kd L f) (o0 : Nat) (mo0 : o0 ∈ L) (ko0 : kd o0 = 207) : mPV l D cI cL cZ cR cG cH Z yX7_compile cX7_compile 2 none 4 88 [.ref o0] L f (fun (f9 : Nat → va_E) => GI (okc cI cL cZ cR cG cH L kd) kd L f9 ∧ (∀ b, kd b ≠ 204 → kd b ≠ 559 → kd b ≠ 560 → kd b ≠ 561 → f9 b = f b) ∧ (∀ b, kd b = 204 → fldI (f9 b) 1 = fldI (f b) 1) ∧ (∀ b, kd b = 204 → fldI (f9 b) 3 = fldI (f b) 3)) := by
  obtain ⟨dC, dI⟩ := D
  refine Met.ofW (cc := cX7_compile) (maxL := 2) (ret := none) (by decide) rfl ?_
  intro p e s m args below meth c s₁ B hml hv
  obtain ⟨rfl, hP, hK, hD0, hN, hZ⟩ := hv
  have hx := B.exec
  have hb := B.bytes
  have hr := B.returns
  have hU : ∀ w ∈ wsU, w.before _ s = true := fun w h => atoms_spec (ws := wU yX7_compile cX7_compile 2 none) B.pre w (List.mem_cons_of_mem _ h)
  have hown : s.vm.findClass RX7 = some m.cls := findClass_of_methodNamed B.named
  have hlocks := B.notSynchronized
  have hD := pl_in hD0
  have hS : va_S (fun q => q ∈ L) s.heap s.heap [] := va_S.rf
  have hl := lv_entry ([.ref o0]) (n := 2) (Nat.le_of_ble_eq_true rfl)
  rw [lg_entry_eq]
  generalize (lg_sl ([.ref o0]) ++ List.replicate (2 - (lg_sl ([.ref o0])).length) Slot.unset).toArray = ls at hl ⊢
  have hl : lv_has ls 2 [(0, .ref o0)] := hl
  have hfr0 : ∀ b, kd b ≠ 204 → kd b ≠ 559 → kd b ≠ 560 → kd b ≠ 561 → f b = f b := fun _ _ _ _ _ => rfl
  have hfr204_1 : ∀ b, kd b = 204 → fldI (f b) 1 = fldI (f b) 1 := fun _ _ => rfl
  have hfr204_3 : ∀ b, kd b = 204 → fldI (f b) 3 = fldI (f b) 3 := fun _ _ => rfl
  refine lv_iconst (v := 0) hx hb dX7_compile_0 (by decide) ?_
  refine lv_istore_n (lv' := [(1, .int 0), (0, .ref o0)]) hx hb dX7_compile_1 rfl hl (by decide) rfl (fun ls hl => ?_)
  have hloop_13 : ∀ (n : Nat), ∀ (y_14 : Int32), (0 ≤ y_14.toInt ∧ y_14.toInt ≤ 8) → ∀ (f_16 : Nat → va_E), GI (okc cI cL cZ cR cG cH L kd) kd L f_16 → ∀ (H : Heap) (locs : List Loc), va_P (dC, dI) vwCl (va_pl L f_16) H → va_S (fun q => q ∈ L) s.heap H locs → va_D (fun q => q ∈ L) (va_pl L f_16) → (∀ b, kd b ≠ 204 → kd b ≠ 559 → kd b ≠ 560 → kd b ≠ 561 → f_16 b = f b) → (∀ b, kd b = 204 → fldI (f_16 b) 1 = fldI (f b) 1) → (∀ b, kd b = 204 → fldI (f_16 b) 3 = fldI (f b) 3) → 8 - y_14.toInt < (n : Int) → ∀ (ls : Array Slot), lv_has ls 2 [(1, .int y_14), (0, .ref o0)] → W p l e (headSpec (wU yX7_compile cX7_compile 2 none) { frames := 4, cells := 0, slots := 0, locals := 88 }).room s m [.ref o0].toArray below meth c H locs 0 0 (MQ below (va_Qv (fun (f9 : Nat → va_E) => GI (okc cI cL cZ cR cG cH L kd) kd L f9 ∧ (∀ b, kd b ≠ 204 → kd b ≠ 559 → kd b ≠ 560 → kd b ≠ 561 → f9 b = f b) ∧ (∀ b, kd b = 204 → fldI (f9 b) 1 = fldI (f b) 1) ∧ (∀ b, kd b = 204 → fldI (f9 b) 3 = fldI (f b) 3)) (qP (dC, dI) cI cL cZ cR cG cH L) (fun q => q ∈ L)) [.ref o0].toArray s 0 0 (fun q => q ∈ L)) (F0 m 2 ls []) := by
    intro n
    induction n with
    | zero => intro y_14 by_14 f_16 hG H locs hP hS hD hfr0 hfr204_1 hfr204_3 hmuhloop_13 ls hl; exfalso; omega
    | succ n ih_hloop_13 =>
      intro y_14 by_14 f_16 hG H locs hP hS hD hfr0 hfr204_1 hfr204_3 hmuhloop_13 ls hl
      refine lv_iload_n hx hb dX7_compile_2 rfl (lv_at hl 0 rfl) ?_
      refine lv_aload_n hx hb dX7_compile_3 rfl (lv_at hl 1 rfl) ?_
      obtain ⟨a_18, v_19, a_20, a_21, a_22, a_23, v_24, a_25, a_26, a_27, a_28, a_29, v_30, a_31, a_32, a_33, hfo_17, ⟨ma_18, ka_18⟩, bv_19, ⟨ma_20, ka_20⟩, ⟨ma_21, ka_21⟩, ⟨ma_22, ka_22⟩, ⟨ma_23, ka_23⟩, bv_24, ⟨ma_25, ka_25⟩, ⟨ma_26, ka_26⟩, ⟨ma_27, ka_27⟩, ⟨ma_28, ka_28⟩, ⟨ma_29, ka_29⟩, bv_30, ⟨ma_31, ka_31⟩, ⟨ma_32, ka_32⟩, ⟨ma_33, ka_33⟩⟩ := un_207 (hG _ mo0) ko0
      refine tk_getP (D := (dC, dI)) (ci := 7) (v := .int v_30) (C := RX7) (T := TX7) (N := 16) hx hb hU inlX7 hown hK hP mo0 hfo_17 rfl 12 (by decide) (hU _ wd_264) (fun _ h9 => h9) rfl dX7_compile_4 ?_
      refine lv_icmp_ge (tgt := 26) hx hb dX7_compile_7 (by decide) (fun c_34 => ?_) (fun c_34 => ?_)
      · skip
        rw [Int32.le_iff_toInt_le] at c_34
        exact W.vret hx hb hr (fun t ht hW => ⟨⟨f_16, rfl, ⟨hG, hfr0, hfr204_1, hfr204_3⟩, by rw [ht]; exact hP, va_K.moved hW.alike hK, pl_in hD⟩, hS.F ht⟩) hS.2.2 dX7_compile_26
      · skip
        rw [Int32.le_iff_toInt_le] at c_34
        refine lv_aload_n hx hb dX7_compile_10 rfl (lv_at hl 1 rfl) ?_
        refine tk_getP (D := (dC, dI)) (ci := 7) (v := .ref a_29) (C := RX7) (T := TX7) (N := 16) hx hb hU inlX7 hown hK hP mo0 hfo_17 rfl 11 (by decide) (hU _ wd_82) (fun _ h9 => h9) rfl dX7_compile_11 ?_
        refine lv_iload_n hx hb dX7_compile_14 rfl (lv_at hl 0 rfl) ?_
        obtain ⟨g_36, hfo_35, hbg_36⟩ := un_573 (hG _ ma_29) ka_29
        obtain ⟨a_37, hga_37, ma_37, ka_37⟩ := hbg_36 (Int32.toNatClampNeg y_14) (in_lt (vp_in_iff.mpr (by constructor <;> omega)))
        refine tk_aldP hx hb hK hP 3 ma_29 hfo_35 rfl (vp_in_iff.mpr (by constructor <;> omega)) hga_37 dX7_compile_15 ?_
        refine lv_aload_n hx hb dX7_compile_16 rfl (lv_at hl 1 rfl) ?_
        obtain ⟨v_39, v_40, v_41, v_42, a_43, a_44, a_45, a_46, v_47, v_48, v_49, hfo_38, bv_39, bv_40, bv_41, bv_42, ⟨ma_43, ka_43⟩, ⟨ma_44, ka_44⟩, ⟨ma_45, ka_45⟩, ⟨ma_46, ka_46⟩⟩ := un_204 (hG _ ma_37) ka_37
        have bv_47 : ((-2147483648) ≤ v_47.toInt ∧ v_47.toInt ≤ 2147483647) := ⟨i32_lo _, i32_hi _⟩
        have bv_48 : ((-2147483648) ≤ v_48.toInt ∧ v_48.toInt ≤ 2147483647) := ⟨i32_lo _, i32_hi _⟩
        have bv_49 : ((-2147483648) ≤ v_49.toInt ∧ v_49.toInt ≤ 2147483647) := ⟨i32_lo _, i32_hi _⟩
        refine tk_VvP (As := [.ref o0]) (rest := []) (n := 1) hx hb hml hown hU hN hZ (s_X4_compile_k204_k207 l (dC, dI) cI cL cZ cR cG cH Z kd L f_16 hG a_37 ma_37 ka_37 o0 mo0 ko0) wd_485 wd_486 wd_487 wd_90 wd_488 (by decide +kernel) ⟨Nat.le_of_ble_eq_true rfl, Nat.le_of_ble_eq_true rfl⟩ hK hP hD hS ma_37 hfo_38 4 rfl rfl rfl hl.1 rfl (Nat.le_of_ble_eq_true rfl) dX7_compile_17 ⟨Nat.le_of_ble_eq_true rfl, Nat.le_of_ble_eq_true rfl⟩ (fun f_51 H locs hw hP hD hS => ?_)
        obtain ⟨hG, hkc_52, hfc_53, hfc_54⟩ := hw
        have hfo_56 : f_51 o0 = .inr (7, [.ref a_18, .int v_19, .ref a_20, .ref a_21, .ref a_22, .ref a_23, .int v_24, .ref a_25, .ref a_26, .ref a_27, .ref a_28, .ref a_29, .int v_30, .ref a_31, .ref a_32, .ref a_33]) := by rw [hkc_52 o0 (by rw [ko0]; decide) (by rw [ko0]; decide) (by rw [ko0]; decide) (by rw [ko0]; decide)]; exact hfo_17
        have hfo_57 : f_51 a_29 = .inl (cR, 8, .inr (.inr (.inr (.inr g_36)))) := by rw [hkc_52 a_29 (by rw [ka_29]; decide) (by rw [ka_29]; decide) (by rw [ka_29]; decide) (by rw [ka_29]; decide)]; exact hfo_35
        have hfr0 : ∀ b, kd b ≠ 204 → kd b ≠ 559 → kd b ≠ 560 → kd b ≠ 561 → f_51 b = f b := fun b q204 q559 q560 q561 => (hkc_52 b q204 q559 q560 q561).trans (hfr0 b q204 q559 q560 q561)
        have hfr204_1 : ∀ b, kd b = 204 → fldI (f_51 b) 1 = fldI (f b) 1 := fun b kb => (hfc_53 b kb).trans (hfr204_1 b kb)
        have hfr204_3 : ∀ b, kd b = 204 → fldI (f_51 b) 3 = fldI (f b) 3 := fun b kb => (hfc_54 b kb).trans (hfr204_3 b kb)
        obtain ⟨v_59, v_60, v_61, v_62, a_63, a_64, a_65, a_66, v_67, v_68, v_69, hfo_58, bv_59, bv_60, bv_61, bv_62, ⟨ma_63, ka_63⟩, ⟨ma_64, ka_64⟩, ⟨ma_65, ka_65⟩, ⟨ma_66, ka_66⟩⟩ := un_204 (hG _ ma_37) ka_37
        have bv_67 : ((-2147483648) ≤ v_67.toInt ∧ v_67.toInt ≤ 2147483647) := ⟨i32_lo _, i32_hi _⟩
        have bv_68 : ((-2147483648) ≤ v_68.toInt ∧ v_68.toInt ≤ 2147483647) := ⟨i32_lo _, i32_hi _⟩
        have bv_69 : ((-2147483648) ≤ v_69.toInt ∧ v_69.toInt ≤ 2147483647) := ⟨i32_lo _, i32_hi _⟩
        obtain rfl : v_40 = v_60 := by have hk9 := hfc_53 a_37 ka_37; rw [hfo_58, hfo_38] at hk9; exact (Option.some.inj hk9).symm
        obtain rfl : v_42 = v_62 := by have hk9 := hfc_54 a_37 ka_37; rw [hfo_58, hfo_38] at hk9; exact (Option.some.inj hk9).symm
        obtain ⟨x_70, ex_70⟩ : ∃ y : Int32, y_14 + 1 = y := ⟨_, rfl⟩
        have hx_70 : x_70.toInt = y_14.toInt + 1 := by rw [← ex_70, ad_I (by rw [ti_1]; omega) (by rw [ti_1]; omega), ti_1]
        have bx_70 : (1 ≤ x_70.toInt ∧ x_70.toInt ≤ 8) := by constructor <;> omega
        refine lv_iinc (v := x_70) (lv' := [(1, .int x_70), (0, .ref o0)]) hx hb dX7_compile_20 hl (k := 0) rfl ex_70 (by decide) rfl (fun ls hl => ?_)
        refine lv_goto (tgt := 2) hx hb dX7_compile_23 (by decide) ?_
        exact ih_hloop_13 x_70 (by constructor <;> omega) f_51 hG _ _ hP hS hD hfr0 hfr204_1 hfr204_3 (by omega) ls (lv_sub hl [0, 1] rfl)
  exact hloop_13 9 0 (by decide) f hG _ _ hP hS hD hfr0 hfr204_1 hfr204_3 (by (try rw [ti_0]) <;> omega) ls hl
set_option maxHeartbeats 8000000 in
set_option maxRecDepth 100000 in
theorem s_X7_clear_k207 (l : Launch) (D : va_G) (cI cL cZ cR cG cH : ClassId) (Z : zT) (kd : Nat → Nat) (L : List Nat) (f : Nat → va_E) (hG : GI (okc cI cL cZ cR cG cH L kd) kd L f) (o0 : Nat) (mo0 : o0 ∈ L) (ko0 : kd o0 = 207) : mPV l D cI cL cZ cR cG cH Z yX7_clear cX7_clear 1 none 1 23 [.ref o0] L f (fun (f9 : Nat → va_E) => GI (okc cI cL cZ cR cG cH L kd) kd L f9 ∧ (∀ b, kd b ≠ 207 → kd b ≠ 209 → kd b ≠ 213 → kd b ≠ 566 → kd b ≠ 567 → kd b ≠ 568 → kd b ≠ 570 → kd b ≠ 571 → kd b ≠ 572 → f9 b = f b) ∧ (∀ b, kd b = 207 → fldR (f9 b) 0 = fldR (f b) 0) ∧ (∀ b, kd b = 207 → fldR (f9 b) 3 = fldR (f b) 3) ∧ (∀ b, kd b = 207 → fldR (f9 b) 11 = fldR (f b) 11)) := by
  obtain ⟨dC, dI⟩ := D
  refine Met.ofW (cc := cX7_clear) (maxL := 1) (ret := none) (by decide) rfl ?_
  intro p e s m args below meth c s₁ B hml hv
  obtain ⟨rfl, hP, hK, hD0, hN, hZ⟩ := hv
  have hx := B.exec
  have hb := B.bytes
  have hr := B.returns
  have hU : ∀ w ∈ wsU, w.before _ s = true := fun w h => atoms_spec (ws := wU yX7_clear cX7_clear 1 none) B.pre w (List.mem_cons_of_mem _ h)
  have hown : s.vm.findClass RX7 = some m.cls := findClass_of_methodNamed B.named
  have hlocks := B.notSynchronized
  have hD := pl_in hD0
  have hS : va_S (fun q => q ∈ L) s.heap s.heap [] := va_S.rf
  have hl := lv_entry ([.ref o0]) (n := 1) (Nat.le_of_ble_eq_true rfl)
  rw [lg_entry_eq]
  generalize (lg_sl ([.ref o0]) ++ List.replicate (1 - (lg_sl ([.ref o0])).length) Slot.unset).toArray = ls at hl ⊢
  have hl : lv_has ls 1 [(0, .ref o0)] := hl
  have hfr0 : ∀ b, kd b ≠ 207 → kd b ≠ 209 → kd b ≠ 213 → kd b ≠ 566 → kd b ≠ 567 → kd b ≠ 568 → kd b ≠ 570 → kd b ≠ 571 → kd b ≠ 572 → f b = f b := fun _ _ _ _ _ _ _ _ _ _ => rfl
  have hrr207_0 : ∀ b, kd b = 207 → fldR (f b) 0 = fldR (f b) 0 := fun _ _ => rfl
  have hrr207_3 : ∀ b, kd b = 207 → fldR (f b) 3 = fldR (f b) 3 := fun _ _ => rfl
  have hrr207_11 : ∀ b, kd b = 207 → fldR (f b) 11 = fldR (f b) 11 := fun _ _ => rfl
  refine lv_aload_n hx hb dX7_clear_0 rfl (lv_at hl 0 rfl) ?_
  obtain ⟨a_2, v_3, a_4, a_5, a_6, a_7, v_8, a_9, a_10, a_11, a_12, a_13, v_14, a_15, a_16, a_17, hfo_1, ⟨ma_2, ka_2⟩, bv_3, ⟨ma_4, ka_4⟩, ⟨ma_5, ka_5⟩, ⟨ma_6, ka_6⟩, ⟨ma_7, ka_7⟩, bv_8, ⟨ma_9, ka_9⟩, ⟨ma_10, ka_10⟩, ⟨ma_11, ka_11⟩, ⟨ma_12, ka_12⟩, ⟨ma_13, ka_13⟩, bv_14, ⟨ma_15, ka_15⟩, ⟨ma_16, ka_16⟩, ⟨ma_17, ka_17⟩⟩ := un_207 (hG _ mo0) ko0
  refine tk_getP (D := (dC, dI)) (ci := 7) (v := .ref a_2) (C := RX7) (T := TX7) (N := 16) hx hb hU inlX7 hown hK hP mo0 hfo_1 rfl 0 (by decide) (hU _ wd_72) (fun _ h9 => h9) rfl dX7_clear_1 ?_
  refine lv_iconst (v := 0) hx hb dX7_clear_4 (by decide) ?_
  refine tk_SvP (As := [.ref a_2, .int 0]) (rest := []) (n := 2) hx hb hml hown hU hN hZ (s_J7_fill_53178_a566 l (dC, dI) cI cL cZ cR cG cH Z kd L f hG a_2 ma_2 ka_2 0 (by decide)) wd_265 wd_266 wd_267 wd_268 (by decide +kernel) ⟨Nat.le_of_ble_eq_true rfl, Nat.le_of_ble_eq_true rfl⟩ hK hP hD hS rfl hl.1 rfl (Nat.le_of_ble_eq_true rfl) dX7_clear_5 ⟨Nat.le_of_ble_eq_true rfl, Nat.le_of_ble_eq_true rfl⟩ (fun f_19 H locs hw hP hD hS => ?_)
  obtain ⟨hG, hkc_20⟩ := hw
  have hfo_22 : f_19 o0 = .inr (7, [.ref a_2, .int v_3, .ref a_4, .ref a_5, .ref a_6, .ref a_7, .int v_8, .ref a_9, .ref a_10, .ref a_11, .ref a_12, .ref a_13, .int v_14, .ref a_15, .ref a_16, .ref a_17]) := by rw [hkc_20 o0 (by rw [ko0]; decide)]; exact hfo_1
  have hfr0 : ∀ b, kd b ≠ 207 → kd b ≠ 209 → kd b ≠ 213 → kd b ≠ 566 → kd b ≠ 567 → kd b ≠ 568 → kd b ≠ 570 → kd b ≠ 571 → kd b ≠ 572 → f_19 b = f b := fun b q207 q209 q213 q566 q567 q568 q570 q571 q572 => (hkc_20 b q566).trans (hfr0 b q207 q209 q213 q566 q567 q568 q570 q571 q572)
  have hrr207_0 : ∀ b, kd b = 207 → fldR (f_19 b) 0 = fldR (f b) 0 := fun b kb => (congrArg (fun x => fldR x 0) (hkc_20 b (by rw [kb]; decide))).trans (hrr207_0 b kb)
  have hrr207_3 : ∀ b, kd b = 207 → fldR (f_19 b) 3 = fldR (f b) 3 := fun b kb => (congrArg (fun x => fldR x 3) (hkc_20 b (by rw [kb]; decide))).trans (hrr207_3 b kb)
  have hrr207_11 : ∀ b, kd b = 207 → fldR (f_19 b) 11 = fldR (f b) 11 := fun b kb => (congrArg (fun x => fldR x 11) (hkc_20 b (by rw [kb]; decide))).trans (hrr207_11 b kb)
  refine lv_aload_n hx hb dX7_clear_8 rfl (lv_at hl 0 rfl) ?_
  refine lv_iconst (v := 0) hx hb dX7_clear_9 (by decide) ?_
  refine tk_putP (D := (dC, dI)) (ci := 7) (v := .int 0) (ty := .int) (C := RX7) (T := TX7) (N := 16) hx hb hU inlX7 tyX7 tyX7_ok nmX7 hown hK hP hD hS mo0 hfo_22 rfl 1 (by decide) (hU _ wd_262) (fun _ h9 => h9) rfl (by decide +kernel) rfl rfl (Nat.le_of_ble_eq_true rfl) dX7_clear_10 (fun H locs hP hD hS => ?_)
  obtain ⟨f_24, ef_24⟩ : ∃ y : Nat → va_E, y = va_up f_19 o0 (.inr (7, [.ref a_2, .int 0, .ref a_4, .ref a_5, .ref a_6, .ref a_7, .int v_8, .ref a_9, .ref a_10, .ref a_11, .ref a_12, .ref a_13, .int v_14, .ref a_15, .ref a_16, .ref a_17])) := ⟨_, rfl⟩
  have hP : va_P (dC, dI) vwCl (va_pl L f_24) H := by rw [ef_24]; exact hP
  have hD : va_D (fun q => q ∈ L) (va_pl L f_24) := by rw [ef_24]; exact hD
  have hG : GI (okc cI cL cZ cR cG cH L kd) kd L f_24 := by rw [ef_24]; exact hG.set o0 (mk_207 ko0 ⟨a_2, 0, a_4, a_5, a_6, a_7, v_8, a_9, a_10, a_11, a_12, a_13, v_14, a_15, a_16, a_17, rfl, ⟨ma_2, ka_2⟩, (by decide), ⟨ma_4, ka_4⟩, ⟨ma_5, ka_5⟩, ⟨ma_6, ka_6⟩, ⟨ma_7, ka_7⟩, (by constructor <;> omega), ⟨ma_9, ka_9⟩, ⟨ma_10, ka_10⟩, ⟨ma_11, ka_11⟩, ⟨ma_12, ka_12⟩, ⟨ma_13, ka_13⟩, (by constructor <;> omega), ⟨ma_15, ka_15⟩, ⟨ma_16, ka_16⟩, ⟨ma_17, ka_17⟩⟩)
  have hfr0 : ∀ b, kd b ≠ 207 → kd b ≠ 209 → kd b ≠ 213 → kd b ≠ 566 → kd b ≠ 567 → kd b ≠ 568 → kd b ≠ 570 → kd b ≠ 571 → kd b ≠ 572 → f_24 b = f b := fun b q207 q209 q213 q566 q567 q568 q570 q571 q572 => (congrFun ef_24 b).trans ((up_ne (fun e9 => q207 (by rw [e9]; exact ko0))).trans (hfr0 b q207 q209 q213 q566 q567 q568 q570 q571 q572))
  have hrr207_0 : ∀ b, kd b = 207 → fldR (f_24 b) 0 = fldR (f b) 0 := fun b kb => ((congrArg (fun x => fldR x 0) (congrFun ef_24 b)).trans (fr_up (by rw [hfo_22]; rfl) b)).trans (hrr207_0 b kb)
  have hrr207_3 : ∀ b, kd b = 207 → fldR (f_24 b) 3 = fldR (f b) 3 := fun b kb => ((congrArg (fun x => fldR x 3) (congrFun ef_24 b)).trans (fr_up (by rw [hfo_22]; rfl) b)).trans (hrr207_3 b kb)
  have hrr207_11 : ∀ b, kd b = 207 → fldR (f_24 b) 11 = fldR (f b) 11 := fun b kb => ((congrArg (fun x => fldR x 11) (congrFun ef_24 b)).trans (fr_up (by rw [hfo_22]; rfl) b)).trans (hrr207_11 b kb)
  have hfo_25 : f_24 o0 = .inr (7, [.ref a_2, .int 0, .ref a_4, .ref a_5, .ref a_6, .ref a_7, .int v_8, .ref a_9, .ref a_10, .ref a_11, .ref a_12, .ref a_13, .int v_14, .ref a_15, .ref a_16, .ref a_17]) := by rw [ef_24]; exact up_self
  refine lv_aload_n hx hb dX7_clear_13 rfl (lv_at hl 0 rfl) ?_
  refine tk_getP (D := (dC, dI)) (ci := 7) (v := .ref a_4) (C := RX7) (T := TX7) (N := 16) hx hb hU inlX7 hown hK hP mo0 hfo_25 rfl 2 (by decide) (hU _ wd_73) (fun _ h9 => h9) rfl dX7_clear_14 ?_
  refine lv_iconst (v := 0) hx hb dX7_clear_17 (by decide) ?_
  refine tk_SvP (As := [.ref a_4, .int 0]) (rest := []) (n := 2) hx hb hml hown hU hN hZ (s_J7_fill_53178_a567 l (dC, dI) cI cL cZ cR cG cH Z kd L f_24 hG a_4 ma_4 ka_4 0 (by decide)) wd_265 wd_266 wd_267 wd_268 (by decide +kernel) ⟨Nat.le_of_ble_eq_true rfl, Nat.le_of_ble_eq_true rfl⟩ hK hP hD hS rfl hl.1 rfl (Nat.le_of_ble_eq_true rfl) dX7_clear_18 ⟨Nat.le_of_ble_eq_true rfl, Nat.le_of_ble_eq_true rfl⟩ (fun f_27 H locs hw hP hD hS => ?_)
  obtain ⟨hG, hkc_28⟩ := hw
  have hfo_30 : f_27 o0 = .inr (7, [.ref a_2, .int 0, .ref a_4, .ref a_5, .ref a_6, .ref a_7, .int v_8, .ref a_9, .ref a_10, .ref a_11, .ref a_12, .ref a_13, .int v_14, .ref a_15, .ref a_16, .ref a_17]) := by rw [hkc_28 o0 (by rw [ko0]; decide)]; exact hfo_25
  have hfr0 : ∀ b, kd b ≠ 207 → kd b ≠ 209 → kd b ≠ 213 → kd b ≠ 566 → kd b ≠ 567 → kd b ≠ 568 → kd b ≠ 570 → kd b ≠ 571 → kd b ≠ 572 → f_27 b = f b := fun b q207 q209 q213 q566 q567 q568 q570 q571 q572 => (hkc_28 b q567).trans (hfr0 b q207 q209 q213 q566 q567 q568 q570 q571 q572)
  have hrr207_0 : ∀ b, kd b = 207 → fldR (f_27 b) 0 = fldR (f b) 0 := fun b kb => (congrArg (fun x => fldR x 0) (hkc_28 b (by rw [kb]; decide))).trans (hrr207_0 b kb)
  have hrr207_3 : ∀ b, kd b = 207 → fldR (f_27 b) 3 = fldR (f b) 3 := fun b kb => (congrArg (fun x => fldR x 3) (hkc_28 b (by rw [kb]; decide))).trans (hrr207_3 b kb)
  have hrr207_11 : ∀ b, kd b = 207 → fldR (f_27 b) 11 = fldR (f b) 11 := fun b kb => (congrArg (fun x => fldR x 11) (hkc_28 b (by rw [kb]; decide))).trans (hrr207_11 b kb)
  refine lv_aload_n hx hb dX7_clear_21 rfl (lv_at hl 0 rfl) ?_
  refine tk_getP (D := (dC, dI)) (ci := 7) (v := .ref a_5) (C := RX7) (T := TX7) (N := 16) hx hb hU inlX7 hown hK hP mo0 hfo_30 rfl 3 (by decide) (hU _ wd_74) (fun _ h9 => h9) rfl dX7_clear_22 ?_
  refine lv_iconst (v := 0) hx hb dX7_clear_25 (by decide) ?_
  refine tk_SvP (As := [.ref a_5, .int 0]) (rest := []) (n := 2) hx hb hml hown hU hN hZ (s_J7_fill_53178_a568 l (dC, dI) cI cL cZ cR cG cH Z kd L f_27 hG a_5 ma_5 ka_5 0 (by decide)) wd_265 wd_266 wd_267 wd_268 (by decide +kernel) ⟨Nat.le_of_ble_eq_true rfl, Nat.le_of_ble_eq_true rfl⟩ hK hP hD hS rfl hl.1 rfl (Nat.le_of_ble_eq_true rfl) dX7_clear_26 ⟨Nat.le_of_ble_eq_true rfl, Nat.le_of_ble_eq_true rfl⟩ (fun f_32 H locs hw hP hD hS => ?_)
  obtain ⟨hG, hkc_33⟩ := hw
  have hfo_35 : f_32 o0 = .inr (7, [.ref a_2, .int 0, .ref a_4, .ref a_5, .ref a_6, .ref a_7, .int v_8, .ref a_9, .ref a_10, .ref a_11, .ref a_12, .ref a_13, .int v_14, .ref a_15, .ref a_16, .ref a_17]) := by rw [hkc_33 o0 (by rw [ko0]; decide)]; exact hfo_30
  have hfr0 : ∀ b, kd b ≠ 207 → kd b ≠ 209 → kd b ≠ 213 → kd b ≠ 566 → kd b ≠ 567 → kd b ≠ 568 → kd b ≠ 570 → kd b ≠ 571 → kd b ≠ 572 → f_32 b = f b := fun b q207 q209 q213 q566 q567 q568 q570 q571 q572 => (hkc_33 b q568).trans (hfr0 b q207 q209 q213 q566 q567 q568 q570 q571 q572)
  have hrr207_0 : ∀ b, kd b = 207 → fldR (f_32 b) 0 = fldR (f b) 0 := fun b kb => (congrArg (fun x => fldR x 0) (hkc_33 b (by rw [kb]; decide))).trans (hrr207_0 b kb)
  have hrr207_3 : ∀ b, kd b = 207 → fldR (f_32 b) 3 = fldR (f b) 3 := fun b kb => (congrArg (fun x => fldR x 3) (hkc_33 b (by rw [kb]; decide))).trans (hrr207_3 b kb)
  have hrr207_11 : ∀ b, kd b = 207 → fldR (f_32 b) 11 = fldR (f b) 11 := fun b kb => (congrArg (fun x => fldR x 11) (hkc_33 b (by rw [kb]; decide))).trans (hrr207_11 b kb)
  refine lv_aload_n hx hb dX7_clear_29 rfl (lv_at hl 0 rfl) ?_
  refine lv_iconst (v := 0) hx hb dX7_clear_30 (by decide) ?_
  refine tk_putP (D := (dC, dI)) (ci := 7) (v := .int 0) (ty := .int) (C := RX7) (T := TX7) (N := 16) hx hb hU inlX7 tyX7 tyX7_ok nmX7 hown hK hP hD hS mo0 hfo_35 rfl 6 (by decide) (hU _ wd_263) (fun _ h9 => h9) rfl (by decide +kernel) rfl rfl (Nat.le_of_ble_eq_true rfl) dX7_clear_31 (fun H locs hP hD hS => ?_)
  obtain ⟨f_37, ef_37⟩ : ∃ y : Nat → va_E, y = va_up f_32 o0 (.inr (7, [.ref a_2, .int 0, .ref a_4, .ref a_5, .ref a_6, .ref a_7, .int 0, .ref a_9, .ref a_10, .ref a_11, .ref a_12, .ref a_13, .int v_14, .ref a_15, .ref a_16, .ref a_17])) := ⟨_, rfl⟩
  have hP : va_P (dC, dI) vwCl (va_pl L f_37) H := by rw [ef_37]; exact hP
  have hD : va_D (fun q => q ∈ L) (va_pl L f_37) := by rw [ef_37]; exact hD
  have hG : GI (okc cI cL cZ cR cG cH L kd) kd L f_37 := by rw [ef_37]; exact hG.set o0 (mk_207 ko0 ⟨a_2, 0, a_4, a_5, a_6, a_7, 0, a_9, a_10, a_11, a_12, a_13, v_14, a_15, a_16, a_17, rfl, ⟨ma_2, ka_2⟩, (by decide), ⟨ma_4, ka_4⟩, ⟨ma_5, ka_5⟩, ⟨ma_6, ka_6⟩, ⟨ma_7, ka_7⟩, (by decide), ⟨ma_9, ka_9⟩, ⟨ma_10, ka_10⟩, ⟨ma_11, ka_11⟩, ⟨ma_12, ka_12⟩, ⟨ma_13, ka_13⟩, (by constructor <;> omega), ⟨ma_15, ka_15⟩, ⟨ma_16, ka_16⟩, ⟨ma_17, ka_17⟩⟩)
  have hfr0 : ∀ b, kd b ≠ 207 → kd b ≠ 209 → kd b ≠ 213 → kd b ≠ 566 → kd b ≠ 567 → kd b ≠ 568 → kd b ≠ 570 → kd b ≠ 571 → kd b ≠ 572 → f_37 b = f b := fun b q207 q209 q213 q566 q567 q568 q570 q571 q572 => (congrFun ef_37 b).trans ((up_ne (fun e9 => q207 (by rw [e9]; exact ko0))).trans (hfr0 b q207 q209 q213 q566 q567 q568 q570 q571 q572))
  have hrr207_0 : ∀ b, kd b = 207 → fldR (f_37 b) 0 = fldR (f b) 0 := fun b kb => ((congrArg (fun x => fldR x 0) (congrFun ef_37 b)).trans (fr_up (by rw [hfo_35]; rfl) b)).trans (hrr207_0 b kb)
  have hrr207_3 : ∀ b, kd b = 207 → fldR (f_37 b) 3 = fldR (f b) 3 := fun b kb => ((congrArg (fun x => fldR x 3) (congrFun ef_37 b)).trans (fr_up (by rw [hfo_35]; rfl) b)).trans (hrr207_3 b kb)
  have hrr207_11 : ∀ b, kd b = 207 → fldR (f_37 b) 11 = fldR (f b) 11 := fun b kb => ((congrArg (fun x => fldR x 11) (congrFun ef_37 b)).trans (fr_up (by rw [hfo_35]; rfl) b)).trans (hrr207_11 b kb)
  have hfo_38 : f_37 o0 = .inr (7, [.ref a_2, .int 0, .ref a_4, .ref a_5, .ref a_6, .ref a_7, .int 0, .ref a_9, .ref a_10, .ref a_11, .ref a_12, .ref a_13, .int v_14, .ref a_15, .ref a_16, .ref a_17]) := by rw [ef_37]; exact up_self
  refine lv_aload_n hx hb dX7_clear_34 rfl (lv_at hl 0 rfl) ?_
  refine tk_getP (D := (dC, dI)) (ci := 7) (v := .ref a_9) (C := RX7) (T := TX7) (N := 16) hx hb hU inlX7 hown hK hP mo0 hfo_38 rfl 7 (by decide) (hU _ wd_77) (fun _ h9 => h9) rfl dX7_clear_35 ?_
  refine lv_iconst (v := 0) hx hb dX7_clear_38 (by decide) ?_
  refine tk_SvP (As := [.ref a_9, .int 0]) (rest := []) (n := 2) hx hb hml hown hU hN hZ (s_J7_fill_53178_a570 l (dC, dI) cI cL cZ cR cG cH Z kd L f_37 hG a_9 ma_9 ka_9 0 (by decide)) wd_265 wd_266 wd_267 wd_268 (by decide +kernel) ⟨Nat.le_of_ble_eq_true rfl, Nat.le_of_ble_eq_true rfl⟩ hK hP hD hS rfl hl.1 rfl (Nat.le_of_ble_eq_true rfl) dX7_clear_39 ⟨Nat.le_of_ble_eq_true rfl, Nat.le_of_ble_eq_true rfl⟩ (fun f_40 H locs hw hP hD hS => ?_)
  obtain ⟨hG, hkc_41⟩ := hw
  have hfo_43 : f_40 o0 = .inr (7, [.ref a_2, .int 0, .ref a_4, .ref a_5, .ref a_6, .ref a_7, .int 0, .ref a_9, .ref a_10, .ref a_11, .ref a_12, .ref a_13, .int v_14, .ref a_15, .ref a_16, .ref a_17]) := by rw [hkc_41 o0 (by rw [ko0]; decide)]; exact hfo_38
  have hfr0 : ∀ b, kd b ≠ 207 → kd b ≠ 209 → kd b ≠ 213 → kd b ≠ 566 → kd b ≠ 567 → kd b ≠ 568 → kd b ≠ 570 → kd b ≠ 571 → kd b ≠ 572 → f_40 b = f b := fun b q207 q209 q213 q566 q567 q568 q570 q571 q572 => (hkc_41 b q570).trans (hfr0 b q207 q209 q213 q566 q567 q568 q570 q571 q572)
  have hrr207_0 : ∀ b, kd b = 207 → fldR (f_40 b) 0 = fldR (f b) 0 := fun b kb => (congrArg (fun x => fldR x 0) (hkc_41 b (by rw [kb]; decide))).trans (hrr207_0 b kb)
  have hrr207_3 : ∀ b, kd b = 207 → fldR (f_40 b) 3 = fldR (f b) 3 := fun b kb => (congrArg (fun x => fldR x 3) (hkc_41 b (by rw [kb]; decide))).trans (hrr207_3 b kb)
  have hrr207_11 : ∀ b, kd b = 207 → fldR (f_40 b) 11 = fldR (f b) 11 := fun b kb => (congrArg (fun x => fldR x 11) (hkc_41 b (by rw [kb]; decide))).trans (hrr207_11 b kb)
  refine lv_aload_n hx hb dX7_clear_42 rfl (lv_at hl 0 rfl) ?_
  refine tk_getP (D := (dC, dI)) (ci := 7) (v := .ref a_10) (C := RX7) (T := TX7) (N := 16) hx hb hU inlX7 hown hK hP mo0 hfo_43 rfl 8 (by decide) (hU _ wd_78) (fun _ h9 => h9) rfl dX7_clear_43 ?_
  refine lv_iconst (v := 0) hx hb dX7_clear_46 (by decide) ?_
  refine tk_SvP (As := [.ref a_10, .int 0]) (rest := []) (n := 2) hx hb hml hown hU hN hZ (s_J7_fill_53178_a571 l (dC, dI) cI cL cZ cR cG cH Z kd L f_40 hG a_10 ma_10 ka_10 0 (by decide)) wd_265 wd_266 wd_267 wd_268 (by decide +kernel) ⟨Nat.le_of_ble_eq_true rfl, Nat.le_of_ble_eq_true rfl⟩ hK hP hD hS rfl hl.1 rfl (Nat.le_of_ble_eq_true rfl) dX7_clear_47 ⟨Nat.le_of_ble_eq_true rfl, Nat.le_of_ble_eq_true rfl⟩ (fun f_45 H locs hw hP hD hS => ?_)
  obtain ⟨hG, hkc_46⟩ := hw
  have hfo_48 : f_45 o0 = .inr (7, [.ref a_2, .int 0, .ref a_4, .ref a_5, .ref a_6, .ref a_7, .int 0, .ref a_9, .ref a_10, .ref a_11, .ref a_12, .ref a_13, .int v_14, .ref a_15, .ref a_16, .ref a_17]) := by rw [hkc_46 o0 (by rw [ko0]; decide)]; exact hfo_43
  have hfr0 : ∀ b, kd b ≠ 207 → kd b ≠ 209 → kd b ≠ 213 → kd b ≠ 566 → kd b ≠ 567 → kd b ≠ 568 → kd b ≠ 570 → kd b ≠ 571 → kd b ≠ 572 → f_45 b = f b := fun b q207 q209 q213 q566 q567 q568 q570 q571 q572 => (hkc_46 b q571).trans (hfr0 b q207 q209 q213 q566 q567 q568 q570 q571 q572)
  have hrr207_0 : ∀ b, kd b = 207 → fldR (f_45 b) 0 = fldR (f b) 0 := fun b kb => (congrArg (fun x => fldR x 0) (hkc_46 b (by rw [kb]; decide))).trans (hrr207_0 b kb)
  have hrr207_3 : ∀ b, kd b = 207 → fldR (f_45 b) 3 = fldR (f b) 3 := fun b kb => (congrArg (fun x => fldR x 3) (hkc_46 b (by rw [kb]; decide))).trans (hrr207_3 b kb)
  have hrr207_11 : ∀ b, kd b = 207 → fldR (f_45 b) 11 = fldR (f b) 11 := fun b kb => (congrArg (fun x => fldR x 11) (hkc_46 b (by rw [kb]; decide))).trans (hrr207_11 b kb)
  refine lv_aload_n hx hb dX7_clear_50 rfl (lv_at hl 0 rfl) ?_
  refine tk_getP (D := (dC, dI)) (ci := 7) (v := .ref a_11) (C := RX7) (T := TX7) (N := 16) hx hb hU inlX7 hown hK hP mo0 hfo_48 rfl 9 (by decide) (hU _ wd_79) (fun _ h9 => h9) rfl dX7_clear_51 ?_
  refine lv_iconst (v := 0) hx hb dX7_clear_54 (by decide) ?_
  refine tk_SvP (As := [.ref a_11, .int 0]) (rest := []) (n := 2) hx hb hml hown hU hN hZ (s_J7_fill_53178_a572 l (dC, dI) cI cL cZ cR cG cH Z kd L f_45 hG a_11 ma_11 ka_11 0 (by decide)) wd_265 wd_266 wd_267 wd_268 (by decide +kernel) ⟨Nat.le_of_ble_eq_true rfl, Nat.le_of_ble_eq_true rfl⟩ hK hP hD hS rfl hl.1 rfl (Nat.le_of_ble_eq_true rfl) dX7_clear_55 ⟨Nat.le_of_ble_eq_true rfl, Nat.le_of_ble_eq_true rfl⟩ (fun f_50 H locs hw hP hD hS => ?_)
  obtain ⟨hG, hkc_51⟩ := hw
  have hfo_53 : f_50 o0 = .inr (7, [.ref a_2, .int 0, .ref a_4, .ref a_5, .ref a_6, .ref a_7, .int 0, .ref a_9, .ref a_10, .ref a_11, .ref a_12, .ref a_13, .int v_14, .ref a_15, .ref a_16, .ref a_17]) := by rw [hkc_51 o0 (by rw [ko0]; decide)]; exact hfo_48
  have hfr0 : ∀ b, kd b ≠ 207 → kd b ≠ 209 → kd b ≠ 213 → kd b ≠ 566 → kd b ≠ 567 → kd b ≠ 568 → kd b ≠ 570 → kd b ≠ 571 → kd b ≠ 572 → f_50 b = f b := fun b q207 q209 q213 q566 q567 q568 q570 q571 q572 => (hkc_51 b q572).trans (hfr0 b q207 q209 q213 q566 q567 q568 q570 q571 q572)
  have hrr207_0 : ∀ b, kd b = 207 → fldR (f_50 b) 0 = fldR (f b) 0 := fun b kb => (congrArg (fun x => fldR x 0) (hkc_51 b (by rw [kb]; decide))).trans (hrr207_0 b kb)
  have hrr207_3 : ∀ b, kd b = 207 → fldR (f_50 b) 3 = fldR (f b) 3 := fun b kb => (congrArg (fun x => fldR x 3) (hkc_51 b (by rw [kb]; decide))).trans (hrr207_3 b kb)
  have hrr207_11 : ∀ b, kd b = 207 → fldR (f_50 b) 11 = fldR (f b) 11 := fun b kb => (congrArg (fun x => fldR x 11) (hkc_51 b (by rw [kb]; decide))).trans (hrr207_11 b kb)
  refine lv_aload_n hx hb dX7_clear_58 rfl (lv_at hl 0 rfl) ?_
  refine tk_getP (D := (dC, dI)) (ci := 7) (v := .ref a_12) (C := RX7) (T := TX7) (N := 16) hx hb hU inlX7 hown hK hP mo0 hfo_53 rfl 10 (by decide) (hU _ wd_80) (fun _ h9 => h9) rfl dX7_clear_59 ?_
  refine lv_iconst (v := 0) hx hb dX7_clear_62 (by decide) ?_
  refine tk_SvP (As := [.ref a_12, .int 0]) (rest := []) (n := 2) hx hb hml hown hU hN hZ (s_J7_fill_53178_a572 l (dC, dI) cI cL cZ cR cG cH Z kd L f_50 hG a_12 ma_12 ka_12 0 (by decide)) wd_265 wd_266 wd_267 wd_268 (by decide +kernel) ⟨Nat.le_of_ble_eq_true rfl, Nat.le_of_ble_eq_true rfl⟩ hK hP hD hS rfl hl.1 rfl (Nat.le_of_ble_eq_true rfl) dX7_clear_63 ⟨Nat.le_of_ble_eq_true rfl, Nat.le_of_ble_eq_true rfl⟩ (fun f_55 H locs hw hP hD hS => ?_)
  obtain ⟨hG, hkc_56⟩ := hw
  have hfo_58 : f_55 o0 = .inr (7, [.ref a_2, .int 0, .ref a_4, .ref a_5, .ref a_6, .ref a_7, .int 0, .ref a_9, .ref a_10, .ref a_11, .ref a_12, .ref a_13, .int v_14, .ref a_15, .ref a_16, .ref a_17]) := by rw [hkc_56 o0 (by rw [ko0]; decide)]; exact hfo_53
  have hfr0 : ∀ b, kd b ≠ 207 → kd b ≠ 209 → kd b ≠ 213 → kd b ≠ 566 → kd b ≠ 567 → kd b ≠ 568 → kd b ≠ 570 → kd b ≠ 571 → kd b ≠ 572 → f_55 b = f b := fun b q207 q209 q213 q566 q567 q568 q570 q571 q572 => (hkc_56 b q572).trans (hfr0 b q207 q209 q213 q566 q567 q568 q570 q571 q572)
  have hrr207_0 : ∀ b, kd b = 207 → fldR (f_55 b) 0 = fldR (f b) 0 := fun b kb => (congrArg (fun x => fldR x 0) (hkc_56 b (by rw [kb]; decide))).trans (hrr207_0 b kb)
  have hrr207_3 : ∀ b, kd b = 207 → fldR (f_55 b) 3 = fldR (f b) 3 := fun b kb => (congrArg (fun x => fldR x 3) (hkc_56 b (by rw [kb]; decide))).trans (hrr207_3 b kb)
  have hrr207_11 : ∀ b, kd b = 207 → fldR (f_55 b) 11 = fldR (f b) 11 := fun b kb => (congrArg (fun x => fldR x 11) (hkc_56 b (by rw [kb]; decide))).trans (hrr207_11 b kb)
  refine lv_aload_n hx hb dX7_clear_66 rfl (lv_at hl 0 rfl) ?_
  refine lv_iconst (v := 0) hx hb dX7_clear_67 (by decide) ?_
  refine tk_putP (D := (dC, dI)) (ci := 7) (v := .int 0) (ty := .int) (C := RX7) (T := TX7) (N := 16) hx hb hU inlX7 tyX7 tyX7_ok nmX7 hown hK hP hD hS mo0 hfo_58 rfl 12 (by decide) (hU _ wd_264) (fun _ h9 => h9) rfl (by decide +kernel) rfl rfl (Nat.le_of_ble_eq_true rfl) dX7_clear_68 (fun H locs hP hD hS => ?_)
  obtain ⟨f_60, ef_60⟩ : ∃ y : Nat → va_E, y = va_up f_55 o0 (.inr (7, [.ref a_2, .int 0, .ref a_4, .ref a_5, .ref a_6, .ref a_7, .int 0, .ref a_9, .ref a_10, .ref a_11, .ref a_12, .ref a_13, .int 0, .ref a_15, .ref a_16, .ref a_17])) := ⟨_, rfl⟩
  have hP : va_P (dC, dI) vwCl (va_pl L f_60) H := by rw [ef_60]; exact hP
  have hD : va_D (fun q => q ∈ L) (va_pl L f_60) := by rw [ef_60]; exact hD
  have hG : GI (okc cI cL cZ cR cG cH L kd) kd L f_60 := by rw [ef_60]; exact hG.set o0 (mk_207 ko0 ⟨a_2, 0, a_4, a_5, a_6, a_7, 0, a_9, a_10, a_11, a_12, a_13, 0, a_15, a_16, a_17, rfl, ⟨ma_2, ka_2⟩, (by decide), ⟨ma_4, ka_4⟩, ⟨ma_5, ka_5⟩, ⟨ma_6, ka_6⟩, ⟨ma_7, ka_7⟩, (by decide), ⟨ma_9, ka_9⟩, ⟨ma_10, ka_10⟩, ⟨ma_11, ka_11⟩, ⟨ma_12, ka_12⟩, ⟨ma_13, ka_13⟩, (by decide), ⟨ma_15, ka_15⟩, ⟨ma_16, ka_16⟩, ⟨ma_17, ka_17⟩⟩)
  have hfr0 : ∀ b, kd b ≠ 207 → kd b ≠ 209 → kd b ≠ 213 → kd b ≠ 566 → kd b ≠ 567 → kd b ≠ 568 → kd b ≠ 570 → kd b ≠ 571 → kd b ≠ 572 → f_60 b = f b := fun b q207 q209 q213 q566 q567 q568 q570 q571 q572 => (congrFun ef_60 b).trans ((up_ne (fun e9 => q207 (by rw [e9]; exact ko0))).trans (hfr0 b q207 q209 q213 q566 q567 q568 q570 q571 q572))
  have hrr207_0 : ∀ b, kd b = 207 → fldR (f_60 b) 0 = fldR (f b) 0 := fun b kb => ((congrArg (fun x => fldR x 0) (congrFun ef_60 b)).trans (fr_up (by rw [hfo_58]; rfl) b)).trans (hrr207_0 b kb)
  have hrr207_3 : ∀ b, kd b = 207 → fldR (f_60 b) 3 = fldR (f b) 3 := fun b kb => ((congrArg (fun x => fldR x 3) (congrFun ef_60 b)).trans (fr_up (by rw [hfo_58]; rfl) b)).trans (hrr207_3 b kb)
  have hrr207_11 : ∀ b, kd b = 207 → fldR (f_60 b) 11 = fldR (f b) 11 := fun b kb => ((congrArg (fun x => fldR x 11) (congrFun ef_60 b)).trans (fr_up (by rw [hfo_58]; rfl) b)).trans (hrr207_11 b kb)
  have hfo_61 : f_60 o0 = .inr (7, [.ref a_2, .int 0, .ref a_4, .ref a_5, .ref a_6, .ref a_7, .int 0, .ref a_9, .ref a_10, .ref a_11, .ref a_12, .ref a_13, .int 0, .ref a_15, .ref a_16, .ref a_17]) := by rw [ef_60]; exact up_self
  refine lv_aload_n hx hb dX7_clear_71 rfl (lv_at hl 0 rfl) ?_
  refine tk_getP (D := (dC, dI)) (ci := 7) (v := .ref a_15) (C := RX7) (T := TX7) (N := 16) hx hb hU inlX7 hown hK hP mo0 hfo_61 rfl 13 (by decide) (hU _ wd_86) (fun _ h9 => h9) rfl dX7_clear_72 ?_
  obtain ⟨a_63, a_64, v_65, hfo_62, ⟨ma_63, ka_63⟩, ⟨ma_64, ka_64⟩, bv_65⟩ := un_209 (hG _ ma_15) ka_15
  refine tk_VvP (As := []) (rest := []) (n := 0) hx hb hml hown hU hN hZ (s_X9_clear_k209 l (dC, dI) cI cL cZ cR cG cH Z kd L f_60 hG a_15 ma_15 ka_15) wd_269 wd_270 wd_271 wd_85 wd_272 (by decide +kernel) ⟨Nat.le_of_ble_eq_true rfl, Nat.le_of_ble_eq_true rfl⟩ hK hP hD hS ma_15 hfo_62 9 rfl rfl rfl hl.1 rfl (Nat.le_of_ble_eq_true rfl) dX7_clear_75 ⟨Nat.le_of_ble_eq_true rfl, Nat.le_of_ble_eq_true rfl⟩ (fun f_67 H locs hw hP hD hS => ?_)
  obtain ⟨hG, hkc_68⟩ := hw
  have hfo_70 : f_67 o0 = .inr (7, [.ref a_2, .int 0, .ref a_4, .ref a_5, .ref a_6, .ref a_7, .int 0, .ref a_9, .ref a_10, .ref a_11, .ref a_12, .ref a_13, .int 0, .ref a_15, .ref a_16, .ref a_17]) := by rw [hkc_68 o0 (by rw [ko0]; decide)]; exact hfo_61
  have hfr0 : ∀ b, kd b ≠ 207 → kd b ≠ 209 → kd b ≠ 213 → kd b ≠ 566 → kd b ≠ 567 → kd b ≠ 568 → kd b ≠ 570 → kd b ≠ 571 → kd b ≠ 572 → f_67 b = f b := fun b q207 q209 q213 q566 q567 q568 q570 q571 q572 => (hkc_68 b q209).trans (hfr0 b q207 q209 q213 q566 q567 q568 q570 q571 q572)
  have hrr207_0 : ∀ b, kd b = 207 → fldR (f_67 b) 0 = fldR (f b) 0 := fun b kb => (congrArg (fun x => fldR x 0) (hkc_68 b (by rw [kb]; decide))).trans (hrr207_0 b kb)
  have hrr207_3 : ∀ b, kd b = 207 → fldR (f_67 b) 3 = fldR (f b) 3 := fun b kb => (congrArg (fun x => fldR x 3) (hkc_68 b (by rw [kb]; decide))).trans (hrr207_3 b kb)
  have hrr207_11 : ∀ b, kd b = 207 → fldR (f_67 b) 11 = fldR (f b) 11 := fun b kb => (congrArg (fun x => fldR x 11) (hkc_68 b (by rw [kb]; decide))).trans (hrr207_11 b kb)
  refine lv_aload_n hx hb dX7_clear_78 rfl (lv_at hl 0 rfl) ?_
  refine tk_getP (D := (dC, dI)) (ci := 7) (v := .ref a_16) (C := RX7) (T := TX7) (N := 16) hx hb hU inlX7 hown hK hP mo0 hfo_70 rfl 14 (by decide) (hU _ wd_87) (fun _ h9 => h9) rfl dX7_clear_79 ?_
  obtain ⟨a_72, a_73, v_74, hfo_71, ⟨ma_72, ka_72⟩, ⟨ma_73, ka_73⟩, bv_74⟩ := un_213 (hG _ ma_16) ka_16
  refine tk_VvP (As := []) (rest := []) (n := 0) hx hb hml hown hU hN hZ (s_X9_clear_k213 l (dC, dI) cI cL cZ cR cG cH Z kd L f_67 hG a_16 ma_16 ka_16) wd_269 wd_270 wd_271 wd_85 wd_272 (by decide +kernel) ⟨Nat.le_of_ble_eq_true rfl, Nat.le_of_ble_eq_true rfl⟩ hK hP hD hS ma_16 hfo_71 9 rfl rfl rfl hl.1 rfl (Nat.le_of_ble_eq_true rfl) dX7_clear_82 ⟨Nat.le_of_ble_eq_true rfl, Nat.le_of_ble_eq_true rfl⟩ (fun f_76 H locs hw hP hD hS => ?_)
  obtain ⟨hG, hkc_77⟩ := hw
  have hfo_79 : f_76 o0 = .inr (7, [.ref a_2, .int 0, .ref a_4, .ref a_5, .ref a_6, .ref a_7, .int 0, .ref a_9, .ref a_10, .ref a_11, .ref a_12, .ref a_13, .int 0, .ref a_15, .ref a_16, .ref a_17]) := by rw [hkc_77 o0 (by rw [ko0]; decide)]; exact hfo_70
  have hfr0 : ∀ b, kd b ≠ 207 → kd b ≠ 209 → kd b ≠ 213 → kd b ≠ 566 → kd b ≠ 567 → kd b ≠ 568 → kd b ≠ 570 → kd b ≠ 571 → kd b ≠ 572 → f_76 b = f b := fun b q207 q209 q213 q566 q567 q568 q570 q571 q572 => (hkc_77 b q213).trans (hfr0 b q207 q209 q213 q566 q567 q568 q570 q571 q572)
  have hrr207_0 : ∀ b, kd b = 207 → fldR (f_76 b) 0 = fldR (f b) 0 := fun b kb => (congrArg (fun x => fldR x 0) (hkc_77 b (by rw [kb]; decide))).trans (hrr207_0 b kb)
  have hrr207_3 : ∀ b, kd b = 207 → fldR (f_76 b) 3 = fldR (f b) 3 := fun b kb => (congrArg (fun x => fldR x 3) (hkc_77 b (by rw [kb]; decide))).trans (hrr207_3 b kb)
  have hrr207_11 : ∀ b, kd b = 207 → fldR (f_76 b) 11 = fldR (f b) 11 := fun b kb => (congrArg (fun x => fldR x 11) (hkc_77 b (by rw [kb]; decide))).trans (hrr207_11 b kb)
  exact W.vret hx hb hr (fun t ht hW => ⟨⟨f_76, rfl, ⟨hG, hfr0, hrr207_0, hrr207_3, hrr207_11⟩, by rw [ht]; exact hP, va_K.moved hW.alike hK, pl_in hD⟩, hS.F ht⟩) hS.2.2 dX7_clear_85
