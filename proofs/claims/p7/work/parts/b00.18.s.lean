set_option maxHeartbeats 8000000 in
set_option maxRecDepth 100000 in
theorem s_X4_mayClash_k4_k4 (l : Launch) (D : va_G) (cI cL cZ cR cG cH : ClassId) (Z : zT) (kd : Nat → Nat) (L : List Nat) (f : Nat → va_E) (hG : GI (okc cI cL cZ cR cG cH L kd) kd L f) (o0 : Nat) (mo0 : o0 ∈ L) (ko0 : kd o0 = 4) (o1 : Nat) (mo1 : o1 ∈ L) (ko1 : kd o1 = 4) : mPI l D cI cL cZ cR cG cH Z yX4_mayClash cX4_mayClash 4 (some .boolean) 1 20 [.ref o0, .ref o1] L f (fun (r : Int32) (f9 : Nat → va_E) => f = f9 ∧ (0 ≤ r.toInt ∧ r.toInt ≤ 1)) := by
  obtain ⟨dC, dI⟩ := D
  refine Met.ofW (cc := cX4_mayClash) (maxL := 4) (ret := (some .boolean)) (by decide) rfl ?_
  intro p e s m args below meth c s₁ B hml hv
  obtain ⟨rfl, hP, hK, hD0, hN, hZ⟩ := hv
  have hx := B.exec
  have hb := B.bytes
  have hr := B.returns
  have hU : ∀ w ∈ wsU, w.before _ s = true := fun w h => atoms_spec (ws := wU yX4_mayClash cX4_mayClash 4 (some .boolean)) B.pre w (List.mem_cons_of_mem _ h)
  have hown : s.vm.findClass RX4 = some m.cls := findClass_of_methodNamed B.named
  have hlocks := B.notSynchronized
  have hD := pl_in hD0
  have hS : va_S (fun q => q ∈ L) s.heap s.heap [] := va_S.rf
  have hl := lv_entry ([.ref o0, .ref o1]) (n := 4) (Nat.le_of_ble_eq_true rfl)
  rw [lg_entry_eq]
  generalize (lg_sl ([.ref o0, .ref o1]) ++ List.replicate (4 - (lg_sl ([.ref o0, .ref o1])).length) Slot.unset).toArray = ls at hl ⊢
  have hl : lv_has ls 4 [(0, .ref o0), (1, .ref o1)] := hl
  refine lv_aload_n hx hb dX4_mayClash_0 rfl (lv_at hl 0 rfl) ?_
  obtain ⟨v_2, v_3, v_4, v_5, a_6, a_7, a_8, a_9, v_10, v_11, v_12, hfo_1, bv_2, bv_3, bv_4, bv_5, ⟨ma_6, ka_6⟩, ⟨ma_7, ka_7⟩, ⟨ma_8, ka_8⟩, ⟨ma_9, ka_9⟩⟩ := un_4 (hG _ mo0) ko0
  have bv_10 : ((-2147483648) ≤ v_10.toInt ∧ v_10.toInt ≤ 2147483647) := ⟨i32_lo _, i32_hi _⟩
  have bv_11 : ((-2147483648) ≤ v_11.toInt ∧ v_11.toInt ≤ 2147483647) := ⟨i32_lo _, i32_hi _⟩
  have bv_12 : ((-2147483648) ≤ v_12.toInt ∧ v_12.toInt ≤ 2147483647) := ⟨i32_lo _, i32_hi _⟩
  refine tk_getP (D := (dC, dI)) (ci := 4) (v := .int v_2) (C := RX4) (T := TX4) (N := 11) hx hb hU inlX4 hown hK hP mo0 hfo_1 rfl 0 (by decide) (hU _ wd_407) (fun _ h9 => h9) rfl dX4_mayClash_1 ?_
  refine lv_aload_n hx hb dX4_mayClash_4 rfl (lv_at hl 1 rfl) ?_
  obtain ⟨v_14, v_15, v_16, v_17, a_18, a_19, a_20, a_21, v_22, v_23, v_24, hfo_13, bv_14, bv_15, bv_16, bv_17, ⟨ma_18, ka_18⟩, ⟨ma_19, ka_19⟩, ⟨ma_20, ka_20⟩, ⟨ma_21, ka_21⟩⟩ := un_4 (hG _ mo1) ko1
  have bv_22 : ((-2147483648) ≤ v_22.toInt ∧ v_22.toInt ≤ 2147483647) := ⟨i32_lo _, i32_hi _⟩
  have bv_23 : ((-2147483648) ≤ v_23.toInt ∧ v_23.toInt ≤ 2147483647) := ⟨i32_lo _, i32_hi _⟩
  have bv_24 : ((-2147483648) ≤ v_24.toInt ∧ v_24.toInt ≤ 2147483647) := ⟨i32_lo _, i32_hi _⟩
  refine tk_getP (D := (dC, dI)) (ci := 4) (v := .int v_14) (C := RX4) (T := TX4) (N := 11) hx hb hU inlX4 hown hK hP mo1 hfo_13 rfl 0 (by decide) (hU _ wd_407) (fun _ h9 => h9) rfl dX4_mayClash_5 ?_
  refine lv_icmp_eq (tgt := 13) hx hb dX4_mayClash_8 (by decide) (fun c_25 => ?_) (fun c_25 => ?_)
  · skip
    rw [← Int32.toInt_inj] at c_25
    refine lv_aload_n hx hb dX4_mayClash_13 rfl (lv_at hl 0 rfl) ?_
    refine tk_ViP (As := []) (rest := []) (n := 0) hx hb hml hown hU hN hZ (s_X4_isAlways_k4 l (dC, dI) cI cL cZ cR cG cH Z kd L f hG o0 mo0 ko0) wd_511 wd_429 wd_430 wd_90 wd_431 (by decide +kernel) ⟨Nat.le_of_ble_eq_true rfl, Nat.le_of_ble_eq_true rfl⟩ hK hP hD hS mo0 hfo_1 4 rfl rfl rfl hl.1 rfl (Nat.le_of_ble_eq_true rfl) dX4_mayClash_14 ⟨Nat.le_of_ble_eq_true rfl, Nat.le_of_ble_eq_true rfl⟩ (fun x_26 f_27 H locs hw hP hD hS => ?_)
    obtain ⟨rfl, bx_26⟩ := hw
    refine lv_if_eq (tgt := 44) hx hb dX4_mayClash_17 (by decide) (fun c_29 => ?_) (fun c_29 => ?_)
    · skip
      rw [← Int32.toInt_inj, ti_0] at c_29
      refine lv_aload_n hx hb dX4_mayClash_44 rfl (lv_at hl 0 rfl) ?_
      refine tk_ViP (As := []) (rest := []) (n := 0) hx hb hml hown hU hN hZ (s_X4_isAlways_k4 l (dC, dI) cI cL cZ cR cG cH Z kd L f hG o0 mo0 ko0) wd_511 wd_429 wd_430 wd_90 wd_431 (by decide +kernel) ⟨Nat.le_of_ble_eq_true rfl, Nat.le_of_ble_eq_true rfl⟩ hK hP hD hS mo0 hfo_1 4 rfl rfl rfl hl.1 rfl (Nat.le_of_ble_eq_true rfl) dX4_mayClash_45 ⟨Nat.le_of_ble_eq_true rfl, Nat.le_of_ble_eq_true rfl⟩ (fun x_30 f_31 H locs hw hP hD hS => ?_)
      obtain ⟨rfl, bx_30⟩ := hw
      have hcut_34 : ∀ (y_33 : Int32), (0 ≤ y_33.toInt ∧ y_33.toInt ≤ 1) → ∀ (ls : Array Slot), lv_has ls 4 [(0, .ref o0), (1, .ref o1)] → W p l e (headSpec (wU yX4_mayClash cX4_mayClash 4 (some .boolean)) { frames := 1, cells := 0, slots := 0, locals := 20 }).room s m [.ref o0, .ref o1].toArray below meth c H locs 0 0 (MQ below (va_Qi (fun (r : Int32) (f9 : Nat → va_E) => f = f9 ∧ (0 ≤ r.toInt ∧ r.toInt ≤ 1)) (qP (dC, dI) cI cL cZ cR cG cH L) (fun q => q ∈ L)) [.ref o0, .ref o1].toArray s 0 0 (fun q => q ∈ L)) (F0 m 64 ls [.int y_33]) := by
        intro y_33 by_33 ls hl
        refine lv_istore_n (lv' := [(2, .int y_33), (0, .ref o0), (1, .ref o1)]) hx hb dX4_mayClash_64 rfl hl (by decide) rfl (fun ls hl => ?_)
        refine lv_aload_n hx hb dX4_mayClash_65 rfl (lv_at hl 1 rfl) ?_
        refine tk_getP (D := (dC, dI)) (ci := 4) (v := .int v_4) (C := RX4) (T := TX4) (N := 11) hx hb hU inlX4 hown hK hP mo0 hfo_1 rfl 2 (by decide) (hU _ wd_409) (fun _ h9 => h9) rfl dX4_mayClash_66 ?_
        refine lv_iconst (v := 3) hx hb dX4_mayClash_69 (by decide) ?_
        have hcut_37 : ∀ (y_35 : Int32), (0 ≤ y_35.toInt ∧ y_35.toInt ≤ 1) → ∀ (H : Heap) (locs : List Loc), va_P (dC, dI) vwCl (va_pl L f) H → va_S (fun q => q ∈ L) s.heap H locs → ∀ (ls : Array Slot), lv_has ls 4 [(2, .int y_33), (0, .ref o0), (1, .ref o1)] → W p l e (headSpec (wU yX4_mayClash cX4_mayClash 4 (some .boolean)) { frames := 1, cells := 0, slots := 0, locals := 20 }).room s m [.ref o0, .ref o1].toArray below meth c H locs 0 0 (MQ below (va_Qi (fun (r : Int32) (f9 : Nat → va_E) => f = f9 ∧ (0 ≤ r.toInt ∧ r.toInt ≤ 1)) (qP (dC, dI) cI cL cZ cR cG cH L) (fun q => q ∈ L)) [.ref o0, .ref o1].toArray s 0 0 (fun q => q ∈ L)) (F0 m 85 ls [.int y_35]) := by
          intro y_35 by_35 H locs hP hS ls hl
          refine lv_istore_n (lv' := [(3, .int y_35), (2, .int y_33), (0, .ref o0), (1, .ref o1)]) hx hb dX4_mayClash_85 rfl hl (by decide) rfl (fun ls hl => ?_)
          refine lv_iload_n hx hb dX4_mayClash_86 rfl (lv_at hl 1 rfl) ?_
          refine lv_if_ne (tgt := 94) hx hb dX4_mayClash_87 (by decide) (fun c_38 => ?_) (fun c_38 => ?_)
          · skip
            rw [← Int32.toInt_inj, ti_0] at c_38
            refine lv_aload_n hx hb dX4_mayClash_94 rfl (lv_at hl 2 rfl) ?_
            refine tk_getP (D := (dC, dI)) (ci := 4) (v := .int v_3) (C := RX4) (T := TX4) (N := 11) hx hb hU inlX4 hown hK hP mo0 hfo_1 rfl 1 (by decide) (hU _ wd_408) (fun _ h9 => h9) rfl dX4_mayClash_95 ?_
            refine lv_aload_n hx hb dX4_mayClash_98 rfl (lv_at hl 3 rfl) ?_
            refine tk_getP (D := (dC, dI)) (ci := 4) (v := .int v_15) (C := RX4) (T := TX4) (N := 11) hx hb hU inlX4 hown hK hP mo1 hfo_13 rfl 1 (by decide) (hU _ wd_408) (fun _ h9 => h9) rfl dX4_mayClash_99 ?_
            refine lv_icmp_ne (tgt := 109) hx hb dX4_mayClash_102 (by decide) (fun c_39 => ?_) (fun c_39 => ?_)
            · skip
              rw [← Int32.toInt_inj] at c_39
              refine lv_iconst (v := 0) hx hb dX4_mayClash_109 (by decide) ?_
              exact W.zret (v := 0) (ty := .boolean) hx hb hr rfl (fun t ht hW => ⟨⟨0, f, rfl, ⟨rfl, (by decide)⟩, by rw [ht]; exact hP, va_K.moved hW.alike hK, pl_in hD⟩, hS.F ht⟩) hS.2.2 dX4_mayClash_110
            · skip
              rw [← Int32.toInt_inj] at c_39
              refine lv_iconst (v := 1) hx hb dX4_mayClash_105 (by decide) ?_
              refine lv_goto (tgt := 110) hx hb dX4_mayClash_106 (by decide) ?_
              exact W.zret (v := 1) (ty := .boolean) hx hb hr rfl (fun t ht hW => ⟨⟨1, f, rfl, ⟨rfl, (by decide)⟩, by rw [ht]; exact hP, va_K.moved hW.alike hK, pl_in hD⟩, hS.F ht⟩) hS.2.2 dX4_mayClash_110
          · skip
            rw [← Int32.toInt_inj, ti_0] at c_38
            refine lv_iload_n hx hb dX4_mayClash_90 rfl (lv_at hl 0 rfl) ?_
            refine lv_if_eq (tgt := 109) hx hb dX4_mayClash_91 (by decide) (fun c_40 => ?_) (fun c_40 => ?_)
            · skip
              rw [← Int32.toInt_inj, ti_0] at c_40
              refine lv_iconst (v := 0) hx hb dX4_mayClash_109 (by decide) ?_
              exact W.zret (v := 0) (ty := .boolean) hx hb hr rfl (fun t ht hW => ⟨⟨0, f, rfl, ⟨rfl, (by decide)⟩, by rw [ht]; exact hP, va_K.moved hW.alike hK, pl_in hD⟩, hS.F ht⟩) hS.2.2 dX4_mayClash_110
            · skip
              rw [← Int32.toInt_inj, ti_0] at c_40
              refine lv_aload_n hx hb dX4_mayClash_94 rfl (lv_at hl 2 rfl) ?_
              refine tk_getP (D := (dC, dI)) (ci := 4) (v := .int v_3) (C := RX4) (T := TX4) (N := 11) hx hb hU inlX4 hown hK hP mo0 hfo_1 rfl 1 (by decide) (hU _ wd_408) (fun _ h9 => h9) rfl dX4_mayClash_95 ?_
              refine lv_aload_n hx hb dX4_mayClash_98 rfl (lv_at hl 3 rfl) ?_
              refine tk_getP (D := (dC, dI)) (ci := 4) (v := .int v_15) (C := RX4) (T := TX4) (N := 11) hx hb hU inlX4 hown hK hP mo1 hfo_13 rfl 1 (by decide) (hU _ wd_408) (fun _ h9 => h9) rfl dX4_mayClash_99 ?_
              refine lv_icmp_ne (tgt := 109) hx hb dX4_mayClash_102 (by decide) (fun c_41 => ?_) (fun c_41 => ?_)
              · skip
                rw [← Int32.toInt_inj] at c_41
                refine lv_iconst (v := 0) hx hb dX4_mayClash_109 (by decide) ?_
                exact W.zret (v := 0) (ty := .boolean) hx hb hr rfl (fun t ht hW => ⟨⟨0, f, rfl, ⟨rfl, (by decide)⟩, by rw [ht]; exact hP, va_K.moved hW.alike hK, pl_in hD⟩, hS.F ht⟩) hS.2.2 dX4_mayClash_110
              · skip
                rw [← Int32.toInt_inj] at c_41
                refine lv_iconst (v := 1) hx hb dX4_mayClash_105 (by decide) ?_
                refine lv_goto (tgt := 110) hx hb dX4_mayClash_106 (by decide) ?_
                exact W.zret (v := 1) (ty := .boolean) hx hb hr rfl (fun t ht hW => ⟨⟨1, f, rfl, ⟨rfl, (by decide)⟩, by rw [ht]; exact hP, va_K.moved hW.alike hK, pl_in hD⟩, hS.F ht⟩) hS.2.2 dX4_mayClash_110
        refine lv_icmp_ne (tgt := 84) hx hb dX4_mayClash_70 (by decide) (fun c_42 => ?_) (fun c_42 => ?_)
        · skip
          rw [← Int32.toInt_inj, ti_3] at c_42
          refine lv_iconst (v := 0) hx hb dX4_mayClash_84 (by decide) ?_
          exact hcut_37 0 (by decide) _ _ hP hS ls (lv_sub hl [0, 1, 2] rfl)
        · skip
          rw [← Int32.toInt_inj, ti_3] at c_42
          refine lv_aload_n hx hb dX4_mayClash_73 rfl (lv_at hl 2 rfl) ?_
          refine tk_ViP (As := []) (rest := []) (n := 0) hx hb hml hown hU hN hZ (s_X4_isAlways_k4 l (dC, dI) cI cL cZ cR cG cH Z kd L f hG o1 mo1 ko1) wd_511 wd_429 wd_430 wd_90 wd_431 (by decide +kernel) ⟨Nat.le_of_ble_eq_true rfl, Nat.le_of_ble_eq_true rfl⟩ hK hP hD hS mo1 hfo_13 4 rfl rfl rfl hl.1 rfl (Nat.le_of_ble_eq_true rfl) dX4_mayClash_74 ⟨Nat.le_of_ble_eq_true rfl, Nat.le_of_ble_eq_true rfl⟩ (fun x_43 f_44 H locs hw hP hD hS => ?_)
          obtain ⟨rfl, bx_43⟩ := hw
          refine lv_if_eq (tgt := 84) hx hb dX4_mayClash_77 (by decide) (fun c_46 => ?_) (fun c_46 => ?_)
          · skip
            rw [← Int32.toInt_inj, ti_0] at c_46
            refine lv_iconst (v := 0) hx hb dX4_mayClash_84 (by decide) ?_
            exact hcut_37 0 (by decide) _ _ hP hS ls (lv_sub hl [0, 1, 2] rfl)
          · skip
            rw [← Int32.toInt_inj, ti_0] at c_46
            refine lv_iconst (v := 1) hx hb dX4_mayClash_80 (by decide) ?_
            refine lv_goto (tgt := 85) hx hb dX4_mayClash_81 (by decide) ?_
            exact hcut_37 1 (by decide) _ _ hP hS ls (lv_sub hl [0, 1, 2] rfl)
      refine lv_if_eq (tgt := 63) hx hb dX4_mayClash_48 (by decide) (fun c_47 => ?_) (fun c_47 => ?_)
      · skip
        rw [← Int32.toInt_inj, ti_0] at c_47
        refine lv_iconst (v := 0) hx hb dX4_mayClash_63 (by decide) ?_
        exact hcut_34 0 (by decide) ls (lv_sub hl [0, 1] rfl)
      · skip
        rw [← Int32.toInt_inj, ti_0] at c_47
        refine lv_aload_n hx hb dX4_mayClash_51 rfl (lv_at hl 1 rfl) ?_
        refine tk_getP (D := (dC, dI)) (ci := 4) (v := .int v_16) (C := RX4) (T := TX4) (N := 11) hx hb hU inlX4 hown hK hP mo1 hfo_13 rfl 2 (by decide) (hU _ wd_409) (fun _ h9 => h9) rfl dX4_mayClash_52 ?_
        refine lv_iconst (v := 3) hx hb dX4_mayClash_55 (by decide) ?_
        refine lv_icmp_ne (tgt := 63) hx hb dX4_mayClash_56 (by decide) (fun c_48 => ?_) (fun c_48 => ?_)
        · skip
          rw [← Int32.toInt_inj, ti_3] at c_48
          refine lv_iconst (v := 0) hx hb dX4_mayClash_63 (by decide) ?_
          exact hcut_34 0 (by decide) ls (lv_sub hl [0, 1] rfl)
        · skip
          rw [← Int32.toInt_inj, ti_3] at c_48
          refine lv_iconst (v := 1) hx hb dX4_mayClash_59 (by decide) ?_
          refine lv_goto (tgt := 64) hx hb dX4_mayClash_60 (by decide) ?_
          exact hcut_34 1 (by decide) ls (lv_sub hl [0, 1] rfl)
    · skip
      rw [← Int32.toInt_inj, ti_0] at c_29
      refine lv_aload_n hx hb dX4_mayClash_20 rfl (lv_at hl 1 rfl) ?_
      refine tk_ViP (As := []) (rest := []) (n := 0) hx hb hml hown hU hN hZ (s_X4_isAlways_k4 l (dC, dI) cI cL cZ cR cG cH Z kd L f hG o1 mo1 ko1) wd_511 wd_429 wd_430 wd_90 wd_431 (by decide +kernel) ⟨Nat.le_of_ble_eq_true rfl, Nat.le_of_ble_eq_true rfl⟩ hK hP hD hS mo1 hfo_13 4 rfl rfl rfl hl.1 rfl (Nat.le_of_ble_eq_true rfl) dX4_mayClash_21 ⟨Nat.le_of_ble_eq_true rfl, Nat.le_of_ble_eq_true rfl⟩ (fun x_49 f_50 H locs hw hP hD hS => ?_)
      obtain ⟨rfl, bx_49⟩ := hw
      refine lv_if_eq (tgt := 44) hx hb dX4_mayClash_24 (by decide) (fun c_52 => ?_) (fun c_52 => ?_)
      · skip
        rw [← Int32.toInt_inj, ti_0] at c_52
        refine lv_aload_n hx hb dX4_mayClash_44 rfl (lv_at hl 0 rfl) ?_
        refine tk_ViP (As := []) (rest := []) (n := 0) hx hb hml hown hU hN hZ (s_X4_isAlways_k4 l (dC, dI) cI cL cZ cR cG cH Z kd L f hG o0 mo0 ko0) wd_511 wd_429 wd_430 wd_90 wd_431 (by decide +kernel) ⟨Nat.le_of_ble_eq_true rfl, Nat.le_of_ble_eq_true rfl⟩ hK hP hD hS mo0 hfo_1 4 rfl rfl rfl hl.1 rfl (Nat.le_of_ble_eq_true rfl) dX4_mayClash_45 ⟨Nat.le_of_ble_eq_true rfl, Nat.le_of_ble_eq_true rfl⟩ (fun x_53 f_54 H locs hw hP hD hS => ?_)
        obtain ⟨rfl, bx_53⟩ := hw
        have hcut_57 : ∀ (y_56 : Int32), (0 ≤ y_56.toInt ∧ y_56.toInt ≤ 1) → ∀ (ls : Array Slot), lv_has ls 4 [(0, .ref o0), (1, .ref o1)] → W p l e (headSpec (wU yX4_mayClash cX4_mayClash 4 (some .boolean)) { frames := 1, cells := 0, slots := 0, locals := 20 }).room s m [.ref o0, .ref o1].toArray below meth c H locs 0 0 (MQ below (va_Qi (fun (r : Int32) (f9 : Nat → va_E) => f = f9 ∧ (0 ≤ r.toInt ∧ r.toInt ≤ 1)) (qP (dC, dI) cI cL cZ cR cG cH L) (fun q => q ∈ L)) [.ref o0, .ref o1].toArray s 0 0 (fun q => q ∈ L)) (F0 m 64 ls [.int y_56]) := by
          intro y_56 by_56 ls hl
          refine lv_istore_n (lv' := [(2, .int y_56), (0, .ref o0), (1, .ref o1)]) hx hb dX4_mayClash_64 rfl hl (by decide) rfl (fun ls hl => ?_)
          refine lv_aload_n hx hb dX4_mayClash_65 rfl (lv_at hl 1 rfl) ?_
          refine tk_getP (D := (dC, dI)) (ci := 4) (v := .int v_4) (C := RX4) (T := TX4) (N := 11) hx hb hU inlX4 hown hK hP mo0 hfo_1 rfl 2 (by decide) (hU _ wd_409) (fun _ h9 => h9) rfl dX4_mayClash_66 ?_
          refine lv_iconst (v := 3) hx hb dX4_mayClash_69 (by decide) ?_
          have hcut_60 : ∀ (y_58 : Int32), (0 ≤ y_58.toInt ∧ y_58.toInt ≤ 1) → ∀ (H : Heap) (locs : List Loc), va_P (dC, dI) vwCl (va_pl L f) H → va_S (fun q => q ∈ L) s.heap H locs → ∀ (ls : Array Slot), lv_has ls 4 [(2, .int y_56), (0, .ref o0), (1, .ref o1)] → W p l e (headSpec (wU yX4_mayClash cX4_mayClash 4 (some .boolean)) { frames := 1, cells := 0, slots := 0, locals := 20 }).room s m [.ref o0, .ref o1].toArray below meth c H locs 0 0 (MQ below (va_Qi (fun (r : Int32) (f9 : Nat → va_E) => f = f9 ∧ (0 ≤ r.toInt ∧ r.toInt ≤ 1)) (qP (dC, dI) cI cL cZ cR cG cH L) (fun q => q ∈ L)) [.ref o0, .ref o1].toArray s 0 0 (fun q => q ∈ L)) (F0 m 85 ls [.int y_58]) := by
            intro y_58 by_58 H locs hP hS ls hl
            refine lv_istore_n (lv' := [(3, .int y_58), (2, .int y_56), (0, .ref o0), (1, .ref o1)]) hx hb dX4_mayClash_85 rfl hl (by decide) rfl (fun ls hl => ?_)
            refine lv_iload_n hx hb dX4_mayClash_86 rfl (lv_at hl 1 rfl) ?_
            refine lv_if_ne (tgt := 94) hx hb dX4_mayClash_87 (by decide) (fun c_61 => ?_) (fun c_61 => ?_)
            · skip
              rw [← Int32.toInt_inj, ti_0] at c_61
              refine lv_aload_n hx hb dX4_mayClash_94 rfl (lv_at hl 2 rfl) ?_
              refine tk_getP (D := (dC, dI)) (ci := 4) (v := .int v_3) (C := RX4) (T := TX4) (N := 11) hx hb hU inlX4 hown hK hP mo0 hfo_1 rfl 1 (by decide) (hU _ wd_408) (fun _ h9 => h9) rfl dX4_mayClash_95 ?_
              refine lv_aload_n hx hb dX4_mayClash_98 rfl (lv_at hl 3 rfl) ?_
              refine tk_getP (D := (dC, dI)) (ci := 4) (v := .int v_15) (C := RX4) (T := TX4) (N := 11) hx hb hU inlX4 hown hK hP mo1 hfo_13 rfl 1 (by decide) (hU _ wd_408) (fun _ h9 => h9) rfl dX4_mayClash_99 ?_
              refine lv_icmp_ne (tgt := 109) hx hb dX4_mayClash_102 (by decide) (fun c_62 => ?_) (fun c_62 => ?_)
              · skip
                rw [← Int32.toInt_inj] at c_62
                refine lv_iconst (v := 0) hx hb dX4_mayClash_109 (by decide) ?_
                exact W.zret (v := 0) (ty := .boolean) hx hb hr rfl (fun t ht hW => ⟨⟨0, f, rfl, ⟨rfl, (by decide)⟩, by rw [ht]; exact hP, va_K.moved hW.alike hK, pl_in hD⟩, hS.F ht⟩) hS.2.2 dX4_mayClash_110
              · skip
                rw [← Int32.toInt_inj] at c_62
                refine lv_iconst (v := 1) hx hb dX4_mayClash_105 (by decide) ?_
                refine lv_goto (tgt := 110) hx hb dX4_mayClash_106 (by decide) ?_
                exact W.zret (v := 1) (ty := .boolean) hx hb hr rfl (fun t ht hW => ⟨⟨1, f, rfl, ⟨rfl, (by decide)⟩, by rw [ht]; exact hP, va_K.moved hW.alike hK, pl_in hD⟩, hS.F ht⟩) hS.2.2 dX4_mayClash_110
            · skip
              rw [← Int32.toInt_inj, ti_0] at c_61
              refine lv_iload_n hx hb dX4_mayClash_90 rfl (lv_at hl 0 rfl) ?_
              refine lv_if_eq (tgt := 109) hx hb dX4_mayClash_91 (by decide) (fun c_63 => ?_) (fun c_63 => ?_)
              · skip
                rw [← Int32.toInt_inj, ti_0] at c_63
                refine lv_iconst (v := 0) hx hb dX4_mayClash_109 (by decide) ?_
                exact W.zret (v := 0) (ty := .boolean) hx hb hr rfl (fun t ht hW => ⟨⟨0, f, rfl, ⟨rfl, (by decide)⟩, by rw [ht]; exact hP, va_K.moved hW.alike hK, pl_in hD⟩, hS.F ht⟩) hS.2.2 dX4_mayClash_110
              · skip
                rw [← Int32.toInt_inj, ti_0] at c_63
                refine lv_aload_n hx hb dX4_mayClash_94 rfl (lv_at hl 2 rfl) ?_
                refine tk_getP (D := (dC, dI)) (ci := 4) (v := .int v_3) (C := RX4) (T := TX4) (N := 11) hx hb hU inlX4 hown hK hP mo0 hfo_1 rfl 1 (by decide) (hU _ wd_408) (fun _ h9 => h9) rfl dX4_mayClash_95 ?_
                refine lv_aload_n hx hb dX4_mayClash_98 rfl (lv_at hl 3 rfl) ?_
                refine tk_getP (D := (dC, dI)) (ci := 4) (v := .int v_15) (C := RX4) (T := TX4) (N := 11) hx hb hU inlX4 hown hK hP mo1 hfo_13 rfl 1 (by decide) (hU _ wd_408) (fun _ h9 => h9) rfl dX4_mayClash_99 ?_
                refine lv_icmp_ne (tgt := 109) hx hb dX4_mayClash_102 (by decide) (fun c_64 => ?_) (fun c_64 => ?_)
                · skip
                  rw [← Int32.toInt_inj] at c_64
                  refine lv_iconst (v := 0) hx hb dX4_mayClash_109 (by decide) ?_
                  exact W.zret (v := 0) (ty := .boolean) hx hb hr rfl (fun t ht hW => ⟨⟨0, f, rfl, ⟨rfl, (by decide)⟩, by rw [ht]; exact hP, va_K.moved hW.alike hK, pl_in hD⟩, hS.F ht⟩) hS.2.2 dX4_mayClash_110
                · skip
                  rw [← Int32.toInt_inj] at c_64
                  refine lv_iconst (v := 1) hx hb dX4_mayClash_105 (by decide) ?_
                  refine lv_goto (tgt := 110) hx hb dX4_mayClash_106 (by decide) ?_
                  exact W.zret (v := 1) (ty := .boolean) hx hb hr rfl (fun t ht hW => ⟨⟨1, f, rfl, ⟨rfl, (by decide)⟩, by rw [ht]; exact hP, va_K.moved hW.alike hK, pl_in hD⟩, hS.F ht⟩) hS.2.2 dX4_mayClash_110
          refine lv_icmp_ne (tgt := 84) hx hb dX4_mayClash_70 (by decide) (fun c_65 => ?_) (fun c_65 => ?_)
          · skip
            rw [← Int32.toInt_inj, ti_3] at c_65
            refine lv_iconst (v := 0) hx hb dX4_mayClash_84 (by decide) ?_
            exact hcut_60 0 (by decide) _ _ hP hS ls (lv_sub hl [0, 1, 2] rfl)
          · skip
            rw [← Int32.toInt_inj, ti_3] at c_65
            refine lv_aload_n hx hb dX4_mayClash_73 rfl (lv_at hl 2 rfl) ?_
            refine tk_ViP (As := []) (rest := []) (n := 0) hx hb hml hown hU hN hZ (s_X4_isAlways_k4 l (dC, dI) cI cL cZ cR cG cH Z kd L f hG o1 mo1 ko1) wd_511 wd_429 wd_430 wd_90 wd_431 (by decide +kernel) ⟨Nat.le_of_ble_eq_true rfl, Nat.le_of_ble_eq_true rfl⟩ hK hP hD hS mo1 hfo_13 4 rfl rfl rfl hl.1 rfl (Nat.le_of_ble_eq_true rfl) dX4_mayClash_74 ⟨Nat.le_of_ble_eq_true rfl, Nat.le_of_ble_eq_true rfl⟩ (fun x_66 f_67 H locs hw hP hD hS => ?_)
            obtain ⟨rfl, bx_66⟩ := hw
            refine lv_if_eq (tgt := 84) hx hb dX4_mayClash_77 (by decide) (fun c_69 => ?_) (fun c_69 => ?_)
            · skip
              rw [← Int32.toInt_inj, ti_0] at c_69
              refine lv_iconst (v := 0) hx hb dX4_mayClash_84 (by decide) ?_
              exact hcut_60 0 (by decide) _ _ hP hS ls (lv_sub hl [0, 1, 2] rfl)
            · skip
              rw [← Int32.toInt_inj, ti_0] at c_69
              refine lv_iconst (v := 1) hx hb dX4_mayClash_80 (by decide) ?_
              refine lv_goto (tgt := 85) hx hb dX4_mayClash_81 (by decide) ?_
              exact hcut_60 1 (by decide) _ _ hP hS ls (lv_sub hl [0, 1, 2] rfl)
        refine lv_if_eq (tgt := 63) hx hb dX4_mayClash_48 (by decide) (fun c_70 => ?_) (fun c_70 => ?_)
        · skip
          rw [← Int32.toInt_inj, ti_0] at c_70
          refine lv_iconst (v := 0) hx hb dX4_mayClash_63 (by decide) ?_
          exact hcut_57 0 (by decide) ls (lv_sub hl [0, 1] rfl)
        · skip
          rw [← Int32.toInt_inj, ti_0] at c_70
          refine lv_aload_n hx hb dX4_mayClash_51 rfl (lv_at hl 1 rfl) ?_
          refine tk_getP (D := (dC, dI)) (ci := 4) (v := .int v_16) (C := RX4) (T := TX4) (N := 11) hx hb hU inlX4 hown hK hP mo1 hfo_13 rfl 2 (by decide) (hU _ wd_409) (fun _ h9 => h9) rfl dX4_mayClash_52 ?_
          refine lv_iconst (v := 3) hx hb dX4_mayClash_55 (by decide) ?_
          refine lv_icmp_ne (tgt := 63) hx hb dX4_mayClash_56 (by decide) (fun c_71 => ?_) (fun c_71 => ?_)
          · skip
            rw [← Int32.toInt_inj, ti_3] at c_71
            refine lv_iconst (v := 0) hx hb dX4_mayClash_63 (by decide) ?_
            exact hcut_57 0 (by decide) ls (lv_sub hl [0, 1] rfl)
          · skip
            rw [← Int32.toInt_inj, ti_3] at c_71
            refine lv_iconst (v := 1) hx hb dX4_mayClash_59 (by decide) ?_
            refine lv_goto (tgt := 64) hx hb dX4_mayClash_60 (by decide) ?_
            exact hcut_57 1 (by decide) ls (lv_sub hl [0, 1] rfl)
      · skip
        rw [← Int32.toInt_inj, ti_0] at c_52
        refine lv_aload_n hx hb dX4_mayClash_27 rfl (lv_at hl 0 rfl) ?_
        refine tk_getP (D := (dC, dI)) (ci := 4) (v := .int v_3) (C := RX4) (T := TX4) (N := 11) hx hb hU inlX4 hown hK hP mo0 hfo_1 rfl 1 (by decide) (hU _ wd_408) (fun _ h9 => h9) rfl dX4_mayClash_28 ?_
        refine lv_aload_n hx hb dX4_mayClash_31 rfl (lv_at hl 1 rfl) ?_
        refine tk_getP (D := (dC, dI)) (ci := 4) (v := .int v_15) (C := RX4) (T := TX4) (N := 11) hx hb hU inlX4 hown hK hP mo1 hfo_13 rfl 1 (by decide) (hU _ wd_408) (fun _ h9 => h9) rfl dX4_mayClash_32 ?_
        refine lv_icmp_eq (tgt := 42) hx hb dX4_mayClash_35 (by decide) (fun c_72 => ?_) (fun c_72 => ?_)
        · skip
          rw [← Int32.toInt_inj] at c_72
          refine lv_iconst (v := 0) hx hb dX4_mayClash_42 (by decide) ?_
          exact W.zret (v := 0) (ty := .boolean) hx hb hr rfl (fun t ht hW => ⟨⟨0, f, rfl, ⟨rfl, (by decide)⟩, by rw [ht]; exact hP, va_K.moved hW.alike hK, pl_in hD⟩, hS.F ht⟩) hS.2.2 dX4_mayClash_43
        · skip
          rw [← Int32.toInt_inj] at c_72
          refine lv_iconst (v := 1) hx hb dX4_mayClash_38 (by decide) ?_
          refine lv_goto (tgt := 43) hx hb dX4_mayClash_39 (by decide) ?_
          exact W.zret (v := 1) (ty := .boolean) hx hb hr rfl (fun t ht hW => ⟨⟨1, f, rfl, ⟨rfl, (by decide)⟩, by rw [ht]; exact hP, va_K.moved hW.alike hK, pl_in hD⟩, hS.F ht⟩) hS.2.2 dX4_mayClash_43
  · skip
    rw [← Int32.toInt_inj] at c_25
    refine lv_iconst (v := 0) hx hb dX4_mayClash_11 (by decide) ?_
    exact W.zret (v := 0) (ty := .boolean) hx hb hr rfl (fun t ht hW => ⟨⟨0, f, rfl, ⟨rfl, (by decide)⟩, by rw [ht]; exact hP, va_K.moved hW.alike hK, pl_in hD⟩, hS.F ht⟩) hS.2.2 dX4_mayClash_12
set_option maxHeartbeats 8000000 in
set_option maxRecDepth 100000 in
theorem s_X7_compile_k207 (l : Launch) (D : va_G) (cI cL cZ cR cG cH : ClassId) (Z : zT) (kd : Nat → Nat) (L : List Nat) (f : Nat → va_E) (hG : GI (okc cI cL cZ cR cG cH L kd) kd L f) (o0 : Nat) (mo0 : o0 ∈ L) (ko0 : kd o0 = 207) : mPV l D cI cL cZ cR cG cH Z yX7_compile cX7_compile 2 none 4 88 [.ref o0] L f (fun (f9 : Nat → va_E) => GI (okc cI cL cZ cR cG cH L kd) kd L f9 ∧ (∀ b, kd b ≠ 204 → kd b ≠ 559 → kd b ≠ 560 → kd b ≠ 561 → f9 b = f b) ∧ (∀ b, kd b = 204 → fldI (f9 b) 1 = fldI (f b) 1) ∧ (∀ b, kd b = 204 → fldI (f9 b) 3 = fldI (f b) 3)) := by
  obtain ⟨dC, dI⟩ := D
  refine Met.ofW (cc := cX7_compile) (maxL := 2) (ret := none) (by decide) rfl ?_
  intro p e s m args below meth c s₁ B hml hv
  obtain ⟨rfl, hP, hK, hD0, hN, hZ⟩ := hv
  have hx := B.exec
  have hb := B.bytes
  have hr := B.returns
  have hU : ∀ w ∈ wsU, w.before _ s = true := fun w h => atoms_spec (ws := wU yX7_compile cX7_compile 2 none) B.pre w (List.mem_cons_of_mem _ h)
  have hown : s.vm.findClass RX7 = some m.cls := findClass_of_methodNamed B.named
  have hlocks := B.notSynchronized
  have hD := pl_in hD0
  have hS : va_S (fun q => q ∈ L) s.heap s.heap [] := va_S.rf
  have hl := lv_entry ([.ref o0]) (n := 2) (Nat.le_of_ble_eq_true rfl)
  rw [lg_entry_eq]
  generalize (lg_sl ([.ref o0]) ++ List.replicate (2 - (lg_sl ([.ref o0])).length) Slot.unset).toArray = ls at hl ⊢
  have hl : lv_has ls 2 [(0, .ref o0)] := hl
  have hfr0 : ∀ b, kd b ≠ 204 → kd b ≠ 559 → kd b ≠ 560 → kd b ≠ 561 → f b = f b := fun _ _ _ _ _ => rfl
  have hfr204_1 : ∀ b, kd b = 204 → fldI (f b) 1 = fldI (f b) 1 := fun _ _ => rfl
  have hfr204_3 : ∀ b, kd b = 204 → fldI (f b) 3 = fldI (f b) 3 := fun _ _ => rfl
  refine lv_iconst (v := 0) hx hb dX7_compile_0 (by decide) ?_
  refine lv_istore_n (lv' := [(1, .int 0), (0, .ref o0)]) hx hb dX7_compile_1 rfl hl (by decide) rfl (fun ls hl => ?_)
  have hloop_13 : ∀ (n : Nat), ∀ (y_14 : Int32), (0 ≤ y_14.toInt ∧ y_14.toInt ≤ 8) → ∀ (f_16 : Nat → va_E), GI (okc cI cL cZ cR cG cH L kd) kd L f_16 → ∀ (H : Heap) (locs : List Loc), va_P (dC, dI) vwCl (va_pl L f_16) H → va_S (fun q => q ∈ L) s.heap H locs → va_D (fun q => q ∈ L) (va_pl L f_16) → (∀ b, kd b ≠ 204 → kd b ≠ 559 → kd b ≠ 560 → kd b ≠ 561 → f_16 b = f b) → (∀ b, kd b = 204 → fldI (f_16 b) 1 = fldI (f b) 1) → (∀ b, kd b = 204 → fldI (f_16 b) 3 = fldI (f b) 3) → 8 - y_14.toInt < (n : Int) → ∀ (ls : Array Slot), lv_has ls 2 [(1, .int y_14), (0, .ref o0)] → W p l e (headSpec (wU yX7_compile cX7_compile 2 none) { frames := 4, cells := 0, slots := 0, locals := 88 }).room s m [.ref o0].toArray below meth c H locs 0 0 (MQ below (va_Qv (fun (f9 : Nat → va_E) => GI (okc cI cL cZ cR cG cH L kd) kd L f9 ∧ (∀ b, kd b ≠ 204 → kd b ≠ 559 → kd b ≠ 560 → kd b ≠ 561 → f9 b = f b) ∧ (∀ b, kd b = 204 → fldI (f9 b) 1 = fldI (f b) 1) ∧ (∀ b, kd b = 204 → fldI (f9 b) 3 = fldI (f b) 3)) (qP (dC, dI) cI cL cZ cR cG cH L) (fun q => q ∈ L)) [.ref o0].toArray s 0 0 (fun q => q ∈ L)) (F0 m 2 ls []) := by
    intro n
    induction n with
    | zero => intro y_14 by_14 f_16 hG H locs hP hS hD hfr0 hfr204_1 hfr204_3 hmuhloop_13 ls hl; exfalso; omega
    | succ n ih_hloop_13 =>
      intro y_14 by_14 f_16 hG H locs hP hS hD hfr0 hfr204_1 hfr204_3 hmuhloop_13 ls hl
      refine lv_iload_n hx hb dX7_compile_2 rfl (lv_at hl 0 rfl) ?_
      refine lv_aload_n hx hb dX7_compile_3 rfl (lv_at hl 1 rfl) ?_
      obtain ⟨a_18, v_19, a_20, a_21, a_22, a_23, v_24, a_25, a_26, a_27, a_28, a_29, v_30, a_31, a_32, a_33, hfo_17, ⟨ma_18, ka_18⟩, bv_19, ⟨ma_20, ka_20⟩, ⟨ma_21, ka_21⟩, ⟨ma_22, ka_22⟩, ⟨ma_23, ka_23⟩, bv_24, ⟨ma_25, ka_25⟩, ⟨ma_26, ka_26⟩, ⟨ma_27, ka_27⟩, ⟨ma_28, ka_28⟩, ⟨ma_29, ka_29⟩, bv_30, ⟨ma_31, ka_31⟩, ⟨ma_32, ka_32⟩, ⟨ma_33, ka_33⟩⟩ := un_207 (hG _ mo0) ko0
      refine tk_getP (D := (dC, dI)) (ci := 7) (v := .int v_30) (C := RX7) (T := TX7) (N := 16) hx hb hU inlX7 hown hK hP mo0 hfo_17 rfl 12 (by decide) (hU _ wd_264) (fun _ h9 => h9) rfl dX7_compile_4 ?_
      refine lv_icmp_ge (tgt := 26) hx hb dX7_compile_7 (by decide) (fun c_34 => ?_) (fun c_34 => ?_)
      · skip
        rw [Int32.le_iff_toInt_le] at c_34
        exact W.vret hx hb hr (fun t ht hW => ⟨⟨f_16, rfl, ⟨hG, hfr0, hfr204_1, hfr204_3⟩, by rw [ht]; exact hP, va_K.moved hW.alike hK, pl_in hD⟩, hS.F ht⟩) hS.2.2 dX7_compile_26
      · skip
        rw [Int32.le_iff_toInt_le] at c_34
        refine lv_aload_n hx hb dX7_compile_10 rfl (lv_at hl 1 rfl) ?_
        refine tk_getP (D := (dC, dI)) (ci := 7) (v := .ref a_29) (C := RX7) (T := TX7) (N := 16) hx hb hU inlX7 hown hK hP mo0 hfo_17 rfl 11 (by decide) (hU _ wd_82) (fun _ h9 => h9) rfl dX7_compile_11 ?_
        refine lv_iload_n hx hb dX7_compile_14 rfl (lv_at hl 0 rfl) ?_
        obtain ⟨g_36, hfo_35, hbg_36⟩ := un_573 (hG _ ma_29) ka_29
        obtain ⟨a_37, hga_37, ma_37, ka_37⟩ := hbg_36 (Int32.toNatClampNeg y_14) (in_lt (vp_in_iff.mpr (by constructor <;> omega)))
        refine tk_aldP hx hb hK hP 3 ma_29 hfo_35 rfl (vp_in_iff.mpr (by constructor <;> omega)) hga_37 dX7_compile_15 ?_
        refine lv_aload_n hx hb dX7_compile_16 rfl (lv_at hl 1 rfl) ?_
        obtain ⟨v_39, v_40, v_41, v_42, a_43, a_44, a_45, a_46, v_47, v_48, v_49, hfo_38, bv_39, bv_40, bv_41, bv_42, ⟨ma_43, ka_43⟩, ⟨ma_44, ka_44⟩, ⟨ma_45, ka_45⟩, ⟨ma_46, ka_46⟩⟩ := un_204 (hG _ ma_37) ka_37
        have bv_47 : ((-2147483648) ≤ v_47.toInt ∧ v_47.toInt ≤ 2147483647) := ⟨i32_lo _, i32_hi _⟩
        have bv_48 : ((-2147483648) ≤ v_48.toInt ∧ v_48.toInt ≤ 2147483647) := ⟨i32_lo _, i32_hi _⟩
        have bv_49 : ((-2147483648) ≤ v_49.toInt ∧ v_49.toInt ≤ 2147483647) := ⟨i32_lo _, i32_hi _⟩
        refine tk_VvP (As := [.ref o0]) (rest := []) (n := 1) hx hb hml hown hU hN hZ (s_X4_compile_k204_k207 l (dC, dI) cI cL cZ cR cG cH Z kd L f_16 hG a_37 ma_37 ka_37 o0 mo0 ko0) wd_485 wd_486 wd_487 wd_90 wd_488 (by decide +kernel) ⟨Nat.le_of_ble_eq_true rfl, Nat.le_of_ble_eq_true rfl⟩ hK hP hD hS ma_37 hfo_38 4 rfl rfl rfl hl.1 rfl (Nat.le_of_ble_eq_true rfl) dX7_compile_17 ⟨Nat.le_of_ble_eq_true rfl, Nat.le_of_ble_eq_true rfl⟩ (fun f_51 H locs hw hP hD hS => ?_)
        obtain ⟨hG, hkc_52, hfc_53, hfc_54⟩ := hw
        have hfo_56 : f_51 o0 = .inr (7, [.ref a_18, .int v_19, .ref a_20, .ref a_21, .ref a_22, .ref a_23, .int v_24, .ref a_25, .ref a_26, .ref a_27, .ref a_28, .ref a_29, .int v_30, .ref a_31, .ref a_32, .ref a_33]) := by rw [hkc_52 o0 (by rw [ko0]; decide) (by rw [ko0]; decide) (by rw [ko0]; decide) (by rw [ko0]; decide)]; exact hfo_17
        have hfo_57 : f_51 a_29 = .inl (cR, 8, .inr (.inr (.inr (.inr g_36)))) := by rw [hkc_52 a_29 (by rw [ka_29]; decide) (by rw [ka_29]; decide) (by rw [ka_29]; decide) (by rw [ka_29]; decide)]; exact hfo_35
        have hfr0 : ∀ b, kd b ≠ 204 → kd b ≠ 559 → kd b ≠ 560 → kd b ≠ 561 → f_51 b = f b := fun b q204 q559 q560 q561 => (hkc_52 b q204 q559 q560 q561).trans (hfr0 b q204 q559 q560 q561)
        have hfr204_1 : ∀ b, kd b = 204 → fldI (f_51 b) 1 = fldI (f b) 1 := fun b kb => (hfc_53 b kb).trans (hfr204_1 b kb)
        have hfr204_3 : ∀ b, kd b = 204 → fldI (f_51 b) 3 = fldI (f b) 3 := fun b kb => (hfc_54 b kb).trans (hfr204_3 b kb)
        obtain ⟨v_59, v_60, v_61, v_62, a_63, a_64, a_65, a_66, v_67, v_68, v_69, hfo_58, bv_59, bv_60, bv_61, bv_62, ⟨ma_63, ka_63⟩, ⟨ma_64, ka_64⟩, ⟨ma_65, ka_65⟩, ⟨ma_66, ka_66⟩⟩ := un_204 (hG _ ma_37) ka_37
        have bv_67 : ((-2147483648) ≤ v_67.toInt ∧ v_67.toInt ≤ 2147483647) := ⟨i32_lo _, i32_hi _⟩
        have bv_68 : ((-2147483648) ≤ v_68.toInt ∧ v_68.toInt ≤ 2147483647) := ⟨i32_lo _, i32_hi _⟩
        have bv_69 : ((-2147483648) ≤ v_69.toInt ∧ v_69.toInt ≤ 2147483647) := ⟨i32_lo _, i32_hi _⟩
        obtain rfl : v_40 = v_60 := by have hk9 := hfc_53 a_37 ka_37; rw [hfo_58, hfo_38] at hk9; exact (Option.some.inj hk9).symm
        obtain rfl : v_42 = v_62 := by have hk9 := hfc_54 a_37 ka_37; rw [hfo_58, hfo_38] at hk9; exact (Option.some.inj hk9).symm
        obtain ⟨x_70, ex_70⟩ : ∃ y : Int32, y_14 + 1 = y := ⟨_, rfl⟩
        have hx_70 : x_70.toInt = y_14.toInt + 1 := by rw [← ex_70, ad_I (by rw [ti_1]; omega) (by rw [ti_1]; omega), ti_1]
        have bx_70 : (1 ≤ x_70.toInt ∧ x_70.toInt ≤ 8) := by constructor <;> omega
        refine lv_iinc (v := x_70) (lv' := [(1, .int x_70), (0, .ref o0)]) hx hb dX7_compile_20 hl (k := 0) rfl ex_70 (by decide) rfl (fun ls hl => ?_)
        refine lv_goto (tgt := 2) hx hb dX7_compile_23 (by decide) ?_
        exact ih_hloop_13 x_70 (by constructor <;> omega) f_51 hG _ _ hP hS hD hfr0 hfr204_1 hfr204_3 (by omega) ls (lv_sub hl [0, 1] rfl)
  exact hloop_13 9 0 (by decide) f hG _ _ hP hS hD hfr0 hfr204_1 hfr204_3 (by (try rw [ti_0]) <;> omega) ls hl
set_option maxHeartbeats 8000000 in
set_option maxRecDepth 100000 in
theorem s_X7_clear_k207 (l : Launch) (D : va_G) (cI cL cZ cR cG cH : ClassId) (Z : zT) (kd : Nat → Nat) (L : List Nat) (f : Nat → va_E) (hG : GI (okc cI cL cZ cR cG cH L kd) kd L f) (o0 : Nat) (mo0 : o0 ∈ L) (ko0 : kd o0 = 207) : mPV l D cI cL cZ cR cG cH Z yX7_clear cX7_clear 1 none 1 23 [.ref o0] L f (fun (f9 : Nat → va_E) => GI (okc cI cL cZ cR cG cH L kd) kd L f9 ∧ (∀ b, kd b ≠ 207 → kd b ≠ 209 → kd b ≠ 213 → kd b ≠ 566 → kd b ≠ 567 → kd b ≠ 568 → kd b ≠ 570 → kd b ≠ 571 → kd b ≠ 572 → f9 b = f b)) := by
  obtain ⟨dC, dI⟩ := D
  refine Met.ofW (cc := cX7_clear) (maxL := 1) (ret := none) (by decide) rfl ?_
  intro p e s m args below meth c s₁ B hml hv
  obtain ⟨rfl, hP, hK, hD0, hN, hZ⟩ := hv
  have hx := B.exec
  have hb := B.bytes
  have hr := B.returns
  have hU : ∀ w ∈ wsU, w.before _ s = true := fun w h => atoms_spec (ws := wU yX7_clear cX7_clear 1 none) B.pre w (List.mem_cons_of_mem _ h)
  have hown : s.vm.findClass RX7 = some m.cls := findClass_of_methodNamed B.named
  have hlocks := B.notSynchronized
  have hD := pl_in hD0
  have hS : va_S (fun q => q ∈ L) s.heap s.heap [] := va_S.rf
  have hl := lv_entry ([.ref o0]) (n := 1) (Nat.le_of_ble_eq_true rfl)
  rw [lg_entry_eq]
  generalize (lg_sl ([.ref o0]) ++ List.replicate (1 - (lg_sl ([.ref o0])).length) Slot.unset).toArray = ls at hl ⊢
  have hl : lv_has ls 1 [(0, .ref o0)] := hl
  have hfr0 : ∀ b, kd b ≠ 207 → kd b ≠ 209 → kd b ≠ 213 → kd b ≠ 566 → kd b ≠ 567 → kd b ≠ 568 → kd b ≠ 570 → kd b ≠ 571 → kd b ≠ 572 → f b = f b := fun _ _ _ _ _ _ _ _ _ _ => rfl
  refine lv_aload_n hx hb dX7_clear_0 rfl (lv_at hl 0 rfl) ?_
  obtain ⟨a_2, v_3, a_4, a_5, a_6, a_7, v_8, a_9, a_10, a_11, a_12, a_13, v_14, a_15, a_16, a_17, hfo_1, ⟨ma_2, ka_2⟩, bv_3, ⟨ma_4, ka_4⟩, ⟨ma_5, ka_5⟩, ⟨ma_6, ka_6⟩, ⟨ma_7, ka_7⟩, bv_8, ⟨ma_9, ka_9⟩, ⟨ma_10, ka_10⟩, ⟨ma_11, ka_11⟩, ⟨ma_12, ka_12⟩, ⟨ma_13, ka_13⟩, bv_14, ⟨ma_15, ka_15⟩, ⟨ma_16, ka_16⟩, ⟨ma_17, ka_17⟩⟩ := un_207 (hG _ mo0) ko0
  refine tk_getP (D := (dC, dI)) (ci := 7) (v := .ref a_2) (C := RX7) (T := TX7) (N := 16) hx hb hU inlX7 hown hK hP mo0 hfo_1 rfl 0 (by decide) (hU _ wd_72) (fun _ h9 => h9) rfl dX7_clear_1 ?_
  refine lv_iconst (v := 0) hx hb dX7_clear_4 (by decide) ?_
  refine tk_SvP (As := [.ref a_2, .int 0]) (rest := []) (n := 2) hx hb hml hown hU hN hZ (s_J7_fill_53178_a566 l (dC, dI) cI cL cZ cR cG cH Z kd L f hG a_2 ma_2 ka_2 0 (by decide)) wd_265 wd_266 wd_267 wd_268 (by decide +kernel) ⟨Nat.le_of_ble_eq_true rfl, Nat.le_of_ble_eq_true rfl⟩ hK hP hD hS rfl hl.1 rfl (Nat.le_of_ble_eq_true rfl) dX7_clear_5 ⟨Nat.le_of_ble_eq_true rfl, Nat.le_of_ble_eq_true rfl⟩ (fun f_19 H locs hw hP hD hS => ?_)
  obtain ⟨hG, hkc_20⟩ := hw
  have hfo_22 : f_19 o0 = .inr (7, [.ref a_2, .int v_3, .ref a_4, .ref a_5, .ref a_6, .ref a_7, .int v_8, .ref a_9, .ref a_10, .ref a_11, .ref a_12, .ref a_13, .int v_14, .ref a_15, .ref a_16, .ref a_17]) := by rw [hkc_20 o0 (by rw [ko0]; decide)]; exact hfo_1
  have hfr0 : ∀ b, kd b ≠ 207 → kd b ≠ 209 → kd b ≠ 213 → kd b ≠ 566 → kd b ≠ 567 → kd b ≠ 568 → kd b ≠ 570 → kd b ≠ 571 → kd b ≠ 572 → f_19 b = f b := fun b q207 q209 q213 q566 q567 q568 q570 q571 q572 => (hkc_20 b q566).trans (hfr0 b q207 q209 q213 q566 q567 q568 q570 q571 q572)
  refine lv_aload_n hx hb dX7_clear_8 rfl (lv_at hl 0 rfl) ?_
  refine lv_iconst (v := 0) hx hb dX7_clear_9 (by decide) ?_
  refine tk_putP (D := (dC, dI)) (ci := 7) (v := .int 0) (ty := .int) (C := RX7) (T := TX7) (N := 16) hx hb hU inlX7 tyX7 tyX7_ok nmX7 hown hK hP hD hS mo0 hfo_22 rfl 1 (by decide) (hU _ wd_262) (fun _ h9 => h9) rfl (by decide +kernel) rfl rfl (Nat.le_of_ble_eq_true rfl) dX7_clear_10 (fun H locs hP hD hS => ?_)
  obtain ⟨f_24, ef_24⟩ : ∃ y : Nat → va_E, y = va_up f_19 o0 (.inr (7, [.ref a_2, .int 0, .ref a_4, .ref a_5, .ref a_6, .ref a_7, .int v_8, .ref a_9, .ref a_10, .ref a_11, .ref a_12, .ref a_13, .int v_14, .ref a_15, .ref a_16, .ref a_17])) := ⟨_, rfl⟩
  have hP : va_P (dC, dI) vwCl (va_pl L f_24) H := by rw [ef_24]; exact hP
  have hD : va_D (fun q => q ∈ L) (va_pl L f_24) := by rw [ef_24]; exact hD
  have hG : GI (okc cI cL cZ cR cG cH L kd) kd L f_24 := by rw [ef_24]; exact hG.set o0 (mk_207 ko0 ⟨a_2, 0, a_4, a_5, a_6, a_7, v_8, a_9, a_10, a_11, a_12, a_13, v_14, a_15, a_16, a_17, rfl, ⟨ma_2, ka_2⟩, (by decide), ⟨ma_4, ka_4⟩, ⟨ma_5, ka_5⟩, ⟨ma_6, ka_6⟩, ⟨ma_7, ka_7⟩, (by constructor <;> omega), ⟨ma_9, ka_9⟩, ⟨ma_10, ka_10⟩, ⟨ma_11, ka_11⟩, ⟨ma_12, ka_12⟩, ⟨ma_13, ka_13⟩, (by constructor <;> omega), ⟨ma_15, ka_15⟩, ⟨ma_16, ka_16⟩, ⟨ma_17, ka_17⟩⟩)
  have hfr0 : ∀ b, kd b ≠ 207 → kd b ≠ 209 → kd b ≠ 213 → kd b ≠ 566 → kd b ≠ 567 → kd b ≠ 568 → kd b ≠ 570 → kd b ≠ 571 → kd b ≠ 572 → f_24 b = f b := fun b q207 q209 q213 q566 q567 q568 q570 q571 q572 => (congrFun ef_24 b).trans ((up_ne (fun e9 => q207 (by rw [e9]; exact ko0))).trans (hfr0 b q207 q209 q213 q566 q567 q568 q570 q571 q572))
  have hfo_25 : f_24 o0 = .inr (7, [.ref a_2, .int 0, .ref a_4, .ref a_5, .ref a_6, .ref a_7, .int v_8, .ref a_9, .ref a_10, .ref a_11, .ref a_12, .ref a_13, .int v_14, .ref a_15, .ref a_16, .ref a_17]) := by rw [ef_24]; exact up_self
  refine lv_aload_n hx hb dX7_clear_13 rfl (lv_at hl 0 rfl) ?_
  refine tk_getP (D := (dC, dI)) (ci := 7) (v := .ref a_4) (C := RX7) (T := TX7) (N := 16) hx hb hU inlX7 hown hK hP mo0 hfo_25 rfl 2 (by decide) (hU _ wd_73) (fun _ h9 => h9) rfl dX7_clear_14 ?_
  refine lv_iconst (v := 0) hx hb dX7_clear_17 (by decide) ?_
  refine tk_SvP (As := [.ref a_4, .int 0]) (rest := []) (n := 2) hx hb hml hown hU hN hZ (s_J7_fill_53178_a567 l (dC, dI) cI cL cZ cR cG cH Z kd L f_24 hG a_4 ma_4 ka_4 0 (by decide)) wd_265 wd_266 wd_267 wd_268 (by decide +kernel) ⟨Nat.le_of_ble_eq_true rfl, Nat.le_of_ble_eq_true rfl⟩ hK hP hD hS rfl hl.1 rfl (Nat.le_of_ble_eq_true rfl) dX7_clear_18 ⟨Nat.le_of_ble_eq_true rfl, Nat.le_of_ble_eq_true rfl⟩ (fun f_27 H locs hw hP hD hS => ?_)
  obtain ⟨hG, hkc_28⟩ := hw
  have hfo_30 : f_27 o0 = .inr (7, [.ref a_2, .int 0, .ref a_4, .ref a_5, .ref a_6, .ref a_7, .int v_8, .ref a_9, .ref a_10, .ref a_11, .ref a_12, .ref a_13, .int v_14, .ref a_15, .ref a_16, .ref a_17]) := by rw [hkc_28 o0 (by rw [ko0]; decide)]; exact hfo_25
  have hfr0 : ∀ b, kd b ≠ 207 → kd b ≠ 209 → kd b ≠ 213 → kd b ≠ 566 → kd b ≠ 567 → kd b ≠ 568 → kd b ≠ 570 → kd b ≠ 571 → kd b ≠ 572 → f_27 b = f b := fun b q207 q209 q213 q566 q567 q568 q570 q571 q572 => (hkc_28 b q567).trans (hfr0 b q207 q209 q213 q566 q567 q568 q570 q571 q572)
  refine lv_aload_n hx hb dX7_clear_21 rfl (lv_at hl 0 rfl) ?_
  refine tk_getP (D := (dC, dI)) (ci := 7) (v := .ref a_5) (C := RX7) (T := TX7) (N := 16) hx hb hU inlX7 hown hK hP mo0 hfo_30 rfl 3 (by decide) (hU _ wd_74) (fun _ h9 => h9) rfl dX7_clear_22 ?_
  refine lv_iconst (v := 0) hx hb dX7_clear_25 (by decide) ?_
  refine tk_SvP (As := [.ref a_5, .int 0]) (rest := []) (n := 2) hx hb hml hown hU hN hZ (s_J7_fill_53178_a568 l (dC, dI) cI cL cZ cR cG cH Z kd L f_27 hG a_5 ma_5 ka_5 0 (by decide)) wd_265 wd_266 wd_267 wd_268 (by decide +kernel) ⟨Nat.le_of_ble_eq_true rfl, Nat.le_of_ble_eq_true rfl⟩ hK hP hD hS rfl hl.1 rfl (Nat.le_of_ble_eq_true rfl) dX7_clear_26 ⟨Nat.le_of_ble_eq_true rfl, Nat.le_of_ble_eq_true rfl⟩ (fun f_32 H locs hw hP hD hS => ?_)
  obtain ⟨hG, hkc_33⟩ := hw
  have hfo_35 : f_32 o0 = .inr (7, [.ref a_2, .int 0, .ref a_4, .ref a_5, .ref a_6, .ref a_7, .int v_8, .ref a_9, .ref a_10, .ref a_11, .ref a_12, .ref a_13, .int v_14, .ref a_15, .ref a_16, .ref a_17]) := by rw [hkc_33 o0 (by rw [ko0]; decide)]; exact hfo_30
  have hfr0 : ∀ b, kd b ≠ 207 → kd b ≠ 209 → kd b ≠ 213 → kd b ≠ 566 → kd b ≠ 567 → kd b ≠ 568 → kd b ≠ 570 → kd b ≠ 571 → kd b ≠ 572 → f_32 b = f b := fun b q207 q209 q213 q566 q567 q568 q570 q571 q572 => (hkc_33 b q568).trans (hfr0 b q207 q209 q213 q566 q567 q568 q570 q571 q572)
  refine lv_aload_n hx hb dX7_clear_29 rfl (lv_at hl 0 rfl) ?_
  refine lv_iconst (v := 0) hx hb dX7_clear_30 (by decide) ?_
  refine tk_putP (D := (dC, dI)) (ci := 7) (v := .int 0) (ty := .int) (C := RX7) (T := TX7) (N := 16) hx hb hU inlX7 tyX7 tyX7_ok nmX7 hown hK hP hD hS mo0 hfo_35 rfl 6 (by decide) (hU _ wd_263) (fun _ h9 => h9) rfl (by decide +kernel) rfl rfl (Nat.le_of_ble_eq_true rfl) dX7_clear_31 (fun H locs hP hD hS => ?_)
  obtain ⟨f_37, ef_37⟩ : ∃ y : Nat → va_E, y = va_up f_32 o0 (.inr (7, [.ref a_2, .int 0, .ref a_4, .ref a_5, .ref a_6, .ref a_7, .int 0, .ref a_9, .ref a_10, .ref a_11, .ref a_12, .ref a_13, .int v_14, .ref a_15, .ref a_16, .ref a_17])) := ⟨_, rfl⟩
  have hP : va_P (dC, dI) vwCl (va_pl L f_37) H := by rw [ef_37]; exact hP
  have hD : va_D (fun q => q ∈ L) (va_pl L f_37) := by rw [ef_37]; exact hD
  have hG : GI (okc cI cL cZ cR cG cH L kd) kd L f_37 := by rw [ef_37]; exact hG.set o0 (mk_207 ko0 ⟨a_2, 0, a_4, a_5, a_6, a_7, 0, a_9, a_10, a_11, a_12, a_13, v_14, a_15, a_16, a_17, rfl, ⟨ma_2, ka_2⟩, (by decide), ⟨ma_4, ka_4⟩, ⟨ma_5, ka_5⟩, ⟨ma_6, ka_6⟩, ⟨ma_7, ka_7⟩, (by decide), ⟨ma_9, ka_9⟩, ⟨ma_10, ka_10⟩, ⟨ma_11, ka_11⟩, ⟨ma_12, ka_12⟩, ⟨ma_13, ka_13⟩, (by constructor <;> omega), ⟨ma_15, ka_15⟩, ⟨ma_16, ka_16⟩, ⟨ma_17, ka_17⟩⟩)
  have hfr0 : ∀ b, kd b ≠ 207 → kd b ≠ 209 → kd b ≠ 213 → kd b ≠ 566 → kd b ≠ 567 → kd b ≠ 568 → kd b ≠ 570 → kd b ≠ 571 → kd b ≠ 572 → f_37 b = f b := fun b q207 q209 q213 q566 q567 q568 q570 q571 q572 => (congrFun ef_37 b).trans ((up_ne (fun e9 => q207 (by rw [e9]; exact ko0))).trans (hfr0 b q207 q209 q213 q566 q567 q568 q570 q571 q572))
  have hfo_38 : f_37 o0 = .inr (7, [.ref a_2, .int 0, .ref a_4, .ref a_5, .ref a_6, .ref a_7, .int 0, .ref a_9, .ref a_10, .ref a_11, .ref a_12, .ref a_13, .int v_14, .ref a_15, .ref a_16, .ref a_17]) := by rw [ef_37]; exact up_self
  refine lv_aload_n hx hb dX7_clear_34 rfl (lv_at hl 0 rfl) ?_
  refine tk_getP (D := (dC, dI)) (ci := 7) (v := .ref a_9) (C := RX7) (T := TX7) (N := 16) hx hb hU inlX7 hown hK hP mo0 hfo_38 rfl 7 (by decide) (hU _ wd_77) (fun _ h9 => h9) rfl dX7_clear_35 ?_
  refine lv_iconst (v := 0) hx hb dX7_clear_38 (by decide) ?_
  refine tk_SvP (As := [.ref a_9, .int 0]) (rest := []) (n := 2) hx hb hml hown hU hN hZ (s_J7_fill_53178_a570 l (dC, dI) cI cL cZ cR cG cH Z kd L f_37 hG a_9 ma_9 ka_9 0 (by decide)) wd_265 wd_266 wd_267 wd_268 (by decide +kernel) ⟨Nat.le_of_ble_eq_true rfl, Nat.le_of_ble_eq_true rfl⟩ hK hP hD hS rfl hl.1 rfl (Nat.le_of_ble_eq_true rfl) dX7_clear_39 ⟨Nat.le_of_ble_eq_true rfl, Nat.le_of_ble_eq_true rfl⟩ (fun f_40 H locs hw hP hD hS => ?_)
  obtain ⟨hG, hkc_41⟩ := hw
  have hfo_43 : f_40 o0 = .inr (7, [.ref a_2, .int 0, .ref a_4, .ref a_5, .ref a_6, .ref a_7, .int 0, .ref a_9, .ref a_10, .ref a_11, .ref a_12, .ref a_13, .int v_14, .ref a_15, .ref a_16, .ref a_17]) := by rw [hkc_41 o0 (by rw [ko0]; decide)]; exact hfo_38
  have hfr0 : ∀ b, kd b ≠ 207 → kd b ≠ 209 → kd b ≠ 213 → kd b ≠ 566 → kd b ≠ 567 → kd b ≠ 568 → kd b ≠ 570 → kd b ≠ 571 → kd b ≠ 572 → f_40 b = f b := fun b q207 q209 q213 q566 q567 q568 q570 q571 q572 => (hkc_41 b q570).trans (hfr0 b q207 q209 q213 q566 q567 q568 q570 q571 q572)
  refine lv_aload_n hx hb dX7_clear_42 rfl (lv_at hl 0 rfl) ?_
  refine tk_getP (D := (dC, dI)) (ci := 7) (v := .ref a_10) (C := RX7) (T := TX7) (N := 16) hx hb hU inlX7 hown hK hP mo0 hfo_43 rfl 8 (by decide) (hU _ wd_78) (fun _ h9 => h9) rfl dX7_clear_43 ?_
  refine lv_iconst (v := 0) hx hb dX7_clear_46 (by decide) ?_
  refine tk_SvP (As := [.ref a_10, .int 0]) (rest := []) (n := 2) hx hb hml hown hU hN hZ (s_J7_fill_53178_a571 l (dC, dI) cI cL cZ cR cG cH Z kd L f_40 hG a_10 ma_10 ka_10 0 (by decide)) wd_265 wd_266 wd_267 wd_268 (by decide +kernel) ⟨Nat.le_of_ble_eq_true rfl, Nat.le_of_ble_eq_true rfl⟩ hK hP hD hS rfl hl.1 rfl (Nat.le_of_ble_eq_true rfl) dX7_clear_47 ⟨Nat.le_of_ble_eq_true rfl, Nat.le_of_ble_eq_true rfl⟩ (fun f_45 H locs hw hP hD hS => ?_)
  obtain ⟨hG, hkc_46⟩ := hw
  have hfo_48 : f_45 o0 = .inr (7, [.ref a_2, .int 0, .ref a_4, .ref a_5, .ref a_6, .ref a_7, .int 0, .ref a_9, .ref a_10, .ref a_11, .ref a_12, .ref a_13, .int v_14, .ref a_15, .ref a_16, .ref a_17]) := by rw [hkc_46 o0 (by rw [ko0]; decide)]; exact hfo_43
  have hfr0 : ∀ b, kd b ≠ 207 → kd b ≠ 209 → kd b ≠ 213 → kd b ≠ 566 → kd b ≠ 567 → kd b ≠ 568 → kd b ≠ 570 → kd b ≠ 571 → kd b ≠ 572 → f_45 b = f b := fun b q207 q209 q213 q566 q567 q568 q570 q571 q572 => (hkc_46 b q571).trans (hfr0 b q207 q209 q213 q566 q567 q568 q570 q571 q572)
  refine lv_aload_n hx hb dX7_clear_50 rfl (lv_at hl 0 rfl) ?_
  refine tk_getP (D := (dC, dI)) (ci := 7) (v := .ref a_11) (C := RX7) (T := TX7) (N := 16) hx hb hU inlX7 hown hK hP mo0 hfo_48 rfl 9 (by decide) (hU _ wd_79) (fun _ h9 => h9) rfl dX7_clear_51 ?_
  refine lv_iconst (v := 0) hx hb dX7_clear_54 (by decide) ?_
  refine tk_SvP (As := [.ref a_11, .int 0]) (rest := []) (n := 2) hx hb hml hown hU hN hZ (s_J7_fill_53178_a572 l (dC, dI) cI cL cZ cR cG cH Z kd L f_45 hG a_11 ma_11 ka_11 0 (by decide)) wd_265 wd_266 wd_267 wd_268 (by decide +kernel) ⟨Nat.le_of_ble_eq_true rfl, Nat.le_of_ble_eq_true rfl⟩ hK hP hD hS rfl hl.1 rfl (Nat.le_of_ble_eq_true rfl) dX7_clear_55 ⟨Nat.le_of_ble_eq_true rfl, Nat.le_of_ble_eq_true rfl⟩ (fun f_50 H locs hw hP hD hS => ?_)
  obtain ⟨hG, hkc_51⟩ := hw
  have hfo_53 : f_50 o0 = .inr (7, [.ref a_2, .int 0, .ref a_4, .ref a_5, .ref a_6, .ref a_7, .int 0, .ref a_9, .ref a_10, .ref a_11, .ref a_12, .ref a_13, .int v_14, .ref a_15, .ref a_16, .ref a_17]) := by rw [hkc_51 o0 (by rw [ko0]; decide)]; exact hfo_48
  have hfr0 : ∀ b, kd b ≠ 207 → kd b ≠ 209 → kd b ≠ 213 → kd b ≠ 566 → kd b ≠ 567 → kd b ≠ 568 → kd b ≠ 570 → kd b ≠ 571 → kd b ≠ 572 → f_50 b = f b := fun b q207 q209 q213 q566 q567 q568 q570 q571 q572 => (hkc_51 b q572).trans (hfr0 b q207 q209 q213 q566 q567 q568 q570 q571 q572)
  refine lv_aload_n hx hb dX7_clear_58 rfl (lv_at hl 0 rfl) ?_
  refine tk_getP (D := (dC, dI)) (ci := 7) (v := .ref a_12) (C := RX7) (T := TX7) (N := 16) hx hb hU inlX7 hown hK hP mo0 hfo_53 rfl 10 (by decide) (hU _ wd_80) (fun _ h9 => h9) rfl dX7_clear_59 ?_
  refine lv_iconst (v := 0) hx hb dX7_clear_62 (by decide) ?_
  refine tk_SvP (As := [.ref a_12, .int 0]) (rest := []) (n := 2) hx hb hml hown hU hN hZ (s_J7_fill_53178_a572 l (dC, dI) cI cL cZ cR cG cH Z kd L f_50 hG a_12 ma_12 ka_12 0 (by decide)) wd_265 wd_266 wd_267 wd_268 (by decide +kernel) ⟨Nat.le_of_ble_eq_true rfl, Nat.le_of_ble_eq_true rfl⟩ hK hP hD hS rfl hl.1 rfl (Nat.le_of_ble_eq_true rfl) dX7_clear_63 ⟨Nat.le_of_ble_eq_true rfl, Nat.le_of_ble_eq_true rfl⟩ (fun f_55 H locs hw hP hD hS => ?_)
  obtain ⟨hG, hkc_56⟩ := hw
  have hfo_58 : f_55 o0 = .inr (7, [.ref a_2, .int 0, .ref a_4, .ref a_5, .ref a_6, .ref a_7, .int 0, .ref a_9, .ref a_10, .ref a_11, .ref a_12, .ref a_13, .int v_14, .ref a_15, .ref a_16, .ref a_17]) := by rw [hkc_56 o0 (by rw [ko0]; decide)]; exact hfo_53
  have hfr0 : ∀ b, kd b ≠ 207 → kd b ≠ 209 → kd b ≠ 213 → kd b ≠ 566 → kd b ≠ 567 → kd b ≠ 568 → kd b ≠ 570 → kd b ≠ 571 → kd b ≠ 572 → f_55 b = f b := fun b q207 q209 q213 q566 q567 q568 q570 q571 q572 => (hkc_56 b q572).trans (hfr0 b q207 q209 q213 q566 q567 q568 q570 q571 q572)
  refine lv_aload_n hx hb dX7_clear_66 rfl (lv_at hl 0 rfl) ?_
  refine lv_iconst (v := 0) hx hb dX7_clear_67 (by decide) ?_
  refine tk_putP (D := (dC, dI)) (ci := 7) (v := .int 0) (ty := .int) (C := RX7) (T := TX7) (N := 16) hx hb hU inlX7 tyX7 tyX7_ok nmX7 hown hK hP hD hS mo0 hfo_58 rfl 12 (by decide) (hU _ wd_264) (fun _ h9 => h9) rfl (by decide +kernel) rfl rfl (Nat.le_of_ble_eq_true rfl) dX7_clear_68 (fun H locs hP hD hS => ?_)
  obtain ⟨f_60, ef_60⟩ : ∃ y : Nat → va_E, y = va_up f_55 o0 (.inr (7, [.ref a_2, .int 0, .ref a_4, .ref a_5, .ref a_6, .ref a_7, .int 0, .ref a_9, .ref a_10, .ref a_11, .ref a_12, .ref a_13, .int 0, .ref a_15, .ref a_16, .ref a_17])) := ⟨_, rfl⟩
  have hP : va_P (dC, dI) vwCl (va_pl L f_60) H := by rw [ef_60]; exact hP
  have hD : va_D (fun q => q ∈ L) (va_pl L f_60) := by rw [ef_60]; exact hD
  have hG : GI (okc cI cL cZ cR cG cH L kd) kd L f_60 := by rw [ef_60]; exact hG.set o0 (mk_207 ko0 ⟨a_2, 0, a_4, a_5, a_6, a_7, 0, a_9, a_10, a_11, a_12, a_13, 0, a_15, a_16, a_17, rfl, ⟨ma_2, ka_2⟩, (by decide), ⟨ma_4, ka_4⟩, ⟨ma_5, ka_5⟩, ⟨ma_6, ka_6⟩, ⟨ma_7, ka_7⟩, (by decide), ⟨ma_9, ka_9⟩, ⟨ma_10, ka_10⟩, ⟨ma_11, ka_11⟩, ⟨ma_12, ka_12⟩, ⟨ma_13, ka_13⟩, (by decide), ⟨ma_15, ka_15⟩, ⟨ma_16, ka_16⟩, ⟨ma_17, ka_17⟩⟩)
  have hfr0 : ∀ b, kd b ≠ 207 → kd b ≠ 209 → kd b ≠ 213 → kd b ≠ 566 → kd b ≠ 567 → kd b ≠ 568 → kd b ≠ 570 → kd b ≠ 571 → kd b ≠ 572 → f_60 b = f b := fun b q207 q209 q213 q566 q567 q568 q570 q571 q572 => (congrFun ef_60 b).trans ((up_ne (fun e9 => q207 (by rw [e9]; exact ko0))).trans (hfr0 b q207 q209 q213 q566 q567 q568 q570 q571 q572))
  have hfo_61 : f_60 o0 = .inr (7, [.ref a_2, .int 0, .ref a_4, .ref a_5, .ref a_6, .ref a_7, .int 0, .ref a_9, .ref a_10, .ref a_11, .ref a_12, .ref a_13, .int 0, .ref a_15, .ref a_16, .ref a_17]) := by rw [ef_60]; exact up_self
  refine lv_aload_n hx hb dX7_clear_71 rfl (lv_at hl 0 rfl) ?_
  refine tk_getP (D := (dC, dI)) (ci := 7) (v := .ref a_15) (C := RX7) (T := TX7) (N := 16) hx hb hU inlX7 hown hK hP mo0 hfo_61 rfl 13 (by decide) (hU _ wd_86) (fun _ h9 => h9) rfl dX7_clear_72 ?_
  obtain ⟨a_63, a_64, v_65, hfo_62, ⟨ma_63, ka_63⟩, ⟨ma_64, ka_64⟩, bv_65⟩ := un_209 (hG _ ma_15) ka_15
  refine tk_VvP (As := []) (rest := []) (n := 0) hx hb hml hown hU hN hZ (s_X9_clear_k209 l (dC, dI) cI cL cZ cR cG cH Z kd L f_60 hG a_15 ma_15 ka_15) wd_269 wd_270 wd_271 wd_85 wd_272 (by decide +kernel) ⟨Nat.le_of_ble_eq_true rfl, Nat.le_of_ble_eq_true rfl⟩ hK hP hD hS ma_15 hfo_62 9 rfl rfl rfl hl.1 rfl (Nat.le_of_ble_eq_true rfl) dX7_clear_75 ⟨Nat.le_of_ble_eq_true rfl, Nat.le_of_ble_eq_true rfl⟩ (fun f_67 H locs hw hP hD hS => ?_)
  obtain ⟨hG, hkc_68⟩ := hw
  have hfo_70 : f_67 o0 = .inr (7, [.ref a_2, .int 0, .ref a_4, .ref a_5, .ref a_6, .ref a_7, .int 0, .ref a_9, .ref a_10, .ref a_11, .ref a_12, .ref a_13, .int 0, .ref a_15, .ref a_16, .ref a_17]) := by rw [hkc_68 o0 (by rw [ko0]; decide)]; exact hfo_61
  have hfr0 : ∀ b, kd b ≠ 207 → kd b ≠ 209 → kd b ≠ 213 → kd b ≠ 566 → kd b ≠ 567 → kd b ≠ 568 → kd b ≠ 570 → kd b ≠ 571 → kd b ≠ 572 → f_67 b = f b := fun b q207 q209 q213 q566 q567 q568 q570 q571 q572 => (hkc_68 b q209).trans (hfr0 b q207 q209 q213 q566 q567 q568 q570 q571 q572)
  refine lv_aload_n hx hb dX7_clear_78 rfl (lv_at hl 0 rfl) ?_
  refine tk_getP (D := (dC, dI)) (ci := 7) (v := .ref a_16) (C := RX7) (T := TX7) (N := 16) hx hb hU inlX7 hown hK hP mo0 hfo_70 rfl 14 (by decide) (hU _ wd_87) (fun _ h9 => h9) rfl dX7_clear_79 ?_
  obtain ⟨a_72, a_73, v_74, hfo_71, ⟨ma_72, ka_72⟩, ⟨ma_73, ka_73⟩, bv_74⟩ := un_213 (hG _ ma_16) ka_16
  refine tk_VvP (As := []) (rest := []) (n := 0) hx hb hml hown hU hN hZ (s_X9_clear_k213 l (dC, dI) cI cL cZ cR cG cH Z kd L f_67 hG a_16 ma_16 ka_16) wd_269 wd_270 wd_271 wd_85 wd_272 (by decide +kernel) ⟨Nat.le_of_ble_eq_true rfl, Nat.le_of_ble_eq_true rfl⟩ hK hP hD hS ma_16 hfo_71 9 rfl rfl rfl hl.1 rfl (Nat.le_of_ble_eq_true rfl) dX7_clear_82 ⟨Nat.le_of_ble_eq_true rfl, Nat.le_of_ble_eq_true rfl⟩ (fun f_76 H locs hw hP hD hS => ?_)
  obtain ⟨hG, hkc_77⟩ := hw
  have hfo_79 : f_76 o0 = .inr (7, [.ref a_2, .int 0, .ref a_4, .ref a_5, .ref a_6, .ref a_7, .int 0, .ref a_9, .ref a_10, .ref a_11, .ref a_12, .ref a_13, .int 0, .ref a_15, .ref a_16, .ref a_17]) := by rw [hkc_77 o0 (by rw [ko0]; decide)]; exact hfo_70
  have hfr0 : ∀ b, kd b ≠ 207 → kd b ≠ 209 → kd b ≠ 213 → kd b ≠ 566 → kd b ≠ 567 → kd b ≠ 568 → kd b ≠ 570 → kd b ≠ 571 → kd b ≠ 572 → f_76 b = f b := fun b q207 q209 q213 q566 q567 q568 q570 q571 q572 => (hkc_77 b q213).trans (hfr0 b q207 q209 q213 q566 q567 q568 q570 q571 q572)
  exact W.vret hx hb hr (fun t ht hW => ⟨⟨f_76, rfl, ⟨hG, hfr0⟩, by rw [ht]; exact hP, va_K.moved hW.alike hK, pl_in hD⟩, hS.F ht⟩) hS.2.2 dX7_clear_85
set_option maxHeartbeats 8000000 in
set_option maxRecDepth 100000 in
theorem s_X7_copyFrom_k7_k207 (l : Launch) (D : va_G) (cI cL cZ cR cG cH : ClassId) (Z : zT) (kd : Nat → Nat) (L : List Nat) (f : Nat → va_E) (hG : GI (okc cI cL cZ cR cG cH L kd) kd L f) (o0 : Nat) (mo0 : o0 ∈ L) (ko0 : kd o0 = 7) (o1 : Nat) (mo1 : o1 ∈ L) (ko1 : kd o1 = 207) : mPV l D cI cL cZ cR cG cH Z yX7_copyFrom cX7_copyFrom 3 none 3 82 [.ref o0, .ref o1] L f (fun (f9 : Nat → va_E) => GI (okc cI cL cZ cR cG cH L kd) kd L f9 ∧ (∀ b, kd b ≠ 4 → kd b ≠ 5 → kd b ≠ 7 → kd b ≠ 9 → kd b ≠ 13 → kd b ≠ 500 → kd b ≠ 501 → kd b ≠ 502 → kd b ≠ 503 → kd b ≠ 504 → kd b ≠ 505 → kd b ≠ 506 → kd b ≠ 507 → kd b ≠ 508 → kd b ≠ 509 → kd b ≠ 510 → kd b ≠ 511 → kd b ≠ 514 → f9 b = f b)) := by
  obtain ⟨dC, dI⟩ := D
  refine Met.ofW (cc := cX7_copyFrom) (maxL := 3) (ret := none) (by decide) rfl ?_
  intro p e s m args below meth c s₁ B hml hv
  obtain ⟨rfl, hP, hK, hD0, hN, hZ⟩ := hv
  have hx := B.exec
  have hb := B.bytes
  have hr := B.returns
  have hU : ∀ w ∈ wsU, w.before _ s = true := fun w h => atoms_spec (ws := wU yX7_copyFrom cX7_copyFrom 3 none) B.pre w (List.mem_cons_of_mem _ h)
  have hown : s.vm.findClass RX7 = some m.cls := findClass_of_methodNamed B.named
  have hlocks := B.notSynchronized
  have hD := pl_in hD0
  have hS : va_S (fun q => q ∈ L) s.heap s.heap [] := va_S.rf
  have hl := lv_entry ([.ref o0, .ref o1]) (n := 3) (Nat.le_of_ble_eq_true rfl)
  rw [lg_entry_eq]
  generalize (lg_sl ([.ref o0, .ref o1]) ++ List.replicate (3 - (lg_sl ([.ref o0, .ref o1])).length) Slot.unset).toArray = ls at hl ⊢
  have hl : lv_has ls 3 [(0, .ref o0), (1, .ref o1)] := hl
  have hfr0 : ∀ b, kd b ≠ 4 → kd b ≠ 5 → kd b ≠ 7 → kd b ≠ 9 → kd b ≠ 13 → kd b ≠ 500 → kd b ≠ 501 → kd b ≠ 502 → kd b ≠ 503 → kd b ≠ 504 → kd b ≠ 505 → kd b ≠ 506 → kd b ≠ 507 → kd b ≠ 508 → kd b ≠ 509 → kd b ≠ 510 → kd b ≠ 511 → kd b ≠ 514 → f b = f b := fun _ _ _ _ _ _ _ _ _ _ _ _ _ _ _ _ _ _ _ => rfl
  refine lv_aload_n hx hb dX7_copyFrom_0 rfl (lv_at hl 1 rfl) ?_
  obtain ⟨a_2, v_3, a_4, a_5, a_6, a_7, v_8, a_9, a_10, a_11, a_12, a_13, v_14, a_15, a_16, a_17, hfo_1, ⟨ma_2, ka_2⟩, bv_3, ⟨ma_4, ka_4⟩, ⟨ma_5, ka_5⟩, ⟨ma_6, ka_6⟩, ⟨ma_7, ka_7⟩, bv_8, ⟨ma_9, ka_9⟩, ⟨ma_10, ka_10⟩, ⟨ma_11, ka_11⟩, ⟨ma_12, ka_12⟩, ⟨ma_13, ka_13⟩, bv_14, ⟨ma_15, ka_15⟩, ⟨ma_16, ka_16⟩, ⟨ma_17, ka_17⟩⟩ := un_207 (hG _ mo1) ko1
  refine tk_getP (D := (dC, dI)) (ci := 7) (v := .ref a_2) (C := RX7) (T := TX7) (N := 16) hx hb hU inlX7 hown hK hP mo1 hfo_1 rfl 0 (by decide) (hU _ wd_72) (fun _ h9 => h9) rfl dX7_copyFrom_1 ?_
  refine lv_iconst (v := 0) hx hb dX7_copyFrom_4 (by decide) ?_
  refine lv_aload_n hx hb dX7_copyFrom_5 rfl (lv_at hl 0 rfl) ?_
  obtain ⟨a_19, v_20, a_21, a_22, a_23, a_24, v_25, a_26, a_27, a_28, a_29, a_30, v_31, a_32, a_33, a_34, hfo_18, ⟨ma_19, ka_19⟩, bv_20, ⟨ma_21, ka_21⟩, ⟨ma_22, ka_22⟩, ⟨ma_23, ka_23⟩, ⟨ma_24, ka_24⟩, bv_25, ⟨ma_26, ka_26⟩, ⟨ma_27, ka_27⟩, ⟨ma_28, ka_28⟩, ⟨ma_29, ka_29⟩, ⟨ma_30, ka_30⟩, bv_31, ⟨ma_32, ka_32⟩, ⟨ma_33, ka_33⟩, ⟨ma_34, ka_34⟩⟩ := un_7 (hG _ mo0) ko0
  refine tk_getP (D := (dC, dI)) (ci := 7) (v := .ref a_19) (C := RX7) (T := TX7) (N := 16) hx hb hU inlX7 hown hK hP mo0 hfo_18 rfl 0 (by decide) (hU _ wd_72) (fun _ h9 => h9) rfl dX7_copyFrom_6 ?_
  refine lv_iconst (v := 0) hx hb dX7_copyFrom_9 (by decide) ?_
  refine lv_aload_n hx hb dX7_copyFrom_10 rfl (lv_at hl 0 rfl) ?_
  refine tk_getP (D := (dC, dI)) (ci := 7) (v := .ref a_19) (C := RX7) (T := TX7) (N := 16) hx hb hU inlX7 hown hK hP mo0 hfo_18 rfl 0 (by decide) (hU _ wd_72) (fun _ h9 => h9) rfl dX7_copyFrom_11 ?_
  obtain ⟨g_36, hfo_35, hbg_36⟩ := un_508 (hG _ ma_19) ka_19
  refine tk_alenP (v := 26) hx hb hK hP 0 ma_19 hfo_35 rfl rfl dX7_copyFrom_14 ?_
  obtain ⟨g_38, hfo_37, hbg_38⟩ := un_566 (hG _ ma_2) ka_2
  refine tk_copyP hx hb (by rw [hml]; exact hl.1.symm) hown (hU _ wd_534) (hU _ wd_253) (hU _ wd_254) (hU _ wd_255) hK hP hD hS 0 ma_2 ma_19 hfo_37 hfo_35 rfl (by decide) (by decide) (by decide) (by decide) (by decide) (Nat.le_of_ble_eq_true rfl) (Nat.le_of_ble_eq_true rfl) dX7_copyFrom_15 (fun H locs hP hD hS => ?_)
  obtain ⟨f_40, ef_40⟩ : ∃ y : Nat → va_E, y = va_up f a_19 (.inl (cI, 26, .inl (va_cpy g_38 g_36 (Int32.toNatClampNeg 0) (Int32.toNatClampNeg 0) (Int32.toNatClampNeg 26)))) := ⟨_, rfl⟩
  have hP : va_P (dC, dI) vwCl (va_pl L f_40) H := by rw [ef_40]; exact hP
  have hD : va_D (fun q => q ∈ L) (va_pl L f_40) := by rw [ef_40]; exact hD
  have hG : GI (okc cI cL cZ cR cG cH L kd) kd L f_40 := by rw [ef_40]; exact hG.set a_19 (mk_508 ka_19 ⟨_, rfl, okI_cpy (fun j => by have := hbg_38 j; constructor <;> omega) hbg_36 _ _ _⟩)
  have hfo_41 : f_40 o1 = .inr (7, [.ref a_2, .int v_3, .ref a_4, .ref a_5, .ref a_6, .ref a_7, .int v_8, .ref a_9, .ref a_10, .ref a_11, .ref a_12, .ref a_13, .int v_14, .ref a_15, .ref a_16, .ref a_17]) := by rw [ef_40, up_ne (kd_ne ka_19 ko1 (by decide))]; exact hfo_1
  have hfo_42 : f_40 o0 = .inr (7, [.ref a_19, .int v_20, .ref a_21, .ref a_22, .ref a_23, .ref a_24, .int v_25, .ref a_26, .ref a_27, .ref a_28, .ref a_29, .ref a_30, .int v_31, .ref a_32, .ref a_33, .ref a_34]) := by rw [ef_40, up_ne (kd_ne ka_19 ko0 (by decide))]; exact hfo_18
  have hfo_43 : f_40 a_2 = .inl (cI, 26, .inl g_38) := by rw [ef_40, up_ne (kd_ne ka_19 ka_2 (by decide))]; exact hfo_37
  have hfr0 : ∀ b, kd b ≠ 4 → kd b ≠ 5 → kd b ≠ 7 → kd b ≠ 9 → kd b ≠ 13 → kd b ≠ 500 → kd b ≠ 501 → kd b ≠ 502 → kd b ≠ 503 → kd b ≠ 504 → kd b ≠ 505 → kd b ≠ 506 → kd b ≠ 507 → kd b ≠ 508 → kd b ≠ 509 → kd b ≠ 510 → kd b ≠ 511 → kd b ≠ 514 → f_40 b = f b := fun b q4 q5 q7 q9 q13 q500 q501 q502 q503 q504 q505 q506 q507 q508 q509 q510 q511 q514 => (congrFun ef_40 b).trans ((up_ne (fun e9 => q508 (by rw [e9]; exact ka_19))).trans (hfr0 b q4 q5 q7 q9 q13 q500 q501 q502 q503 q504 q505 q506 q507 q508 q509 q510 q511 q514))
  have hfo_44 : f_40 a_19 = .inl (cI, 26, .inl (va_cpy g_38 g_36 (Int32.toNatClampNeg 0) (Int32.toNatClampNeg 0) (Int32.toNatClampNeg 26))) := by rw [ef_40]; exact up_self
  refine lv_aload_n hx hb dX7_copyFrom_18 rfl (lv_at hl 0 rfl) ?_
  refine lv_aload_n hx hb dX7_copyFrom_19 rfl (lv_at hl 1 rfl) ?_
  refine tk_getP (D := (dC, dI)) (ci := 7) (v := .int v_3) (C := RX7) (T := TX7) (N := 16) hx hb hU inlX7 hown hK hP mo1 hfo_41 rfl 1 (by decide) (hU _ wd_262) (fun _ h9 => h9) rfl dX7_copyFrom_20 ?_
  refine tk_putP (D := (dC, dI)) (ci := 7) (v := .int v_3) (ty := .int) (C := RX7) (T := TX7) (N := 16) hx hb hU inlX7 tyX7 tyX7_ok nmX7 hown hK hP hD hS mo0 hfo_42 rfl 1 (by decide) (hU _ wd_262) (fun _ h9 => h9) rfl (by decide +kernel) rfl rfl (Nat.le_of_ble_eq_true rfl) dX7_copyFrom_23 (fun H locs hP hD hS => ?_)
  obtain ⟨f_46, ef_46⟩ : ∃ y : Nat → va_E, y = va_up f_40 o0 (.inr (7, [.ref a_19, .int v_3, .ref a_21, .ref a_22, .ref a_23, .ref a_24, .int v_25, .ref a_26, .ref a_27, .ref a_28, .ref a_29, .ref a_30, .int v_31, .ref a_32, .ref a_33, .ref a_34])) := ⟨_, rfl⟩
  have hP : va_P (dC, dI) vwCl (va_pl L f_46) H := by rw [ef_46]; exact hP
  have hD : va_D (fun q => q ∈ L) (va_pl L f_46) := by rw [ef_46]; exact hD
  have hG : GI (okc cI cL cZ cR cG cH L kd) kd L f_46 := by rw [ef_46]; exact hG.set o0 (mk_7 ko0 ⟨a_19, v_3, a_21, a_22, a_23, a_24, v_25, a_26, a_27, a_28, a_29, a_30, v_31, a_32, a_33, a_34, rfl, ⟨ma_19, ka_19⟩, (by constructor <;> omega), ⟨ma_21, ka_21⟩, ⟨ma_22, ka_22⟩, ⟨ma_23, ka_23⟩, ⟨ma_24, ka_24⟩, (by constructor <;> omega), ⟨ma_26, ka_26⟩, ⟨ma_27, ka_27⟩, ⟨ma_28, ka_28⟩, ⟨ma_29, ka_29⟩, ⟨ma_30, ka_30⟩, (by constructor <;> omega), ⟨ma_32, ka_32⟩, ⟨ma_33, ka_33⟩, ⟨ma_34, ka_34⟩⟩)
  have hfo_47 : f_46 o1 = .inr (7, [.ref a_2, .int v_3, .ref a_4, .ref a_5, .ref a_6, .ref a_7, .int v_8, .ref a_9, .ref a_10, .ref a_11, .ref a_12, .ref a_13, .int v_14, .ref a_15, .ref a_16, .ref a_17]) := by rw [ef_46, up_ne (kd_ne ko0 ko1 (by decide))]; exact hfo_41
  have hfo_48 : f_46 a_2 = .inl (cI, 26, .inl g_38) := by rw [ef_46, up_ne (kd_ne ko0 ka_2 (by decide))]; exact hfo_43
  have hfr0 : ∀ b, kd b ≠ 4 → kd b ≠ 5 → kd b ≠ 7 → kd b ≠ 9 → kd b ≠ 13 → kd b ≠ 500 → kd b ≠ 501 → kd b ≠ 502 → kd b ≠ 503 → kd b ≠ 504 → kd b ≠ 505 → kd b ≠ 506 → kd b ≠ 507 → kd b ≠ 508 → kd b ≠ 509 → kd b ≠ 510 → kd b ≠ 511 → kd b ≠ 514 → f_46 b = f b := fun b q4 q5 q7 q9 q13 q500 q501 q502 q503 q504 q505 q506 q507 q508 q509 q510 q511 q514 => (congrFun ef_46 b).trans ((up_ne (fun e9 => q7 (by rw [e9]; exact ko0))).trans (hfr0 b q4 q5 q7 q9 q13 q500 q501 q502 q503 q504 q505 q506 q507 q508 q509 q510 q511 q514))
  have hfo_49 : f_46 o0 = .inr (7, [.ref a_19, .int v_3, .ref a_21, .ref a_22, .ref a_23, .ref a_24, .int v_25, .ref a_26, .ref a_27, .ref a_28, .ref a_29, .ref a_30, .int v_31, .ref a_32, .ref a_33, .ref a_34]) := by rw [ef_46]; exact up_self
  refine lv_aload_n hx hb dX7_copyFrom_26 rfl (lv_at hl 1 rfl) ?_
  refine tk_getP (D := (dC, dI)) (ci := 7) (v := .ref a_4) (C := RX7) (T := TX7) (N := 16) hx hb hU inlX7 hown hK hP mo1 hfo_47 rfl 2 (by decide) (hU _ wd_73) (fun _ h9 => h9) rfl dX7_copyFrom_27 ?_
  refine lv_iconst (v := 0) hx hb dX7_copyFrom_30 (by decide) ?_
  refine lv_aload_n hx hb dX7_copyFrom_31 rfl (lv_at hl 0 rfl) ?_
  refine tk_getP (D := (dC, dI)) (ci := 7) (v := .ref a_21) (C := RX7) (T := TX7) (N := 16) hx hb hU inlX7 hown hK hP mo0 hfo_49 rfl 2 (by decide) (hU _ wd_73) (fun _ h9 => h9) rfl dX7_copyFrom_32 ?_
  refine lv_iconst (v := 0) hx hb dX7_copyFrom_35 (by decide) ?_
  refine lv_aload_n hx hb dX7_copyFrom_36 rfl (lv_at hl 0 rfl) ?_
  refine tk_getP (D := (dC, dI)) (ci := 7) (v := .ref a_21) (C := RX7) (T := TX7) (N := 16) hx hb hU inlX7 hown hK hP mo0 hfo_49 rfl 2 (by decide) (hU _ wd_73) (fun _ h9 => h9) rfl dX7_copyFrom_37 ?_
  obtain ⟨g_51, hfo_50, hbg_51⟩ := un_509 (hG _ ma_21) ka_21
  refine tk_alenP (v := 6) hx hb hK hP 0 ma_21 hfo_50 rfl rfl dX7_copyFrom_40 ?_
  obtain ⟨g_53, hfo_52, hbg_53⟩ := un_567 (hG _ ma_4) ka_4
  refine tk_copyP hx hb (by rw [hml]; exact hl.1.symm) hown (hU _ wd_534) (hU _ wd_253) (hU _ wd_254) (hU _ wd_255) hK hP hD hS 0 ma_4 ma_21 hfo_52 hfo_50 rfl (by decide) (by decide) (by decide) (by decide) (by decide) (Nat.le_of_ble_eq_true rfl) (Nat.le_of_ble_eq_true rfl) dX7_copyFrom_41 (fun H locs hP hD hS => ?_)
  obtain ⟨f_55, ef_55⟩ : ∃ y : Nat → va_E, y = va_up f_46 a_21 (.inl (cI, 6, .inl (va_cpy g_53 g_51 (Int32.toNatClampNeg 0) (Int32.toNatClampNeg 0) (Int32.toNatClampNeg 6)))) := ⟨_, rfl⟩
  have hP : va_P (dC, dI) vwCl (va_pl L f_55) H := by rw [ef_55]; exact hP
  have hD : va_D (fun q => q ∈ L) (va_pl L f_55) := by rw [ef_55]; exact hD
  have hG : GI (okc cI cL cZ cR cG cH L kd) kd L f_55 := by rw [ef_55]; exact hG.set a_21 (mk_509 ka_21 ⟨_, rfl, okI_cpy (fun j => by have := hbg_53 j; constructor <;> omega) hbg_51 _ _ _⟩)
  have hfo_56 : f_55 o1 = .inr (7, [.ref a_2, .int v_3, .ref a_4, .ref a_5, .ref a_6, .ref a_7, .int v_8, .ref a_9, .ref a_10, .ref a_11, .ref a_12, .ref a_13, .int v_14, .ref a_15, .ref a_16, .ref a_17]) := by rw [ef_55, up_ne (kd_ne ka_21 ko1 (by decide))]; exact hfo_47
  have hfo_57 : f_55 a_2 = .inl (cI, 26, .inl g_38) := by rw [ef_55, up_ne (kd_ne ka_21 ka_2 (by decide))]; exact hfo_48
  have hfo_58 : f_55 o0 = .inr (7, [.ref a_19, .int v_3, .ref a_21, .ref a_22, .ref a_23, .ref a_24, .int v_25, .ref a_26, .ref a_27, .ref a_28, .ref a_29, .ref a_30, .int v_31, .ref a_32, .ref a_33, .ref a_34]) := by rw [ef_55, up_ne (kd_ne ka_21 ko0 (by decide))]; exact hfo_49
  have hfo_59 : f_55 a_4 = .inl (cI, 6, .inl g_53) := by rw [ef_55, up_ne (kd_ne ka_21 ka_4 (by decide))]; exact hfo_52
  have hfr0 : ∀ b, kd b ≠ 4 → kd b ≠ 5 → kd b ≠ 7 → kd b ≠ 9 → kd b ≠ 13 → kd b ≠ 500 → kd b ≠ 501 → kd b ≠ 502 → kd b ≠ 503 → kd b ≠ 504 → kd b ≠ 505 → kd b ≠ 506 → kd b ≠ 507 → kd b ≠ 508 → kd b ≠ 509 → kd b ≠ 510 → kd b ≠ 511 → kd b ≠ 514 → f_55 b = f b := fun b q4 q5 q7 q9 q13 q500 q501 q502 q503 q504 q505 q506 q507 q508 q509 q510 q511 q514 => (congrFun ef_55 b).trans ((up_ne (fun e9 => q509 (by rw [e9]; exact ka_21))).trans (hfr0 b q4 q5 q7 q9 q13 q500 q501 q502 q503 q504 q505 q506 q507 q508 q509 q510 q511 q514))
  have hfo_60 : f_55 a_21 = .inl (cI, 6, .inl (va_cpy g_53 g_51 (Int32.toNatClampNeg 0) (Int32.toNatClampNeg 0) (Int32.toNatClampNeg 6))) := by rw [ef_55]; exact up_self
  refine lv_aload_n hx hb dX7_copyFrom_44 rfl (lv_at hl 1 rfl) ?_
  refine tk_getP (D := (dC, dI)) (ci := 7) (v := .ref a_5) (C := RX7) (T := TX7) (N := 16) hx hb hU inlX7 hown hK hP mo1 hfo_56 rfl 3 (by decide) (hU _ wd_74) (fun _ h9 => h9) rfl dX7_copyFrom_45 ?_
  refine lv_iconst (v := 0) hx hb dX7_copyFrom_48 (by decide) ?_
  refine lv_aload_n hx hb dX7_copyFrom_49 rfl (lv_at hl 0 rfl) ?_
  refine tk_getP (D := (dC, dI)) (ci := 7) (v := .ref a_22) (C := RX7) (T := TX7) (N := 16) hx hb hU inlX7 hown hK hP mo0 hfo_58 rfl 3 (by decide) (hU _ wd_74) (fun _ h9 => h9) rfl dX7_copyFrom_50 ?_
  refine lv_iconst (v := 0) hx hb dX7_copyFrom_53 (by decide) ?_
  refine lv_aload_n hx hb dX7_copyFrom_54 rfl (lv_at hl 0 rfl) ?_
  refine tk_getP (D := (dC, dI)) (ci := 7) (v := .ref a_22) (C := RX7) (T := TX7) (N := 16) hx hb hU inlX7 hown hK hP mo0 hfo_58 rfl 3 (by decide) (hU _ wd_74) (fun _ h9 => h9) rfl dX7_copyFrom_55 ?_
  obtain ⟨g_62, hfo_61, hbg_62⟩ := un_510 (hG _ ma_22) ka_22
  refine tk_alenP (v := 81) hx hb hK hP 0 ma_22 hfo_61 rfl rfl dX7_copyFrom_58 ?_
  obtain ⟨g_64, hfo_63, hbg_64⟩ := un_568 (hG _ ma_5) ka_5
  refine tk_copyP hx hb (by rw [hml]; exact hl.1.symm) hown (hU _ wd_534) (hU _ wd_253) (hU _ wd_254) (hU _ wd_255) hK hP hD hS 0 ma_5 ma_22 hfo_63 hfo_61 rfl (by decide) (by decide) (by decide) (by decide) (by decide) (Nat.le_of_ble_eq_true rfl) (Nat.le_of_ble_eq_true rfl) dX7_copyFrom_59 (fun H locs hP hD hS => ?_)
  obtain ⟨f_66, ef_66⟩ : ∃ y : Nat → va_E, y = va_up f_55 a_22 (.inl (cI, 81, .inl (va_cpy g_64 g_62 (Int32.toNatClampNeg 0) (Int32.toNatClampNeg 0) (Int32.toNatClampNeg 81)))) := ⟨_, rfl⟩
  have hP : va_P (dC, dI) vwCl (va_pl L f_66) H := by rw [ef_66]; exact hP
  have hD : va_D (fun q => q ∈ L) (va_pl L f_66) := by rw [ef_66]; exact hD
  have hG : GI (okc cI cL cZ cR cG cH L kd) kd L f_66 := by rw [ef_66]; exact hG.set a_22 (mk_510 ka_22 ⟨_, rfl, okI_cpy (fun j => by have := hbg_64 j; constructor <;> omega) hbg_62 _ _ _⟩)
  have hfo_67 : f_66 o1 = .inr (7, [.ref a_2, .int v_3, .ref a_4, .ref a_5, .ref a_6, .ref a_7, .int v_8, .ref a_9, .ref a_10, .ref a_11, .ref a_12, .ref a_13, .int v_14, .ref a_15, .ref a_16, .ref a_17]) := by rw [ef_66, up_ne (kd_ne ka_22 ko1 (by decide))]; exact hfo_56
  have hfo_68 : f_66 a_2 = .inl (cI, 26, .inl g_38) := by rw [ef_66, up_ne (kd_ne ka_22 ka_2 (by decide))]; exact hfo_57
  have hfo_69 : f_66 o0 = .inr (7, [.ref a_19, .int v_3, .ref a_21, .ref a_22, .ref a_23, .ref a_24, .int v_25, .ref a_26, .ref a_27, .ref a_28, .ref a_29, .ref a_30, .int v_31, .ref a_32, .ref a_33, .ref a_34]) := by rw [ef_66, up_ne (kd_ne ka_22 ko0 (by decide))]; exact hfo_58
  have hfo_70 : f_66 a_4 = .inl (cI, 6, .inl g_53) := by rw [ef_66, up_ne (kd_ne ka_22 ka_4 (by decide))]; exact hfo_59
  have hfo_71 : f_66 a_5 = .inl (cI, 81, .inl g_64) := by rw [ef_66, up_ne (kd_ne ka_22 ka_5 (by decide))]; exact hfo_63
  have hfr0 : ∀ b, kd b ≠ 4 → kd b ≠ 5 → kd b ≠ 7 → kd b ≠ 9 → kd b ≠ 13 → kd b ≠ 500 → kd b ≠ 501 → kd b ≠ 502 → kd b ≠ 503 → kd b ≠ 504 → kd b ≠ 505 → kd b ≠ 506 → kd b ≠ 507 → kd b ≠ 508 → kd b ≠ 509 → kd b ≠ 510 → kd b ≠ 511 → kd b ≠ 514 → f_66 b = f b := fun b q4 q5 q7 q9 q13 q500 q501 q502 q503 q504 q505 q506 q507 q508 q509 q510 q511 q514 => (congrFun ef_66 b).trans ((up_ne (fun e9 => q510 (by rw [e9]; exact ka_22))).trans (hfr0 b q4 q5 q7 q9 q13 q500 q501 q502 q503 q504 q505 q506 q507 q508 q509 q510 q511 q514))
  have hfo_72 : f_66 a_22 = .inl (cI, 81, .inl (va_cpy g_64 g_62 (Int32.toNatClampNeg 0) (Int32.toNatClampNeg 0) (Int32.toNatClampNeg 81))) := by rw [ef_66]; exact up_self
  refine lv_aload_n hx hb dX7_copyFrom_62 rfl (lv_at hl 1 rfl) ?_
  refine tk_getP (D := (dC, dI)) (ci := 7) (v := .ref a_6) (C := RX7) (T := TX7) (N := 16) hx hb hU inlX7 hown hK hP mo1 hfo_67 rfl 4 (by decide) (hU _ wd_75) (fun _ h9 => h9) rfl dX7_copyFrom_63 ?_
  refine lv_iconst (v := 0) hx hb dX7_copyFrom_66 (by decide) ?_
  refine lv_aload_n hx hb dX7_copyFrom_67 rfl (lv_at hl 0 rfl) ?_
  refine tk_getP (D := (dC, dI)) (ci := 7) (v := .ref a_23) (C := RX7) (T := TX7) (N := 16) hx hb hU inlX7 hown hK hP mo0 hfo_69 rfl 4 (by decide) (hU _ wd_75) (fun _ h9 => h9) rfl dX7_copyFrom_68 ?_
  refine lv_iconst (v := 0) hx hb dX7_copyFrom_71 (by decide) ?_
  refine lv_aload_n hx hb dX7_copyFrom_72 rfl (lv_at hl 0 rfl) ?_
  refine tk_getP (D := (dC, dI)) (ci := 7) (v := .ref a_23) (C := RX7) (T := TX7) (N := 16) hx hb hU inlX7 hown hK hP mo0 hfo_69 rfl 4 (by decide) (hU _ wd_75) (fun _ h9 => h9) rfl dX7_copyFrom_73 ?_
  obtain ⟨g_74, hfo_73, hbg_74⟩ := un_511 (hG _ ma_23) ka_23
  refine tk_alenP (v := 20) hx hb hK hP 0 ma_23 hfo_73 rfl rfl dX7_copyFrom_76 ?_
  obtain ⟨g_76, hfo_75, hbg_76⟩ := un_569 (hG _ ma_6) ka_6
  refine tk_copyP hx hb (by rw [hml]; exact hl.1.symm) hown (hU _ wd_534) (hU _ wd_253) (hU _ wd_254) (hU _ wd_255) hK hP hD hS 0 ma_6 ma_23 hfo_75 hfo_73 rfl (by decide) (by decide) (by decide) (by decide) (by decide) (Nat.le_of_ble_eq_true rfl) (Nat.le_of_ble_eq_true rfl) dX7_copyFrom_77 (fun H locs hP hD hS => ?_)
  obtain ⟨f_78, ef_78⟩ : ∃ y : Nat → va_E, y = va_up f_66 a_23 (.inl (cI, 20, .inl (va_cpy g_76 g_74 (Int32.toNatClampNeg 0) (Int32.toNatClampNeg 0) (Int32.toNatClampNeg 20)))) := ⟨_, rfl⟩
  have hP : va_P (dC, dI) vwCl (va_pl L f_78) H := by rw [ef_78]; exact hP
  have hD : va_D (fun q => q ∈ L) (va_pl L f_78) := by rw [ef_78]; exact hD
  have hG : GI (okc cI cL cZ cR cG cH L kd) kd L f_78 := by rw [ef_78]; exact hG.set a_23 (mk_511 ka_23 ⟨_, rfl, okI_cpy (fun j => by have := hbg_76 j; constructor <;> omega) hbg_74 _ _ _⟩)
  have hfo_79 : f_78 o1 = .inr (7, [.ref a_2, .int v_3, .ref a_4, .ref a_5, .ref a_6, .ref a_7, .int v_8, .ref a_9, .ref a_10, .ref a_11, .ref a_12, .ref a_13, .int v_14, .ref a_15, .ref a_16, .ref a_17]) := by rw [ef_78, up_ne (kd_ne ka_23 ko1 (by decide))]; exact hfo_67
  have hfo_80 : f_78 a_2 = .inl (cI, 26, .inl g_38) := by rw [ef_78, up_ne (kd_ne ka_23 ka_2 (by decide))]; exact hfo_68
  have hfo_81 : f_78 o0 = .inr (7, [.ref a_19, .int v_3, .ref a_21, .ref a_22, .ref a_23, .ref a_24, .int v_25, .ref a_26, .ref a_27, .ref a_28, .ref a_29, .ref a_30, .int v_31, .ref a_32, .ref a_33, .ref a_34]) := by rw [ef_78, up_ne (kd_ne ka_23 ko0 (by decide))]; exact hfo_69
  have hfo_82 : f_78 a_4 = .inl (cI, 6, .inl g_53) := by rw [ef_78, up_ne (kd_ne ka_23 ka_4 (by decide))]; exact hfo_70
  have hfo_83 : f_78 a_5 = .inl (cI, 81, .inl g_64) := by rw [ef_78, up_ne (kd_ne ka_23 ka_5 (by decide))]; exact hfo_71
  have hfo_84 : f_78 a_6 = .inl (cI, 20, .inl g_76) := by rw [ef_78, up_ne (kd_ne ka_23 ka_6 (by decide))]; exact hfo_75
  have hfr0 : ∀ b, kd b ≠ 4 → kd b ≠ 5 → kd b ≠ 7 → kd b ≠ 9 → kd b ≠ 13 → kd b ≠ 500 → kd b ≠ 501 → kd b ≠ 502 → kd b ≠ 503 → kd b ≠ 504 → kd b ≠ 505 → kd b ≠ 506 → kd b ≠ 507 → kd b ≠ 508 → kd b ≠ 509 → kd b ≠ 510 → kd b ≠ 511 → kd b ≠ 514 → f_78 b = f b := fun b q4 q5 q7 q9 q13 q500 q501 q502 q503 q504 q505 q506 q507 q508 q509 q510 q511 q514 => (congrFun ef_78 b).trans ((up_ne (fun e9 => q511 (by rw [e9]; exact ka_23))).trans (hfr0 b q4 q5 q7 q9 q13 q500 q501 q502 q503 q504 q505 q506 q507 q508 q509 q510 q511 q514))
  have hfo_85 : f_78 a_23 = .inl (cI, 20, .inl (va_cpy g_76 g_74 (Int32.toNatClampNeg 0) (Int32.toNatClampNeg 0) (Int32.toNatClampNeg 20))) := by rw [ef_78]; exact up_self
  refine lv_aload_n hx hb dX7_copyFrom_80 rfl (lv_at hl 1 rfl) ?_
  refine tk_getP (D := (dC, dI)) (ci := 7) (v := .ref a_7) (C := RX7) (T := TX7) (N := 16) hx hb hU inlX7 hown hK hP mo1 hfo_79 rfl 5 (by decide) (hU _ wd_76) (fun _ h9 => h9) rfl dX7_copyFrom_81 ?_
  refine lv_iconst (v := 0) hx hb dX7_copyFrom_84 (by decide) ?_
  refine lv_aload_n hx hb dX7_copyFrom_85 rfl (lv_at hl 0 rfl) ?_
  refine tk_getP (D := (dC, dI)) (ci := 7) (v := .ref a_24) (C := RX7) (T := TX7) (N := 16) hx hb hU inlX7 hown hK hP mo0 hfo_81 rfl 5 (by decide) (hU _ wd_76) (fun _ h9 => h9) rfl dX7_copyFrom_86 ?_
  refine lv_iconst (v := 0) hx hb dX7_copyFrom_89 (by decide) ?_
  refine lv_aload_n hx hb dX7_copyFrom_90 rfl (lv_at hl 0 rfl) ?_
  refine tk_getP (D := (dC, dI)) (ci := 7) (v := .ref a_24) (C := RX7) (T := TX7) (N := 16) hx hb hU inlX7 hown hK hP mo0 hfo_81 rfl 5 (by decide) (hU _ wd_76) (fun _ h9 => h9) rfl dX7_copyFrom_91 ?_
  obtain ⟨g_87, hfo_86, hbg_87⟩ := un_511 (hG _ ma_24) ka_24
  refine tk_alenP (v := 20) hx hb hK hP 0 ma_24 hfo_86 rfl rfl dX7_copyFrom_94 ?_
  obtain ⟨g_89, hfo_88, hbg_89⟩ := un_569 (hG _ ma_7) ka_7
  refine tk_copyP hx hb (by rw [hml]; exact hl.1.symm) hown (hU _ wd_534) (hU _ wd_253) (hU _ wd_254) (hU _ wd_255) hK hP hD hS 0 ma_7 ma_24 hfo_88 hfo_86 rfl (by decide) (by decide) (by decide) (by decide) (by decide) (Nat.le_of_ble_eq_true rfl) (Nat.le_of_ble_eq_true rfl) dX7_copyFrom_95 (fun H locs hP hD hS => ?_)
  obtain ⟨f_91, ef_91⟩ : ∃ y : Nat → va_E, y = va_up f_78 a_24 (.inl (cI, 20, .inl (va_cpy g_89 g_87 (Int32.toNatClampNeg 0) (Int32.toNatClampNeg 0) (Int32.toNatClampNeg 20)))) := ⟨_, rfl⟩
  have hP : va_P (dC, dI) vwCl (va_pl L f_91) H := by rw [ef_91]; exact hP
  have hD : va_D (fun q => q ∈ L) (va_pl L f_91) := by rw [ef_91]; exact hD
  have hG : GI (okc cI cL cZ cR cG cH L kd) kd L f_91 := by rw [ef_91]; exact hG.set a_24 (mk_511 ka_24 ⟨_, rfl, okI_cpy (fun j => by have := hbg_89 j; constructor <;> omega) hbg_87 _ _ _⟩)
  have hfo_92 : f_91 o1 = .inr (7, [.ref a_2, .int v_3, .ref a_4, .ref a_5, .ref a_6, .ref a_7, .int v_8, .ref a_9, .ref a_10, .ref a_11, .ref a_12, .ref a_13, .int v_14, .ref a_15, .ref a_16, .ref a_17]) := by rw [ef_91, up_ne (kd_ne ka_24 ko1 (by decide))]; exact hfo_79
  have hfo_93 : f_91 a_2 = .inl (cI, 26, .inl g_38) := by rw [ef_91, up_ne (kd_ne ka_24 ka_2 (by decide))]; exact hfo_80
  have hfo_94 : f_91 o0 = .inr (7, [.ref a_19, .int v_3, .ref a_21, .ref a_22, .ref a_23, .ref a_24, .int v_25, .ref a_26, .ref a_27, .ref a_28, .ref a_29, .ref a_30, .int v_31, .ref a_32, .ref a_33, .ref a_34]) := by rw [ef_91, up_ne (kd_ne ka_24 ko0 (by decide))]; exact hfo_81
  have hfo_95 : f_91 a_4 = .inl (cI, 6, .inl g_53) := by rw [ef_91, up_ne (kd_ne ka_24 ka_4 (by decide))]; exact hfo_82
  have hfo_96 : f_91 a_5 = .inl (cI, 81, .inl g_64) := by rw [ef_91, up_ne (kd_ne ka_24 ka_5 (by decide))]; exact hfo_83
  have hfo_97 : f_91 a_6 = .inl (cI, 20, .inl g_76) := by rw [ef_91, up_ne (kd_ne ka_24 ka_6 (by decide))]; exact hfo_84
  have hfo_98 : f_91 a_7 = .inl (cI, 20, .inl g_89) := by rw [ef_91, up_ne (kd_ne ka_24 ka_7 (by decide))]; exact hfo_88
  have hfr0 : ∀ b, kd b ≠ 4 → kd b ≠ 5 → kd b ≠ 7 → kd b ≠ 9 → kd b ≠ 13 → kd b ≠ 500 → kd b ≠ 501 → kd b ≠ 502 → kd b ≠ 503 → kd b ≠ 504 → kd b ≠ 505 → kd b ≠ 506 → kd b ≠ 507 → kd b ≠ 508 → kd b ≠ 509 → kd b ≠ 510 → kd b ≠ 511 → kd b ≠ 514 → f_91 b = f b := fun b q4 q5 q7 q9 q13 q500 q501 q502 q503 q504 q505 q506 q507 q508 q509 q510 q511 q514 => (congrFun ef_91 b).trans ((up_ne (fun e9 => q511 (by rw [e9]; exact ka_24))).trans (hfr0 b q4 q5 q7 q9 q13 q500 q501 q502 q503 q504 q505 q506 q507 q508 q509 q510 q511 q514))
  have hfo_99 : f_91 a_24 = .inl (cI, 20, .inl (va_cpy g_89 g_87 (Int32.toNatClampNeg 0) (Int32.toNatClampNeg 0) (Int32.toNatClampNeg 20))) := by rw [ef_91]; exact up_self
  refine lv_aload_n hx hb dX7_copyFrom_98 rfl (lv_at hl 0 rfl) ?_
  refine lv_aload_n hx hb dX7_copyFrom_99 rfl (lv_at hl 1 rfl) ?_
  refine tk_getP (D := (dC, dI)) (ci := 7) (v := .int v_8) (C := RX7) (T := TX7) (N := 16) hx hb hU inlX7 hown hK hP mo1 hfo_92 rfl 6 (by decide) (hU _ wd_263) (fun _ h9 => h9) rfl dX7_copyFrom_100 ?_
  refine tk_putP (D := (dC, dI)) (ci := 7) (v := .int v_8) (ty := .int) (C := RX7) (T := TX7) (N := 16) hx hb hU inlX7 tyX7 tyX7_ok nmX7 hown hK hP hD hS mo0 hfo_94 rfl 6 (by decide) (hU _ wd_263) (fun _ h9 => h9) rfl (by decide +kernel) rfl rfl (Nat.le_of_ble_eq_true rfl) dX7_copyFrom_103 (fun H locs hP hD hS => ?_)
  obtain ⟨f_101, ef_101⟩ : ∃ y : Nat → va_E, y = va_up f_91 o0 (.inr (7, [.ref a_19, .int v_3, .ref a_21, .ref a_22, .ref a_23, .ref a_24, .int v_8, .ref a_26, .ref a_27, .ref a_28, .ref a_29, .ref a_30, .int v_31, .ref a_32, .ref a_33, .ref a_34])) := ⟨_, rfl⟩
  have hP : va_P (dC, dI) vwCl (va_pl L f_101) H := by rw [ef_101]; exact hP
  have hD : va_D (fun q => q ∈ L) (va_pl L f_101) := by rw [ef_101]; exact hD
  have hG : GI (okc cI cL cZ cR cG cH L kd) kd L f_101 := by rw [ef_101]; exact hG.set o0 (mk_7 ko0 ⟨a_19, v_3, a_21, a_22, a_23, a_24, v_8, a_26, a_27, a_28, a_29, a_30, v_31, a_32, a_33, a_34, rfl, ⟨ma_19, ka_19⟩, (by constructor <;> omega), ⟨ma_21, ka_21⟩, ⟨ma_22, ka_22⟩, ⟨ma_23, ka_23⟩, ⟨ma_24, ka_24⟩, (by constructor <;> omega), ⟨ma_26, ka_26⟩, ⟨ma_27, ka_27⟩, ⟨ma_28, ka_28⟩, ⟨ma_29, ka_29⟩, ⟨ma_30, ka_30⟩, (by constructor <;> omega), ⟨ma_32, ka_32⟩, ⟨ma_33, ka_33⟩, ⟨ma_34, ka_34⟩⟩)
  have hfo_102 : f_101 o1 = .inr (7, [.ref a_2, .int v_3, .ref a_4, .ref a_5, .ref a_6, .ref a_7, .int v_8, .ref a_9, .ref a_10, .ref a_11, .ref a_12, .ref a_13, .int v_14, .ref a_15, .ref a_16, .ref a_17]) := by rw [ef_101, up_ne (kd_ne ko0 ko1 (by decide))]; exact hfo_92
  have hfo_103 : f_101 a_2 = .inl (cI, 26, .inl g_38) := by rw [ef_101, up_ne (kd_ne ko0 ka_2 (by decide))]; exact hfo_93
  have hfo_104 : f_101 a_4 = .inl (cI, 6, .inl g_53) := by rw [ef_101, up_ne (kd_ne ko0 ka_4 (by decide))]; exact hfo_95
  have hfo_105 : f_101 a_5 = .inl (cI, 81, .inl g_64) := by rw [ef_101, up_ne (kd_ne ko0 ka_5 (by decide))]; exact hfo_96
  have hfo_106 : f_101 a_6 = .inl (cI, 20, .inl g_76) := by rw [ef_101, up_ne (kd_ne ko0 ka_6 (by decide))]; exact hfo_97
  have hfo_107 : f_101 a_7 = .inl (cI, 20, .inl g_89) := by rw [ef_101, up_ne (kd_ne ko0 ka_7 (by decide))]; exact hfo_98
  have hfr0 : ∀ b, kd b ≠ 4 → kd b ≠ 5 → kd b ≠ 7 → kd b ≠ 9 → kd b ≠ 13 → kd b ≠ 500 → kd b ≠ 501 → kd b ≠ 502 → kd b ≠ 503 → kd b ≠ 504 → kd b ≠ 505 → kd b ≠ 506 → kd b ≠ 507 → kd b ≠ 508 → kd b ≠ 509 → kd b ≠ 510 → kd b ≠ 511 → kd b ≠ 514 → f_101 b = f b := fun b q4 q5 q7 q9 q13 q500 q501 q502 q503 q504 q505 q506 q507 q508 q509 q510 q511 q514 => (congrFun ef_101 b).trans ((up_ne (fun e9 => q7 (by rw [e9]; exact ko0))).trans (hfr0 b q4 q5 q7 q9 q13 q500 q501 q502 q503 q504 q505 q506 q507 q508 q509 q510 q511 q514))
  have hfo_108 : f_101 o0 = .inr (7, [.ref a_19, .int v_3, .ref a_21, .ref a_22, .ref a_23, .ref a_24, .int v_8, .ref a_26, .ref a_27, .ref a_28, .ref a_29, .ref a_30, .int v_31, .ref a_32, .ref a_33, .ref a_34]) := by rw [ef_101]; exact up_self
  refine lv_aload_n hx hb dX7_copyFrom_106 rfl (lv_at hl 1 rfl) ?_
  refine tk_getP (D := (dC, dI)) (ci := 7) (v := .ref a_11) (C := RX7) (T := TX7) (N := 16) hx hb hU inlX7 hown hK hP mo1 hfo_102 rfl 9 (by decide) (hU _ wd_79) (fun _ h9 => h9) rfl dX7_copyFrom_107 ?_
  refine lv_iconst (v := 0) hx hb dX7_copyFrom_110 (by decide) ?_
  refine lv_aload_n hx hb dX7_copyFrom_111 rfl (lv_at hl 0 rfl) ?_
  refine tk_getP (D := (dC, dI)) (ci := 7) (v := .ref a_28) (C := RX7) (T := TX7) (N := 16) hx hb hU inlX7 hown hK hP mo0 hfo_108 rfl 9 (by decide) (hU _ wd_79) (fun _ h9 => h9) rfl dX7_copyFrom_112 ?_
  refine lv_iconst (v := 0) hx hb dX7_copyFrom_115 (by decide) ?_
  refine lv_aload_n hx hb dX7_copyFrom_116 rfl (lv_at hl 0 rfl) ?_
  refine tk_getP (D := (dC, dI)) (ci := 7) (v := .ref a_28) (C := RX7) (T := TX7) (N := 16) hx hb hU inlX7 hown hK hP mo0 hfo_108 rfl 9 (by decide) (hU _ wd_79) (fun _ h9 => h9) rfl dX7_copyFrom_117 ?_
  obtain ⟨g_110, hfo_109, hbg_110⟩ := un_514 (hG _ ma_28) ka_28
  refine tk_alenP (v := 36) hx hb hK hP 0 ma_28 hfo_109 rfl rfl dX7_copyFrom_120 ?_
  obtain ⟨g_112, hfo_111, hbg_112⟩ := un_572 (hG _ ma_11) ka_11
  refine tk_copyP hx hb (by rw [hml]; exact hl.1.symm) hown (hU _ wd_534) (hU _ wd_253) (hU _ wd_254) (hU _ wd_255) hK hP hD hS 0 ma_11 ma_28 hfo_111 hfo_109 rfl (by decide) (by decide) (by decide) (by decide) (by decide) (Nat.le_of_ble_eq_true rfl) (Nat.le_of_ble_eq_true rfl) dX7_copyFrom_121 (fun H locs hP hD hS => ?_)
  obtain ⟨f_114, ef_114⟩ : ∃ y : Nat → va_E, y = va_up f_101 a_28 (.inl (cI, 36, .inl (va_cpy g_112 g_110 (Int32.toNatClampNeg 0) (Int32.toNatClampNeg 0) (Int32.toNatClampNeg 36)))) := ⟨_, rfl⟩
  have hP : va_P (dC, dI) vwCl (va_pl L f_114) H := by rw [ef_114]; exact hP
  have hD : va_D (fun q => q ∈ L) (va_pl L f_114) := by rw [ef_114]; exact hD
  have hG : GI (okc cI cL cZ cR cG cH L kd) kd L f_114 := by rw [ef_114]; exact hG.set a_28 (mk_514 ka_28 ⟨_, rfl, okI_cpy (fun j => by have := hbg_112 j; constructor <;> omega) hbg_110 _ _ _⟩)
  have hfo_115 : f_114 o1 = .inr (7, [.ref a_2, .int v_3, .ref a_4, .ref a_5, .ref a_6, .ref a_7, .int v_8, .ref a_9, .ref a_10, .ref a_11, .ref a_12, .ref a_13, .int v_14, .ref a_15, .ref a_16, .ref a_17]) := by rw [ef_114, up_ne (kd_ne ka_28 ko1 (by decide))]; exact hfo_102
  have hfo_116 : f_114 a_2 = .inl (cI, 26, .inl g_38) := by rw [ef_114, up_ne (kd_ne ka_28 ka_2 (by decide))]; exact hfo_103
  have hfo_117 : f_114 a_4 = .inl (cI, 6, .inl g_53) := by rw [ef_114, up_ne (kd_ne ka_28 ka_4 (by decide))]; exact hfo_104
  have hfo_118 : f_114 a_5 = .inl (cI, 81, .inl g_64) := by rw [ef_114, up_ne (kd_ne ka_28 ka_5 (by decide))]; exact hfo_105
  have hfo_119 : f_114 a_6 = .inl (cI, 20, .inl g_76) := by rw [ef_114, up_ne (kd_ne ka_28 ka_6 (by decide))]; exact hfo_106
  have hfo_120 : f_114 a_7 = .inl (cI, 20, .inl g_89) := by rw [ef_114, up_ne (kd_ne ka_28 ka_7 (by decide))]; exact hfo_107
  have hfo_121 : f_114 o0 = .inr (7, [.ref a_19, .int v_3, .ref a_21, .ref a_22, .ref a_23, .ref a_24, .int v_8, .ref a_26, .ref a_27, .ref a_28, .ref a_29, .ref a_30, .int v_31, .ref a_32, .ref a_33, .ref a_34]) := by rw [ef_114, up_ne (kd_ne ka_28 ko0 (by decide))]; exact hfo_108
  have hfo_122 : f_114 a_11 = .inl (cI, 36, .inl g_112) := by rw [ef_114, up_ne (kd_ne ka_28 ka_11 (by decide))]; exact hfo_111
  have hfr0 : ∀ b, kd b ≠ 4 → kd b ≠ 5 → kd b ≠ 7 → kd b ≠ 9 → kd b ≠ 13 → kd b ≠ 500 → kd b ≠ 501 → kd b ≠ 502 → kd b ≠ 503 → kd b ≠ 504 → kd b ≠ 505 → kd b ≠ 506 → kd b ≠ 507 → kd b ≠ 508 → kd b ≠ 509 → kd b ≠ 510 → kd b ≠ 511 → kd b ≠ 514 → f_114 b = f b := fun b q4 q5 q7 q9 q13 q500 q501 q502 q503 q504 q505 q506 q507 q508 q509 q510 q511 q514 => (congrFun ef_114 b).trans ((up_ne (fun e9 => q514 (by rw [e9]; exact ka_28))).trans (hfr0 b q4 q5 q7 q9 q13 q500 q501 q502 q503 q504 q505 q506 q507 q508 q509 q510 q511 q514))
  have hfo_123 : f_114 a_28 = .inl (cI, 36, .inl (va_cpy g_112 g_110 (Int32.toNatClampNeg 0) (Int32.toNatClampNeg 0) (Int32.toNatClampNeg 36))) := by rw [ef_114]; exact up_self
  refine lv_aload_n hx hb dX7_copyFrom_124 rfl (lv_at hl 1 rfl) ?_
  refine tk_getP (D := (dC, dI)) (ci := 7) (v := .ref a_12) (C := RX7) (T := TX7) (N := 16) hx hb hU inlX7 hown hK hP mo1 hfo_115 rfl 10 (by decide) (hU _ wd_80) (fun _ h9 => h9) rfl dX7_copyFrom_125 ?_
  refine lv_iconst (v := 0) hx hb dX7_copyFrom_128 (by decide) ?_
  refine lv_aload_n hx hb dX7_copyFrom_129 rfl (lv_at hl 0 rfl) ?_
  refine tk_getP (D := (dC, dI)) (ci := 7) (v := .ref a_29) (C := RX7) (T := TX7) (N := 16) hx hb hU inlX7 hown hK hP mo0 hfo_121 rfl 10 (by decide) (hU _ wd_80) (fun _ h9 => h9) rfl dX7_copyFrom_130 ?_
  refine lv_iconst (v := 0) hx hb dX7_copyFrom_133 (by decide) ?_
  refine lv_aload_n hx hb dX7_copyFrom_134 rfl (lv_at hl 0 rfl) ?_
  refine tk_getP (D := (dC, dI)) (ci := 7) (v := .ref a_29) (C := RX7) (T := TX7) (N := 16) hx hb hU inlX7 hown hK hP mo0 hfo_121 rfl 10 (by decide) (hU _ wd_80) (fun _ h9 => h9) rfl dX7_copyFrom_135 ?_
  obtain ⟨g_125, hfo_124, hbg_125⟩ := un_514 (hG _ ma_29) ka_29
  refine tk_alenP (v := 36) hx hb hK hP 0 ma_29 hfo_124 rfl rfl dX7_copyFrom_138 ?_
  obtain ⟨g_127, hfo_126, hbg_127⟩ := un_572 (hG _ ma_12) ka_12
  refine tk_copyP hx hb (by rw [hml]; exact hl.1.symm) hown (hU _ wd_534) (hU _ wd_253) (hU _ wd_254) (hU _ wd_255) hK hP hD hS 0 ma_12 ma_29 hfo_126 hfo_124 rfl (by decide) (by decide) (by decide) (by decide) (by decide) (Nat.le_of_ble_eq_true rfl) (Nat.le_of_ble_eq_true rfl) dX7_copyFrom_139 (fun H locs hP hD hS => ?_)
  obtain ⟨f_129, ef_129⟩ : ∃ y : Nat → va_E, y = va_up f_114 a_29 (.inl (cI, 36, .inl (va_cpy g_127 g_125 (Int32.toNatClampNeg 0) (Int32.toNatClampNeg 0) (Int32.toNatClampNeg 36)))) := ⟨_, rfl⟩
  have hP : va_P (dC, dI) vwCl (va_pl L f_129) H := by rw [ef_129]; exact hP
  have hD : va_D (fun q => q ∈ L) (va_pl L f_129) := by rw [ef_129]; exact hD
  have hG : GI (okc cI cL cZ cR cG cH L kd) kd L f_129 := by rw [ef_129]; exact hG.set a_29 (mk_514 ka_29 ⟨_, rfl, okI_cpy (fun j => by have := hbg_127 j; constructor <;> omega) hbg_125 _ _ _⟩)
  have hfo_130 : f_129 o1 = .inr (7, [.ref a_2, .int v_3, .ref a_4, .ref a_5, .ref a_6, .ref a_7, .int v_8, .ref a_9, .ref a_10, .ref a_11, .ref a_12, .ref a_13, .int v_14, .ref a_15, .ref a_16, .ref a_17]) := by rw [ef_129, up_ne (kd_ne ka_29 ko1 (by decide))]; exact hfo_115
  have hfo_131 : f_129 a_2 = .inl (cI, 26, .inl g_38) := by rw [ef_129, up_ne (kd_ne ka_29 ka_2 (by decide))]; exact hfo_116
  have hfo_132 : f_129 a_4 = .inl (cI, 6, .inl g_53) := by rw [ef_129, up_ne (kd_ne ka_29 ka_4 (by decide))]; exact hfo_117
  have hfo_133 : f_129 a_5 = .inl (cI, 81, .inl g_64) := by rw [ef_129, up_ne (kd_ne ka_29 ka_5 (by decide))]; exact hfo_118
  have hfo_134 : f_129 a_6 = .inl (cI, 20, .inl g_76) := by rw [ef_129, up_ne (kd_ne ka_29 ka_6 (by decide))]; exact hfo_119
  have hfo_135 : f_129 a_7 = .inl (cI, 20, .inl g_89) := by rw [ef_129, up_ne (kd_ne ka_29 ka_7 (by decide))]; exact hfo_120
  have hfo_136 : f_129 o0 = .inr (7, [.ref a_19, .int v_3, .ref a_21, .ref a_22, .ref a_23, .ref a_24, .int v_8, .ref a_26, .ref a_27, .ref a_28, .ref a_29, .ref a_30, .int v_31, .ref a_32, .ref a_33, .ref a_34]) := by rw [ef_129, up_ne (kd_ne ka_29 ko0 (by decide))]; exact hfo_121
  have hfo_137 : f_129 a_11 = .inl (cI, 36, .inl g_112) := by rw [ef_129, up_ne (kd_ne ka_29 ka_11 (by decide))]; exact hfo_122
  have hfo_138 : f_129 a_12 = .inl (cI, 36, .inl g_127) := by rw [ef_129, up_ne (kd_ne ka_29 ka_12 (by decide))]; exact hfo_126
  have hfr0 : ∀ b, kd b ≠ 4 → kd b ≠ 5 → kd b ≠ 7 → kd b ≠ 9 → kd b ≠ 13 → kd b ≠ 500 → kd b ≠ 501 → kd b ≠ 502 → kd b ≠ 503 → kd b ≠ 504 → kd b ≠ 505 → kd b ≠ 506 → kd b ≠ 507 → kd b ≠ 508 → kd b ≠ 509 → kd b ≠ 510 → kd b ≠ 511 → kd b ≠ 514 → f_129 b = f b := fun b q4 q5 q7 q9 q13 q500 q501 q502 q503 q504 q505 q506 q507 q508 q509 q510 q511 q514 => (congrFun ef_129 b).trans ((up_ne (fun e9 => q514 (by rw [e9]; exact ka_29))).trans (hfr0 b q4 q5 q7 q9 q13 q500 q501 q502 q503 q504 q505 q506 q507 q508 q509 q510 q511 q514))
  have hfo_139 : f_129 a_29 = .inl (cI, 36, .inl (va_cpy g_127 g_125 (Int32.toNatClampNeg 0) (Int32.toNatClampNeg 0) (Int32.toNatClampNeg 36))) := by rw [ef_129]; exact up_self
  refine lv_aload_n hx hb dX7_copyFrom_142 rfl (lv_at hl 0 rfl) ?_
  refine lv_aload_n hx hb dX7_copyFrom_143 rfl (lv_at hl 1 rfl) ?_
  refine tk_getP (D := (dC, dI)) (ci := 7) (v := .int v_14) (C := RX7) (T := TX7) (N := 16) hx hb hU inlX7 hown hK hP mo1 hfo_130 rfl 12 (by decide) (hU _ wd_264) (fun _ h9 => h9) rfl dX7_copyFrom_144 ?_
  refine tk_putP (D := (dC, dI)) (ci := 7) (v := .int v_14) (ty := .int) (C := RX7) (T := TX7) (N := 16) hx hb hU inlX7 tyX7 tyX7_ok nmX7 hown hK hP hD hS mo0 hfo_136 rfl 12 (by decide) (hU _ wd_264) (fun _ h9 => h9) rfl (by decide +kernel) rfl rfl (Nat.le_of_ble_eq_true rfl) dX7_copyFrom_147 (fun H locs hP hD hS => ?_)
  obtain ⟨f_141, ef_141⟩ : ∃ y : Nat → va_E, y = va_up f_129 o0 (.inr (7, [.ref a_19, .int v_3, .ref a_21, .ref a_22, .ref a_23, .ref a_24, .int v_8, .ref a_26, .ref a_27, .ref a_28, .ref a_29, .ref a_30, .int v_14, .ref a_32, .ref a_33, .ref a_34])) := ⟨_, rfl⟩
  have hP : va_P (dC, dI) vwCl (va_pl L f_141) H := by rw [ef_141]; exact hP
  have hD : va_D (fun q => q ∈ L) (va_pl L f_141) := by rw [ef_141]; exact hD
  have hG : GI (okc cI cL cZ cR cG cH L kd) kd L f_141 := by rw [ef_141]; exact hG.set o0 (mk_7 ko0 ⟨a_19, v_3, a_21, a_22, a_23, a_24, v_8, a_26, a_27, a_28, a_29, a_30, v_14, a_32, a_33, a_34, rfl, ⟨ma_19, ka_19⟩, (by constructor <;> omega), ⟨ma_21, ka_21⟩, ⟨ma_22, ka_22⟩, ⟨ma_23, ka_23⟩, ⟨ma_24, ka_24⟩, (by constructor <;> omega), ⟨ma_26, ka_26⟩, ⟨ma_27, ka_27⟩, ⟨ma_28, ka_28⟩, ⟨ma_29, ka_29⟩, ⟨ma_30, ka_30⟩, (by constructor <;> omega), ⟨ma_32, ka_32⟩, ⟨ma_33, ka_33⟩, ⟨ma_34, ka_34⟩⟩)
  have hfo_142 : f_141 o1 = .inr (7, [.ref a_2, .int v_3, .ref a_4, .ref a_5, .ref a_6, .ref a_7, .int v_8, .ref a_9, .ref a_10, .ref a_11, .ref a_12, .ref a_13, .int v_14, .ref a_15, .ref a_16, .ref a_17]) := by rw [ef_141, up_ne (kd_ne ko0 ko1 (by decide))]; exact hfo_130
  have hfo_143 : f_141 a_2 = .inl (cI, 26, .inl g_38) := by rw [ef_141, up_ne (kd_ne ko0 ka_2 (by decide))]; exact hfo_131
  have hfo_144 : f_141 a_4 = .inl (cI, 6, .inl g_53) := by rw [ef_141, up_ne (kd_ne ko0 ka_4 (by decide))]; exact hfo_132
  have hfo_145 : f_141 a_5 = .inl (cI, 81, .inl g_64) := by rw [ef_141, up_ne (kd_ne ko0 ka_5 (by decide))]; exact hfo_133
  have hfo_146 : f_141 a_6 = .inl (cI, 20, .inl g_76) := by rw [ef_141, up_ne (kd_ne ko0 ka_6 (by decide))]; exact hfo_134
  have hfo_147 : f_141 a_7 = .inl (cI, 20, .inl g_89) := by rw [ef_141, up_ne (kd_ne ko0 ka_7 (by decide))]; exact hfo_135
  have hfo_148 : f_141 a_11 = .inl (cI, 36, .inl g_112) := by rw [ef_141, up_ne (kd_ne ko0 ka_11 (by decide))]; exact hfo_137
  have hfo_149 : f_141 a_12 = .inl (cI, 36, .inl g_127) := by rw [ef_141, up_ne (kd_ne ko0 ka_12 (by decide))]; exact hfo_138
  have hfr0 : ∀ b, kd b ≠ 4 → kd b ≠ 5 → kd b ≠ 7 → kd b ≠ 9 → kd b ≠ 13 → kd b ≠ 500 → kd b ≠ 501 → kd b ≠ 502 → kd b ≠ 503 → kd b ≠ 504 → kd b ≠ 505 → kd b ≠ 506 → kd b ≠ 507 → kd b ≠ 508 → kd b ≠ 509 → kd b ≠ 510 → kd b ≠ 511 → kd b ≠ 514 → f_141 b = f b := fun b q4 q5 q7 q9 q13 q500 q501 q502 q503 q504 q505 q506 q507 q508 q509 q510 q511 q514 => (congrFun ef_141 b).trans ((up_ne (fun e9 => q7 (by rw [e9]; exact ko0))).trans (hfr0 b q4 q5 q7 q9 q13 q500 q501 q502 q503 q504 q505 q506 q507 q508 q509 q510 q511 q514))
  have hfo_150 : f_141 o0 = .inr (7, [.ref a_19, .int v_3, .ref a_21, .ref a_22, .ref a_23, .ref a_24, .int v_8, .ref a_26, .ref a_27, .ref a_28, .ref a_29, .ref a_30, .int v_14, .ref a_32, .ref a_33, .ref a_34]) := by rw [ef_141]; exact up_self
  refine lv_iconst (v := 0) hx hb dX7_copyFrom_150 (by decide) ?_
  refine lv_istore_n (lv' := [(2, .int 0), (0, .ref o0), (1, .ref o1)]) hx hb dX7_copyFrom_151 rfl hl (by decide) rfl (fun ls hl => ?_)
  have hloop_190 : ∀ (n : Nat), ∀ (y_191 : Int32), (0 ≤ y_191.toInt ∧ y_191.toInt ≤ 8) → ∀ (f_193 : Nat → va_E), GI (okc cI cL cZ cR cG cH L kd) kd L f_193 → ∀ (H : Heap) (locs : List Loc), va_P (dC, dI) vwCl (va_pl L f_193) H → va_S (fun q => q ∈ L) s.heap H locs → va_D (fun q => q ∈ L) (va_pl L f_193) → (∀ b, kd b ≠ 4 → kd b ≠ 5 → kd b ≠ 7 → kd b ≠ 9 → kd b ≠ 13 → kd b ≠ 500 → kd b ≠ 501 → kd b ≠ 502 → kd b ≠ 503 → kd b ≠ 504 → kd b ≠ 505 → kd b ≠ 506 → kd b ≠ 507 → kd b ≠ 508 → kd b ≠ 509 → kd b ≠ 510 → kd b ≠ 511 → kd b ≠ 514 → f_193 b = f b) → (f_193 o1 = .inr (7, [.ref a_2, .int v_3, .ref a_4, .ref a_5, .ref a_6, .ref a_7, .int v_8, .ref a_9, .ref a_10, .ref a_11, .ref a_12, .ref a_13, .int v_14, .ref a_15, .ref a_16, .ref a_17])) → (f_193 a_2 = .inl (cI, 26, .inl g_38)) → (f_193 a_4 = .inl (cI, 6, .inl g_53)) → (f_193 a_5 = .inl (cI, 81, .inl g_64)) → (f_193 a_6 = .inl (cI, 20, .inl g_76)) → (f_193 a_7 = .inl (cI, 20, .inl g_89)) → (f_193 a_11 = .inl (cI, 36, .inl g_112)) → (f_193 a_12 = .inl (cI, 36, .inl g_127)) → (f_193 o0 = .inr (7, [.ref a_19, .int v_3, .ref a_21, .ref a_22, .ref a_23, .ref a_24, .int v_8, .ref a_26, .ref a_27, .ref a_28, .ref a_29, .ref a_30, .int v_14, .ref a_32, .ref a_33, .ref a_34])) → 8 - y_191.toInt < (n : Int) → ∀ (ls : Array Slot), lv_has ls 3 [(2, .int y_191), (0, .ref o0), (1, .ref o1)] → W p l e (headSpec (wU yX7_copyFrom cX7_copyFrom 3 none) { frames := 3, cells := 0, slots := 0, locals := 82 }).room s m [.ref o0, .ref o1].toArray below meth c H locs 0 0 (MQ below (va_Qv (fun (f9 : Nat → va_E) => GI (okc cI cL cZ cR cG cH L kd) kd L f9 ∧ (∀ b, kd b ≠ 4 → kd b ≠ 5 → kd b ≠ 7 → kd b ≠ 9 → kd b ≠ 13 → kd b ≠ 500 → kd b ≠ 501 → kd b ≠ 502 → kd b ≠ 503 → kd b ≠ 504 → kd b ≠ 505 → kd b ≠ 506 → kd b ≠ 507 → kd b ≠ 508 → kd b ≠ 509 → kd b ≠ 510 → kd b ≠ 511 → kd b ≠ 514 → f9 b = f b)) (qP (dC, dI) cI cL cZ cR cG cH L) (fun q => q ∈ L)) [.ref o0, .ref o1].toArray s 0 0 (fun q => q ∈ L)) (F0 m 152 ls []) := by
    intro n
    induction n with
    | zero => intro y_191 by_191 f_193 hG H locs hP hS hD hfr0 hfo_194 hfo_195 hfo_196 hfo_197 hfo_198 hfo_199 hfo_200 hfo_201 hfo_202 hmuhloop_190 ls hl; exfalso; omega
    | succ n ih_hloop_190 =>
      intro y_191 by_191 f_193 hG H locs hP hS hD hfr0 hfo_194 hfo_195 hfo_196 hfo_197 hfo_198 hfo_199 hfo_200 hfo_201 hfo_202 hmuhloop_190 ls hl
      refine lv_iload_n hx hb dX7_copyFrom_152 rfl (lv_at hl 0 rfl) ?_
      refine lv_aload_n hx hb dX7_copyFrom_153 rfl (lv_at hl 1 rfl) ?_
      refine tk_getP (D := (dC, dI)) (ci := 7) (v := .int v_14) (C := RX7) (T := TX7) (N := 16) hx hb hU inlX7 hown hK hP mo0 hfo_202 rfl 12 (by decide) (hU _ wd_264) (fun _ h9 => h9) rfl dX7_copyFrom_154 ?_
      refine lv_icmp_ge (tgt := 181) hx hb dX7_copyFrom_157 (by decide) (fun c_203 => ?_) (fun c_203 => ?_)
      · skip
        rw [Int32.le_iff_toInt_le] at c_203
        refine lv_aload_n hx hb dX7_copyFrom_181 rfl (lv_at hl 1 rfl) ?_
        refine tk_getP (D := (dC, dI)) (ci := 7) (v := .ref a_32) (C := RX7) (T := TX7) (N := 16) hx hb hU inlX7 hown hK hP mo0 hfo_202 rfl 13 (by decide) (hU _ wd_86) (fun _ h9 => h9) rfl dX7_copyFrom_182 ?_
        refine lv_aload_n hx hb dX7_copyFrom_185 rfl (lv_at hl 2 rfl) ?_
        refine tk_getP (D := (dC, dI)) (ci := 7) (v := .ref a_15) (C := RX7) (T := TX7) (N := 16) hx hb hU inlX7 hown hK hP mo1 hfo_194 rfl 13 (by decide) (hU _ wd_86) (fun _ h9 => h9) rfl dX7_copyFrom_186 ?_
        obtain ⟨a_205, a_206, v_207, hfo_204, ⟨ma_205, ka_205⟩, ⟨ma_206, ka_206⟩, bv_207⟩ := un_9 (hG _ ma_32) ka_32
        refine tk_VvP (As := [.ref a_15]) (rest := []) (n := 1) hx hb hml hown hU hN hZ (s_X9_copyFrom_k9_k209 l (dC, dI) cI cL cZ cR cG cH Z kd L f_193 hG a_32 ma_32 ka_32 a_15 ma_15 ka_15) wd_544 wd_545 wd_546 wd_85 wd_547 (by decide +kernel) ⟨Nat.le_of_ble_eq_true rfl, Nat.le_of_ble_eq_true rfl⟩ hK hP hD hS ma_32 hfo_204 9 rfl rfl rfl hl.1 rfl (Nat.le_of_ble_eq_true rfl) dX7_copyFrom_189 ⟨Nat.le_of_ble_eq_true rfl, Nat.le_of_ble_eq_true rfl⟩ (fun f_209 H locs hw hP hD hS => ?_)
        obtain ⟨hG, hkc_210⟩ := hw
        have hfo_212 : f_209 o1 = .inr (7, [.ref a_2, .int v_3, .ref a_4, .ref a_5, .ref a_6, .ref a_7, .int v_8, .ref a_9, .ref a_10, .ref a_11, .ref a_12, .ref a_13, .int v_14, .ref a_15, .ref a_16, .ref a_17]) := by rw [hkc_210 o1 (by rw [ko1]; decide) (by rw [ko1]; decide) (by rw [ko1]; decide)]; exact hfo_194
        have hfo_213 : f_209 a_2 = .inl (cI, 26, .inl g_38) := by rw [hkc_210 a_2 (by rw [ka_2]; decide) (by rw [ka_2]; decide) (by rw [ka_2]; decide)]; exact hfo_195
        have hfo_214 : f_209 a_4 = .inl (cI, 6, .inl g_53) := by rw [hkc_210 a_4 (by rw [ka_4]; decide) (by rw [ka_4]; decide) (by rw [ka_4]; decide)]; exact hfo_196
        have hfo_215 : f_209 a_5 = .inl (cI, 81, .inl g_64) := by rw [hkc_210 a_5 (by rw [ka_5]; decide) (by rw [ka_5]; decide) (by rw [ka_5]; decide)]; exact hfo_197
        have hfo_216 : f_209 a_6 = .inl (cI, 20, .inl g_76) := by rw [hkc_210 a_6 (by rw [ka_6]; decide) (by rw [ka_6]; decide) (by rw [ka_6]; decide)]; exact hfo_198
        have hfo_217 : f_209 a_7 = .inl (cI, 20, .inl g_89) := by rw [hkc_210 a_7 (by rw [ka_7]; decide) (by rw [ka_7]; decide) (by rw [ka_7]; decide)]; exact hfo_199
        have hfo_218 : f_209 a_11 = .inl (cI, 36, .inl g_112) := by rw [hkc_210 a_11 (by rw [ka_11]; decide) (by rw [ka_11]; decide) (by rw [ka_11]; decide)]; exact hfo_200
        have hfo_219 : f_209 a_12 = .inl (cI, 36, .inl g_127) := by rw [hkc_210 a_12 (by rw [ka_12]; decide) (by rw [ka_12]; decide) (by rw [ka_12]; decide)]; exact hfo_201
        have hfo_220 : f_209 o0 = .inr (7, [.ref a_19, .int v_3, .ref a_21, .ref a_22, .ref a_23, .ref a_24, .int v_8, .ref a_26, .ref a_27, .ref a_28, .ref a_29, .ref a_30, .int v_14, .ref a_32, .ref a_33, .ref a_34]) := by rw [hkc_210 o0 (by rw [ko0]; decide) (by rw [ko0]; decide) (by rw [ko0]; decide)]; exact hfo_202
        have hfr0 : ∀ b, kd b ≠ 4 → kd b ≠ 5 → kd b ≠ 7 → kd b ≠ 9 → kd b ≠ 13 → kd b ≠ 500 → kd b ≠ 501 → kd b ≠ 502 → kd b ≠ 503 → kd b ≠ 504 → kd b ≠ 505 → kd b ≠ 506 → kd b ≠ 507 → kd b ≠ 508 → kd b ≠ 509 → kd b ≠ 510 → kd b ≠ 511 → kd b ≠ 514 → f_209 b = f b := fun b q4 q5 q7 q9 q13 q500 q501 q502 q503 q504 q505 q506 q507 q508 q509 q510 q511 q514 => (hkc_210 b q9 q504 q505).trans (hfr0 b q4 q5 q7 q9 q13 q500 q501 q502 q503 q504 q505 q506 q507 q508 q509 q510 q511 q514)
        refine lv_aload_n hx hb dX7_copyFrom_192 rfl (lv_at hl 1 rfl) ?_
        refine tk_getP (D := (dC, dI)) (ci := 7) (v := .ref a_33) (C := RX7) (T := TX7) (N := 16) hx hb hU inlX7 hown hK hP mo0 hfo_220 rfl 14 (by decide) (hU _ wd_87) (fun _ h9 => h9) rfl dX7_copyFrom_193 ?_
        refine lv_aload_n hx hb dX7_copyFrom_196 rfl (lv_at hl 2 rfl) ?_
        refine tk_getP (D := (dC, dI)) (ci := 7) (v := .ref a_16) (C := RX7) (T := TX7) (N := 16) hx hb hU inlX7 hown hK hP mo1 hfo_212 rfl 14 (by decide) (hU _ wd_87) (fun _ h9 => h9) rfl dX7_copyFrom_197 ?_
        obtain ⟨a_222, a_223, v_224, hfo_221, ⟨ma_222, ka_222⟩, ⟨ma_223, ka_223⟩, bv_224⟩ := un_13 (hG _ ma_33) ka_33
        refine tk_VvP (As := [.ref a_16]) (rest := []) (n := 1) hx hb hml hown hU hN hZ (s_X9_copyFrom_k13_k213 l (dC, dI) cI cL cZ cR cG cH Z kd L f_209 hG a_33 ma_33 ka_33 a_16 ma_16 ka_16) wd_544 wd_545 wd_546 wd_85 wd_547 (by decide +kernel) ⟨Nat.le_of_ble_eq_true rfl, Nat.le_of_ble_eq_true rfl⟩ hK hP hD hS ma_33 hfo_221 9 rfl rfl rfl hl.1 rfl (Nat.le_of_ble_eq_true rfl) dX7_copyFrom_200 ⟨Nat.le_of_ble_eq_true rfl, Nat.le_of_ble_eq_true rfl⟩ (fun f_226 H locs hw hP hD hS => ?_)
        obtain ⟨hG, hkc_227⟩ := hw
        have hfo_229 : f_226 o1 = .inr (7, [.ref a_2, .int v_3, .ref a_4, .ref a_5, .ref a_6, .ref a_7, .int v_8, .ref a_9, .ref a_10, .ref a_11, .ref a_12, .ref a_13, .int v_14, .ref a_15, .ref a_16, .ref a_17]) := by rw [hkc_227 o1 (by rw [ko1]; decide) (by rw [ko1]; decide) (by rw [ko1]; decide)]; exact hfo_212
        have hfo_230 : f_226 a_2 = .inl (cI, 26, .inl g_38) := by rw [hkc_227 a_2 (by rw [ka_2]; decide) (by rw [ka_2]; decide) (by rw [ka_2]; decide)]; exact hfo_213
        have hfo_231 : f_226 a_4 = .inl (cI, 6, .inl g_53) := by rw [hkc_227 a_4 (by rw [ka_4]; decide) (by rw [ka_4]; decide) (by rw [ka_4]; decide)]; exact hfo_214
        have hfo_232 : f_226 a_5 = .inl (cI, 81, .inl g_64) := by rw [hkc_227 a_5 (by rw [ka_5]; decide) (by rw [ka_5]; decide) (by rw [ka_5]; decide)]; exact hfo_215
        have hfo_233 : f_226 a_6 = .inl (cI, 20, .inl g_76) := by rw [hkc_227 a_6 (by rw [ka_6]; decide) (by rw [ka_6]; decide) (by rw [ka_6]; decide)]; exact hfo_216
        have hfo_234 : f_226 a_7 = .inl (cI, 20, .inl g_89) := by rw [hkc_227 a_7 (by rw [ka_7]; decide) (by rw [ka_7]; decide) (by rw [ka_7]; decide)]; exact hfo_217
        have hfo_235 : f_226 a_11 = .inl (cI, 36, .inl g_112) := by rw [hkc_227 a_11 (by rw [ka_11]; decide) (by rw [ka_11]; decide) (by rw [ka_11]; decide)]; exact hfo_218
        have hfo_236 : f_226 a_12 = .inl (cI, 36, .inl g_127) := by rw [hkc_227 a_12 (by rw [ka_12]; decide) (by rw [ka_12]; decide) (by rw [ka_12]; decide)]; exact hfo_219
        have hfo_237 : f_226 o0 = .inr (7, [.ref a_19, .int v_3, .ref a_21, .ref a_22, .ref a_23, .ref a_24, .int v_8, .ref a_26, .ref a_27, .ref a_28, .ref a_29, .ref a_30, .int v_14, .ref a_32, .ref a_33, .ref a_34]) := by rw [hkc_227 o0 (by rw [ko0]; decide) (by rw [ko0]; decide) (by rw [ko0]; decide)]; exact hfo_220
        have hfr0 : ∀ b, kd b ≠ 4 → kd b ≠ 5 → kd b ≠ 7 → kd b ≠ 9 → kd b ≠ 13 → kd b ≠ 500 → kd b ≠ 501 → kd b ≠ 502 → kd b ≠ 503 → kd b ≠ 504 → kd b ≠ 505 → kd b ≠ 506 → kd b ≠ 507 → kd b ≠ 508 → kd b ≠ 509 → kd b ≠ 510 → kd b ≠ 511 → kd b ≠ 514 → f_226 b = f b := fun b q4 q5 q7 q9 q13 q500 q501 q502 q503 q504 q505 q506 q507 q508 q509 q510 q511 q514 => (hkc_227 b q13 q506 q507).trans (hfr0 b q4 q5 q7 q9 q13 q500 q501 q502 q503 q504 q505 q506 q507 q508 q509 q510 q511 q514)
        exact W.vret hx hb hr (fun t ht hW => ⟨⟨f_226, rfl, ⟨hG, hfr0⟩, by rw [ht]; exact hP, va_K.moved hW.alike hK, pl_in hD⟩, hS.F ht⟩) hS.2.2 dX7_copyFrom_203
      · skip
        rw [Int32.le_iff_toInt_le] at c_203
        refine lv_aload_n hx hb dX7_copyFrom_160 rfl (lv_at hl 1 rfl) ?_
        refine tk_getP (D := (dC, dI)) (ci := 7) (v := .ref a_30) (C := RX7) (T := TX7) (N := 16) hx hb hU inlX7 hown hK hP mo0 hfo_202 rfl 11 (by decide) (hU _ wd_82) (fun _ h9 => h9) rfl dX7_copyFrom_161 ?_
        refine lv_iload_n hx hb dX7_copyFrom_164 rfl (lv_at hl 0 rfl) ?_
        obtain ⟨g_239, hfo_238, hbg_239⟩ := un_515 (hG _ ma_30) ka_30
        obtain ⟨a_240, hga_240, ma_240, ka_240⟩ := hbg_239 (Int32.toNatClampNeg y_191) (in_lt (vp_in_iff.mpr (by constructor <;> omega)))
        refine tk_aldP hx hb hK hP 3 ma_30 hfo_238 rfl (vp_in_iff.mpr (by constructor <;> omega)) hga_240 dX7_copyFrom_165 ?_
        refine lv_aload_n hx hb dX7_copyFrom_166 rfl (lv_at hl 2 rfl) ?_
        refine tk_getP (D := (dC, dI)) (ci := 7) (v := .ref a_13) (C := RX7) (T := TX7) (N := 16) hx hb hU inlX7 hown hK hP mo1 hfo_194 rfl 11 (by decide) (hU _ wd_82) (fun _ h9 => h9) rfl dX7_copyFrom_167 ?_
        refine lv_iload_n hx hb dX7_copyFrom_170 rfl (lv_at hl 0 rfl) ?_
        obtain ⟨g_242, hfo_241, hbg_242⟩ := un_573 (hG _ ma_13) ka_13
        obtain ⟨a_243, hga_243, ma_243, ka_243⟩ := hbg_242 (Int32.toNatClampNeg y_191) (in_lt (vp_in_iff.mpr (by constructor <;> omega)))
        refine tk_aldP hx hb hK hP 3 ma_13 hfo_241 rfl (vp_in_iff.mpr (by constructor <;> omega)) hga_243 dX7_copyFrom_171 ?_
        obtain ⟨v_245, v_246, v_247, v_248, a_249, a_250, a_251, a_252, v_253, v_254, v_255, hfo_244, bv_245, bv_246, bv_247, bv_248, ⟨ma_249, ka_249⟩, ⟨ma_250, ka_250⟩, ⟨ma_251, ka_251⟩, ⟨ma_252, ka_252⟩⟩ := un_4 (hG _ ma_240) ka_240
        have bv_253 : ((-2147483648) ≤ v_253.toInt ∧ v_253.toInt ≤ 2147483647) := ⟨i32_lo _, i32_hi _⟩
        have bv_254 : ((-2147483648) ≤ v_254.toInt ∧ v_254.toInt ≤ 2147483647) := ⟨i32_lo _, i32_hi _⟩
        have bv_255 : ((-2147483648) ≤ v_255.toInt ∧ v_255.toInt ≤ 2147483647) := ⟨i32_lo _, i32_hi _⟩
        refine tk_VvP (As := [.ref a_243]) (rest := []) (n := 1) hx hb hml hown hU hN hZ (s_X4_copyFrom_k4_k204 l (dC, dI) cI cL cZ cR cG cH Z kd L f_193 hG a_240 ma_240 ka_240 a_243 ma_243 ka_243) wd_535 wd_536 wd_537 wd_90 wd_538 (by decide +kernel) ⟨Nat.le_of_ble_eq_true rfl, Nat.le_of_ble_eq_true rfl⟩ hK hP hD hS ma_240 hfo_244 4 rfl rfl rfl hl.1 rfl (Nat.le_of_ble_eq_true rfl) dX7_copyFrom_172 ⟨Nat.le_of_ble_eq_true rfl, Nat.le_of_ble_eq_true rfl⟩ (fun f_257 H locs hw hP hD hS => ?_)
        obtain ⟨hG, hkc_258⟩ := hw
        have hfo_260 : f_257 o1 = .inr (7, [.ref a_2, .int v_3, .ref a_4, .ref a_5, .ref a_6, .ref a_7, .int v_8, .ref a_9, .ref a_10, .ref a_11, .ref a_12, .ref a_13, .int v_14, .ref a_15, .ref a_16, .ref a_17]) := by rw [hkc_258 o1 (by rw [ko1]; decide) (by rw [ko1]; decide) (by rw [ko1]; decide) (by rw [ko1]; decide) (by rw [ko1]; decide) (by rw [ko1]; decide)]; exact hfo_194
        have hfo_261 : f_257 a_2 = .inl (cI, 26, .inl g_38) := by rw [hkc_258 a_2 (by rw [ka_2]; decide) (by rw [ka_2]; decide) (by rw [ka_2]; decide) (by rw [ka_2]; decide) (by rw [ka_2]; decide) (by rw [ka_2]; decide)]; exact hfo_195
        have hfo_262 : f_257 a_4 = .inl (cI, 6, .inl g_53) := by rw [hkc_258 a_4 (by rw [ka_4]; decide) (by rw [ka_4]; decide) (by rw [ka_4]; decide) (by rw [ka_4]; decide) (by rw [ka_4]; decide) (by rw [ka_4]; decide)]; exact hfo_196
        have hfo_263 : f_257 a_5 = .inl (cI, 81, .inl g_64) := by rw [hkc_258 a_5 (by rw [ka_5]; decide) (by rw [ka_5]; decide) (by rw [ka_5]; decide) (by rw [ka_5]; decide) (by rw [ka_5]; decide) (by rw [ka_5]; decide)]; exact hfo_197
        have hfo_264 : f_257 a_6 = .inl (cI, 20, .inl g_76) := by rw [hkc_258 a_6 (by rw [ka_6]; decide) (by rw [ka_6]; decide) (by rw [ka_6]; decide) (by rw [ka_6]; decide) (by rw [ka_6]; decide) (by rw [ka_6]; decide)]; exact hfo_198
        have hfo_265 : f_257 a_7 = .inl (cI, 20, .inl g_89) := by rw [hkc_258 a_7 (by rw [ka_7]; decide) (by rw [ka_7]; decide) (by rw [ka_7]; decide) (by rw [ka_7]; decide) (by rw [ka_7]; decide) (by rw [ka_7]; decide)]; exact hfo_199
        have hfo_266 : f_257 a_11 = .inl (cI, 36, .inl g_112) := by rw [hkc_258 a_11 (by rw [ka_11]; decide) (by rw [ka_11]; decide) (by rw [ka_11]; decide) (by rw [ka_11]; decide) (by rw [ka_11]; decide) (by rw [ka_11]; decide)]; exact hfo_200
        have hfo_267 : f_257 a_12 = .inl (cI, 36, .inl g_127) := by rw [hkc_258 a_12 (by rw [ka_12]; decide) (by rw [ka_12]; decide) (by rw [ka_12]; decide) (by rw [ka_12]; decide) (by rw [ka_12]; decide) (by rw [ka_12]; decide)]; exact hfo_201
        have hfo_268 : f_257 o0 = .inr (7, [.ref a_19, .int v_3, .ref a_21, .ref a_22, .ref a_23, .ref a_24, .int v_8, .ref a_26, .ref a_27, .ref a_28, .ref a_29, .ref a_30, .int v_14, .ref a_32, .ref a_33, .ref a_34]) := by rw [hkc_258 o0 (by rw [ko0]; decide) (by rw [ko0]; decide) (by rw [ko0]; decide) (by rw [ko0]; decide) (by rw [ko0]; decide) (by rw [ko0]; decide)]; exact hfo_202
        have hfo_269 : f_257 a_30 = .inl (cR, 8, .inr (.inr (.inr (.inr g_239)))) := by rw [hkc_258 a_30 (by rw [ka_30]; decide) (by rw [ka_30]; decide) (by rw [ka_30]; decide) (by rw [ka_30]; decide) (by rw [ka_30]; decide) (by rw [ka_30]; decide)]; exact hfo_238
        have hfo_270 : f_257 a_13 = .inl (cR, 8, .inr (.inr (.inr (.inr g_242)))) := by rw [hkc_258 a_13 (by rw [ka_13]; decide) (by rw [ka_13]; decide) (by rw [ka_13]; decide) (by rw [ka_13]; decide) (by rw [ka_13]; decide) (by rw [ka_13]; decide)]; exact hfo_241
        have hfr0 : ∀ b, kd b ≠ 4 → kd b ≠ 5 → kd b ≠ 7 → kd b ≠ 9 → kd b ≠ 13 → kd b ≠ 500 → kd b ≠ 501 → kd b ≠ 502 → kd b ≠ 503 → kd b ≠ 504 → kd b ≠ 505 → kd b ≠ 506 → kd b ≠ 507 → kd b ≠ 508 → kd b ≠ 509 → kd b ≠ 510 → kd b ≠ 511 → kd b ≠ 514 → f_257 b = f b := fun b q4 q5 q7 q9 q13 q500 q501 q502 q503 q504 q505 q506 q507 q508 q509 q510 q511 q514 => (hkc_258 b q4 q5 q500 q501 q502 q503).trans (hfr0 b q4 q5 q7 q9 q13 q500 q501 q502 q503 q504 q505 q506 q507 q508 q509 q510 q511 q514)
        obtain ⟨x_271, ex_271⟩ : ∃ y : Int32, y_191 + 1 = y := ⟨_, rfl⟩
        have hx_271 : x_271.toInt = y_191.toInt + 1 := by rw [← ex_271, ad_I (by rw [ti_1]; omega) (by rw [ti_1]; omega), ti_1]
        have bx_271 : (1 ≤ x_271.toInt ∧ x_271.toInt ≤ 8) := by constructor <;> omega
        refine lv_iinc (v := x_271) (lv' := [(2, .int x_271), (0, .ref o0), (1, .ref o1)]) hx hb dX7_copyFrom_175 hl (k := 0) rfl ex_271 (by decide) rfl (fun ls hl => ?_)
        refine lv_goto (tgt := 152) hx hb dX7_copyFrom_178 (by decide) ?_
        exact ih_hloop_190 x_271 (by constructor <;> omega) f_257 hG _ _ hP hS hD hfr0 hfo_260 hfo_261 hfo_262 hfo_263 hfo_264 hfo_265 hfo_266 hfo_267 hfo_268 (by omega) ls (lv_sub hl [0, 1, 2] rfl)
  exact hloop_190 9 0 (by decide) f_141 hG _ _ hP hS hD hfr0 hfo_142 hfo_143 hfo_144 hfo_145 hfo_146 hfo_147 hfo_148 hfo_149 hfo_150 (by (try rw [ti_0]) <;> omega) ls hl
