set_option maxHeartbeats 8000000 in
set_option maxRecDepth 100000 in
theorem s_X4_holdsAt_k4_a540 (l : Launch) (D : va_G) (cI cL cZ cR cG cH : ClassId) (Z : zT) (kd : Nat → Nat) (L : List Nat) (f : Nat → va_E) (hG : GI (okc cI cL cZ cR cG cH L kd) kd L f) (o0 : Nat) (mo0 : o0 ∈ L) (ko0 : kd o0 = 4) (p1 : Int32) (o2 : Nat) (mo2 : o2 ∈ L) (ko2 : kd o2 = 540) (p3 : Int32) (bp3 : (0 ≤ p3.toInt ∧ p3.toInt ≤ 16)) (p4 : Int32) (bp4 : (0 ≤ p4.toInt ∧ p4.toInt ≤ 15)) : mPI l D cI cL cZ cR cG cH Z yX4_holdsAt cX4_holdsAt 7 (some .boolean) 1 24 [.ref o0, .int p1, .ref o2, .int p3, .int p4] L f (fun (r : Int32) (f9 : Nat → va_E) => f = f9 ∧ (0 ≤ r.toInt ∧ r.toInt ≤ 1)) := by
  obtain ⟨dC, dI⟩ := D
  refine Met.ofW (cc := cX4_holdsAt) (maxL := 7) (ret := (some .boolean)) (by decide) rfl ?_
  intro p e s m args below meth c s₁ B hml hv
  obtain ⟨rfl, hP, hK, hD0, hN, hZ⟩ := hv
  have hx := B.exec
  have hb := B.bytes
  have hr := B.returns
  have hU : ∀ w ∈ wsU, w.before _ s = true := fun w h => atoms_spec (ws := wU yX4_holdsAt cX4_holdsAt 7 (some .boolean)) B.pre w (List.mem_cons_of_mem _ h)
  have hown : s.vm.findClass RX4 = some m.cls := findClass_of_methodNamed B.named
  have hlocks := B.notSynchronized
  have hD := pl_in hD0
  have hS : va_S (fun q => q ∈ L) s.heap s.heap [] := va_S.rf
  have hl := lv_entry ([.ref o0, .int p1, .ref o2, .int p3, .int p4]) (n := 7) (Nat.le_of_ble_eq_true rfl)
  rw [lg_entry_eq]
  generalize (lg_sl ([.ref o0, .int p1, .ref o2, .int p3, .int p4]) ++ List.replicate (7 - (lg_sl ([.ref o0, .int p1, .ref o2, .int p3, .int p4])).length) Slot.unset).toArray = ls at hl ⊢
  have hl : lv_has ls 7 [(0, .ref o0), (1, .int p1), (2, .ref o2), (3, .int p3), (4, .int p4)] := hl
  have bp1 : ((-2147483648) ≤ p1.toInt ∧ p1.toInt ≤ 2147483647) := ⟨i32_lo _, i32_hi _⟩
  refine lv_aload_n hx hb dX4_holdsAt_0 rfl (lv_at hl 0 rfl) ?_
  obtain ⟨v_2, v_3, v_4, v_5, a_6, a_7, a_8, a_9, v_10, v_11, v_12, hfo_1, bv_2, bv_3, bv_4, bv_5, ⟨ma_6, ka_6⟩, ⟨ma_7, ka_7⟩, ⟨ma_8, ka_8⟩, ⟨ma_9, ka_9⟩⟩ := un_4 (hG _ mo0) ko0
  have bv_10 : ((-2147483648) ≤ v_10.toInt ∧ v_10.toInt ≤ 2147483647) := ⟨i32_lo _, i32_hi _⟩
  have bv_11 : ((-2147483648) ≤ v_11.toInt ∧ v_11.toInt ≤ 2147483647) := ⟨i32_lo _, i32_hi _⟩
  have bv_12 : ((-2147483648) ≤ v_12.toInt ∧ v_12.toInt ≤ 2147483647) := ⟨i32_lo _, i32_hi _⟩
  refine tk_getP (D := (dC, dI)) (ci := 4) (v := .ref a_9) (C := RX4) (T := TX4) (N := 11) hx hb hU inlX4 hown hK hP mo0 hfo_1 rfl 7 (by decide) (hU _ wd_106) (fun _ h9 => h9) rfl dX4_holdsAt_1 ?_
  refine lv_iload_n hx hb dX4_holdsAt_4 rfl (lv_at hl 1 rfl) ?_
  refine tk_SiP (As := [.int p1]) (rest := [.ref a_9]) (n := 1) hx hb hml hown hU hN hZ (s_X5_holding l (dC, dI) cI cL cZ cR cG cH Z kd L f hG p1) wd_1043 wd_844 wd_102 wd_845 (by decide +kernel) ⟨Nat.le_of_ble_eq_true rfl, Nat.le_of_ble_eq_true rfl⟩ hK hP hD hS rfl hl.1 rfl (Nat.le_of_ble_eq_true rfl) dX4_holdsAt_5 ⟨Nat.le_of_ble_eq_true rfl, Nat.le_of_ble_eq_true rfl⟩ (fun x_13 f_14 H locs hw hP hD hS => ?_)
  obtain ⟨rfl, bx_13⟩ := hw
  obtain ⟨g_17, hfo_16, hbg_17⟩ := un_503 (hG _ ma_9) ka_9
  refine tk_ildP hx hb hK hP 0 ma_9 hfo_16 rfl (vp_in_iff.mpr (by constructor <;> omega)) dX4_holdsAt_8 ?_
  refine lv_topi (fun x_18 ex_18 => ?_)
  have bx_18 : ((-2147483648) ≤ x_18.toInt ∧ x_18.toInt ≤ 2147483647) := ⟨i32_lo _, i32_hi _⟩
  refine lv_istore (lv' := [(5, .int x_18), (0, .ref o0), (1, .int p1), (2, .ref o2), (3, .int p3), (4, .int p4)]) hx hb dX4_holdsAt_9 hl (by decide) rfl (fun ls hl => ?_)
  refine lv_iload hx hb dX4_holdsAt_11 (lv_at hl 5 rfl) ?_
  refine lv_iconst (v := 1) hx hb dX4_holdsAt_13 (by decide) ?_
  refine lv_iadd hx hb dX4_holdsAt_14 ?_
  refine lv_topi (fun x_19 ex_19 => ?_)
  have hx_19 : x_19.toInt = p4.toInt + 1 := by rw [ex_19, ad_I (by rw [ti_1]; omega) (by rw [ti_1]; omega), ti_1]
  have bx_19 : (1 ≤ x_19.toInt ∧ x_19.toInt ≤ 16) := by constructor <;> omega
  refine lv_istore (lv' := [(6, .int x_19), (5, .int x_18), (0, .ref o0), (1, .int p1), (2, .ref o2), (3, .int p3), (4, .int p4)]) hx hb dX4_holdsAt_15 hl (by decide) rfl (fun ls hl => ?_)
  have hloop_27 : ∀ (n : Nat), ∀ (y_28 : Int32), (1 ≤ y_28.toInt ∧ y_28.toInt ≤ 16) → ∀ (y_29 : Int32), ((-2147483648) ≤ y_29.toInt ∧ y_29.toInt ≤ 2147483647) → ∀ (H : Heap) (locs : List Loc), va_P (dC, dI) vwCl (va_pl L f) H → va_S (fun q => q ∈ L) s.heap H locs → 16 - y_28.toInt < (n : Int) → ∀ (ls : Array Slot), lv_has ls 7 [(6, .int y_28), (5, .int y_29), (0, .ref o0), (1, .int p1), (2, .ref o2), (3, .int p3), (4, .int p4)] → W p l e (headSpec (wU yX4_holdsAt cX4_holdsAt 7 (some .boolean)) { frames := 1, cells := 0, slots := 0, locals := 24 }).room s m [.ref o0, .int p1, .ref o2, .int p3, .int p4].toArray below meth c H locs 0 0 (MQ below (va_Qi (fun (r : Int32) (f9 : Nat → va_E) => f = f9 ∧ (0 ≤ r.toInt ∧ r.toInt ≤ 1)) (qP (dC, dI) cI cL cZ cR cG cH L) (fun q => q ∈ L)) [.ref o0, .int p1, .ref o2, .int p3, .int p4].toArray s 0 0 (fun q => q ∈ L)) (F0 m 17 ls []) := by
    intro n
    induction n with
    | zero => intro y_28 by_28 y_29 by_29 H locs hP hS hmuhloop_27 ls hl; exfalso; omega
    | succ n ih_hloop_27 =>
      intro y_28 by_28 y_29 by_29 H locs hP hS hmuhloop_27 ls hl
      refine lv_iload hx hb dX4_holdsAt_17 (lv_at hl 0 rfl) ?_
      refine lv_iload_n hx hb dX4_holdsAt_19 rfl (lv_at hl 5 rfl) ?_
      refine lv_icmp_ge (tgt := 61) hx hb dX4_holdsAt_20 (by decide) (fun c_31 => ?_) (fun c_31 => ?_)
      · skip
        rw [Int32.le_iff_toInt_le] at c_31
        refine lv_iload hx hb dX4_holdsAt_61 (lv_at hl 1 rfl) ?_
        refine lv_ldc (v := 133152) hx hb hown (hU _ wd_1042) dX4_holdsAt_63 ?_
        refine lv_iand hx hb dX4_holdsAt_65 ?_
        refine lv_topi (fun x_32 ex_32 => ?_)
        have bx_32 : (0 ≤ x_32.toInt ∧ x_32.toInt ≤ 133152) := by rw [ex_32]; have h8 := an_C y_29 (m := 133152) (by decide); rw [ti_133152] at h8; exact h8
        refine lv_if_eq (tgt := 73) hx hb dX4_holdsAt_66 (by decide) (fun c_33 => ?_) (fun c_33 => ?_)
        · skip
          rw [← Int32.toInt_inj, ti_0] at c_33
          refine lv_iconst (v := 0) hx hb dX4_holdsAt_73 (by decide) ?_
          exact W.zret (v := 0) (ty := .boolean) hx hb hr rfl (fun t ht hW => ⟨⟨0, f, rfl, ⟨rfl, (by decide)⟩, by rw [ht]; exact hP, va_K.moved hW.alike hK, pl_in hD⟩, hS.F ht⟩) hS.2.2 dX4_holdsAt_74
        · skip
          rw [← Int32.toInt_inj, ti_0] at c_33
          refine lv_iconst (v := 1) hx hb dX4_holdsAt_69 (by decide) ?_
          refine lv_goto (tgt := 74) hx hb dX4_holdsAt_70 (by decide) ?_
          exact W.zret (v := 1) (ty := .boolean) hx hb hr rfl (fun t ht hW => ⟨⟨1, f, rfl, ⟨rfl, (by decide)⟩, by rw [ht]; exact hP, va_K.moved hW.alike hK, pl_in hD⟩, hS.F ht⟩) hS.2.2 dX4_holdsAt_74
      · skip
        rw [Int32.le_iff_toInt_le] at c_31
        refine lv_iload hx hb dX4_holdsAt_23 (lv_at hl 1 rfl) ?_
        refine lv_if_eq (tgt := 61) hx hb dX4_holdsAt_25 (by decide) (fun c_34 => ?_) (fun c_34 => ?_)
        · skip
          rw [← Int32.toInt_inj, ti_0] at c_34
          refine lv_iload hx hb dX4_holdsAt_61 (lv_at hl 1 rfl) ?_
          refine lv_ldc (v := 133152) hx hb hown (hU _ wd_1042) dX4_holdsAt_63 ?_
          refine lv_iand hx hb dX4_holdsAt_65 ?_
          refine lv_topi (fun x_35 ex_35 => ?_)
          have bx_35 : (0 ≤ x_35.toInt ∧ x_35.toInt ≤ 133152) := by rw [ex_35]; have h8 := an_C y_29 (m := 133152) (by decide); rw [ti_133152] at h8; exact h8
          refine lv_if_eq (tgt := 73) hx hb dX4_holdsAt_66 (by decide) (fun c_36 => ?_) (fun c_36 => ?_)
          · skip
            rw [← Int32.toInt_inj, ti_0] at c_36
            refine lv_iconst (v := 0) hx hb dX4_holdsAt_73 (by decide) ?_
            exact W.zret (v := 0) (ty := .boolean) hx hb hr rfl (fun t ht hW => ⟨⟨0, f, rfl, ⟨rfl, (by decide)⟩, by rw [ht]; exact hP, va_K.moved hW.alike hK, pl_in hD⟩, hS.F ht⟩) hS.2.2 dX4_holdsAt_74
          · skip
            rw [← Int32.toInt_inj, ti_0] at c_36
            refine lv_iconst (v := 1) hx hb dX4_holdsAt_69 (by decide) ?_
            refine lv_goto (tgt := 74) hx hb dX4_holdsAt_70 (by decide) ?_
            exact W.zret (v := 1) (ty := .boolean) hx hb hr rfl (fun t ht hW => ⟨⟨1, f, rfl, ⟨rfl, (by decide)⟩, by rw [ht]; exact hP, va_K.moved hW.alike hK, pl_in hD⟩, hS.F ht⟩) hS.2.2 dX4_holdsAt_74
        · skip
          rw [← Int32.toInt_inj, ti_0] at c_34
          refine lv_iload hx hb dX4_holdsAt_28 (lv_at hl 1 rfl) ?_
          refine lv_aload_n hx hb dX4_holdsAt_30 rfl (lv_at hl 2 rfl) ?_
          refine tk_getP (D := (dC, dI)) (ci := 4) (v := .int v_12) (C := RX4) (T := TX4) (N := 11) hx hb hU inlX4 hown hK hP mo0 hfo_1 rfl 10 (by decide) (hU _ wd_495) (fun _ h9 => h9) rfl dX4_holdsAt_31 ?_
          refine lv_iand hx hb dX4_holdsAt_34 ?_
          refine lv_topi (fun x_37 ex_37 => ?_)
          have bx_37 : ((-2147483648) ≤ x_37.toInt ∧ x_37.toInt ≤ 2147483647) := ⟨i32_lo _, i32_hi _⟩
          refine lv_if_eq (tgt := 40) hx hb dX4_holdsAt_35 (by decide) (fun c_38 => ?_) (fun c_38 => ?_)
          · skip
            rw [← Int32.toInt_inj, ti_0] at c_38
            refine lv_aload_n hx hb dX4_holdsAt_40 rfl (lv_at hl 2 rfl) ?_
            refine tk_getP (D := (dC, dI)) (ci := 4) (v := .ref a_7) (C := RX4) (T := TX4) (N := 11) hx hb hU inlX4 hown hK hP mo0 hfo_1 rfl 5 (by decide) (hU _ wd_104) (fun _ h9 => h9) rfl dX4_holdsAt_41 ?_
            refine lv_iload hx hb dX4_holdsAt_44 (lv_at hl 1 rfl) ?_
            refine lv_aload_n hx hb dX4_holdsAt_46 rfl (lv_at hl 4 rfl) ?_
            refine lv_iload hx hb dX4_holdsAt_47 (lv_at hl 0 rfl) ?_
            obtain ⟨g_40, hfo_39, hbg_40⟩ := un_540 (hG _ mo2) ko2
            refine tk_ildP hx hb hK hP 0 mo2 hfo_39 rfl (vp_in_iff.mpr (by constructor <;> omega)) dX4_holdsAt_49 ?_
            refine lv_topi (fun x_41 ex_41 => ?_)
            have bx_41 : (0 ≤ x_41.toInt ∧ x_41.toInt ≤ 19) := by rw [ex_41]; exact hbg_40 _
            obtain ⟨a_43, a_44, a_45, v_46, v_47, v_48, hfo_42, ⟨ma_43, ka_43⟩, ⟨ma_44, ka_44⟩, ⟨ma_45, ka_45⟩⟩ := un_5 (hG _ ma_7) ka_7
            have bv_46 : ((-2147483648) ≤ v_46.toInt ∧ v_46.toInt ≤ 2147483647) := ⟨i32_lo _, i32_hi _⟩
            have bv_47 : ((-2147483648) ≤ v_47.toInt ∧ v_47.toInt ≤ 2147483647) := ⟨i32_lo _, i32_hi _⟩
            have bv_48 : ((-2147483648) ≤ v_48.toInt ∧ v_48.toInt ≤ 2147483647) := ⟨i32_lo _, i32_hi _⟩
            refine tk_ViP (As := [.int y_29, .int x_41]) (rest := []) (n := 2) hx hb hml hown hU hN hZ (s_X5_step_k5 l (dC, dI) cI cL cZ cR cG cH Z kd L f hG a_7 ma_7 ka_7 y_29 x_41 (by constructor <;> omega)) wd_1044 wd_833 wd_834 wd_102 wd_835 (by decide +kernel) ⟨Nat.le_of_ble_eq_true rfl, Nat.le_of_ble_eq_true rfl⟩ hK hP hD hS ma_7 hfo_42 5 rfl rfl rfl hl.1 rfl (Nat.le_of_ble_eq_true rfl) dX4_holdsAt_50 ⟨Nat.le_of_ble_eq_true rfl, Nat.le_of_ble_eq_true rfl⟩ (fun x_49 f_50 H locs hw hP hD hS => ?_)
            obtain ⟨rfl, bx_49⟩ := hw
            refine lv_istore (lv' := [(5, .int x_49), (6, .int y_28), (0, .ref o0), (1, .int p1), (2, .ref o2), (3, .int p3), (4, .int p4)]) hx hb dX4_holdsAt_53 hl (by decide) rfl (fun ls hl => ?_)
            obtain ⟨x_52, ex_52⟩ : ∃ y : Int32, y_28 + 1 = y := ⟨_, rfl⟩
            have hx_52 : x_52.toInt = y_28.toInt + 1 := by rw [← ex_52, ad_I (by rw [ti_1]; omega) (by rw [ti_1]; omega), ti_1]
            have bx_52 : (2 ≤ x_52.toInt ∧ x_52.toInt ≤ 16) := by constructor <;> omega
            refine lv_iinc (v := x_52) (lv' := [(6, .int x_52), (5, .int x_49), (0, .ref o0), (1, .int p1), (2, .ref o2), (3, .int p3), (4, .int p4)]) hx hb dX4_holdsAt_55 hl (k := 1) rfl ex_52 (by decide) rfl (fun ls hl => ?_)
            refine lv_goto (tgt := 17) hx hb dX4_holdsAt_58 (by decide) ?_
            exact ih_hloop_27 x_52 (by constructor <;> omega) x_49 (by constructor <;> omega) _ _ hP hS (by omega) ls (lv_sub hl [0, 1, 2, 3, 4, 5, 6] rfl)
          · skip
            rw [← Int32.toInt_inj, ti_0] at c_38
            refine lv_iconst (v := 1) hx hb dX4_holdsAt_38 (by decide) ?_
            exact W.zret (v := 1) (ty := .boolean) hx hb hr rfl (fun t ht hW => ⟨⟨1, f, rfl, ⟨rfl, (by decide)⟩, by rw [ht]; exact hP, va_K.moved hW.alike hK, pl_in hD⟩, hS.F ht⟩) hS.2.2 dX4_holdsAt_39
  exact hloop_27 16 x_19 (by constructor <;> omega) x_18 (by constructor <;> omega) _ _ hP hS (by omega) ls hl
set_option maxHeartbeats 8000000 in
set_option maxRecDepth 100000 in
theorem s_X4_holdsAt_k4_a525_n (l : Launch) (D : va_G) (cI cL cZ cR cG cH : ClassId) (Z : zT) (kd : Nat → Nat) (L : List Nat) (f : Nat → va_E) (hG : GI (okc cI cL cZ cR cG cH L kd) kd L f) (o0 : Nat) (mo0 : o0 ∈ L) (ko0 : kd o0 = 4) (p1 : Int32) (o2 : Nat) (mo2 : o2 ∈ L) (ko2 : kd o2 = 525) (p3 : Int32) (bp3 : (0 ≤ p3.toInt ∧ p3.toInt ≤ 9)) (p4 : Int32) (bp4 : (0 ≤ p4.toInt ∧ p4.toInt ≤ 8)) (hxpre0 : ∀ g9, f o2 = .inl (cI, 9, .inl g9) → ∀ j : Nat, (j : Int) < p3.toInt → 0 ≤ (g9 j).toInt) : mPI l D cI cL cZ cR cG cH Z yX4_holdsAt cX4_holdsAt 7 (some .boolean) 1 24 [.ref o0, .int p1, .ref o2, .int p3, .int p4] L f (fun (r : Int32) (f9 : Nat → va_E) => f = f9 ∧ (0 ≤ r.toInt ∧ r.toInt ≤ 1)) := by
  obtain ⟨dC, dI⟩ := D
  refine Met.ofW (cc := cX4_holdsAt) (maxL := 7) (ret := (some .boolean)) (by decide) rfl ?_
  intro p e s m args below meth c s₁ B hml hv
  obtain ⟨rfl, hP, hK, hD0, hN, hZ⟩ := hv
  have hx := B.exec
  have hb := B.bytes
  have hr := B.returns
  have hU : ∀ w ∈ wsU, w.before _ s = true := fun w h => atoms_spec (ws := wU yX4_holdsAt cX4_holdsAt 7 (some .boolean)) B.pre w (List.mem_cons_of_mem _ h)
  have hown : s.vm.findClass RX4 = some m.cls := findClass_of_methodNamed B.named
  have hlocks := B.notSynchronized
  have hD := pl_in hD0
  have hS : va_S (fun q => q ∈ L) s.heap s.heap [] := va_S.rf
  have hl := lv_entry ([.ref o0, .int p1, .ref o2, .int p3, .int p4]) (n := 7) (Nat.le_of_ble_eq_true rfl)
  rw [lg_entry_eq]
  generalize (lg_sl ([.ref o0, .int p1, .ref o2, .int p3, .int p4]) ++ List.replicate (7 - (lg_sl ([.ref o0, .int p1, .ref o2, .int p3, .int p4])).length) Slot.unset).toArray = ls at hl ⊢
  have hl : lv_has ls 7 [(0, .ref o0), (1, .int p1), (2, .ref o2), (3, .int p3), (4, .int p4)] := hl
  have bp1 : ((-2147483648) ≤ p1.toInt ∧ p1.toInt ≤ 2147483647) := ⟨i32_lo _, i32_hi _⟩
  obtain ⟨g_2, hfo_1, hbg_2⟩ := un_525 (hG _ mo2) ko2
  have hnn2 := hxpre0 g_2 hfo_1
  refine lv_aload_n hx hb dX4_holdsAt_0 rfl (lv_at hl 0 rfl) ?_
  obtain ⟨v_4, v_5, v_6, v_7, a_8, a_9, a_10, a_11, v_12, v_13, v_14, hfo_3, bv_4, bv_5, bv_6, bv_7, ⟨ma_8, ka_8⟩, ⟨ma_9, ka_9⟩, ⟨ma_10, ka_10⟩, ⟨ma_11, ka_11⟩⟩ := un_4 (hG _ mo0) ko0
  have bv_12 : ((-2147483648) ≤ v_12.toInt ∧ v_12.toInt ≤ 2147483647) := ⟨i32_lo _, i32_hi _⟩
  have bv_13 : ((-2147483648) ≤ v_13.toInt ∧ v_13.toInt ≤ 2147483647) := ⟨i32_lo _, i32_hi _⟩
  have bv_14 : ((-2147483648) ≤ v_14.toInt ∧ v_14.toInt ≤ 2147483647) := ⟨i32_lo _, i32_hi _⟩
  refine tk_getP (D := (dC, dI)) (ci := 4) (v := .ref a_11) (C := RX4) (T := TX4) (N := 11) hx hb hU inlX4 hown hK hP mo0 hfo_3 rfl 7 (by decide) (hU _ wd_106) (fun _ h9 => h9) rfl dX4_holdsAt_1 ?_
  refine lv_iload_n hx hb dX4_holdsAt_4 rfl (lv_at hl 1 rfl) ?_
  refine tk_SiP (As := [.int p1]) (rest := [.ref a_11]) (n := 1) hx hb hml hown hU hN hZ (s_X5_holding l (dC, dI) cI cL cZ cR cG cH Z kd L f hG p1) wd_1043 wd_844 wd_102 wd_845 (by decide +kernel) ⟨Nat.le_of_ble_eq_true rfl, Nat.le_of_ble_eq_true rfl⟩ hK hP hD hS rfl hl.1 rfl (Nat.le_of_ble_eq_true rfl) dX4_holdsAt_5 ⟨Nat.le_of_ble_eq_true rfl, Nat.le_of_ble_eq_true rfl⟩ (fun x_15 f_16 H locs hw hP hD hS => ?_)
  obtain ⟨rfl, bx_15⟩ := hw
  obtain ⟨g_19, hfo_18, hbg_19⟩ := un_503 (hG _ ma_11) ka_11
  refine tk_ildP hx hb hK hP 0 ma_11 hfo_18 rfl (vp_in_iff.mpr (by constructor <;> omega)) dX4_holdsAt_8 ?_
  refine lv_topi (fun x_20 ex_20 => ?_)
  have bx_20 : ((-2147483648) ≤ x_20.toInt ∧ x_20.toInt ≤ 2147483647) := ⟨i32_lo _, i32_hi _⟩
  refine lv_istore (lv' := [(5, .int x_20), (0, .ref o0), (1, .int p1), (2, .ref o2), (3, .int p3), (4, .int p4)]) hx hb dX4_holdsAt_9 hl (by decide) rfl (fun ls hl => ?_)
  refine lv_iload hx hb dX4_holdsAt_11 (lv_at hl 5 rfl) ?_
  refine lv_iconst (v := 1) hx hb dX4_holdsAt_13 (by decide) ?_
  refine lv_iadd hx hb dX4_holdsAt_14 ?_
  refine lv_topi (fun x_21 ex_21 => ?_)
  have hx_21 : x_21.toInt = p4.toInt + 1 := by rw [ex_21, ad_I (by rw [ti_1]; omega) (by rw [ti_1]; omega), ti_1]
  have bx_21 : (1 ≤ x_21.toInt ∧ x_21.toInt ≤ 9) := by constructor <;> omega
  refine lv_istore (lv' := [(6, .int x_21), (5, .int x_20), (0, .ref o0), (1, .int p1), (2, .ref o2), (3, .int p3), (4, .int p4)]) hx hb dX4_holdsAt_15 hl (by decide) rfl (fun ls hl => ?_)
  have hloop_30 : ∀ (n : Nat), ∀ (y_31 : Int32), (1 ≤ y_31.toInt ∧ y_31.toInt ≤ 9) → ∀ (y_32 : Int32), ((-2147483648) ≤ y_32.toInt ∧ y_32.toInt ≤ 2147483647) → ∀ (H : Heap) (locs : List Loc), va_P (dC, dI) vwCl (va_pl L f) H → va_S (fun q => q ∈ L) s.heap H locs → 9 - y_31.toInt < (n : Int) → ∀ (ls : Array Slot), lv_has ls 7 [(6, .int y_31), (5, .int y_32), (0, .ref o0), (1, .int p1), (2, .ref o2), (3, .int p3), (4, .int p4)] → W p l e (headSpec (wU yX4_holdsAt cX4_holdsAt 7 (some .boolean)) { frames := 1, cells := 0, slots := 0, locals := 24 }).room s m [.ref o0, .int p1, .ref o2, .int p3, .int p4].toArray below meth c H locs 0 0 (MQ below (va_Qi (fun (r : Int32) (f9 : Nat → va_E) => f = f9 ∧ (0 ≤ r.toInt ∧ r.toInt ≤ 1)) (qP (dC, dI) cI cL cZ cR cG cH L) (fun q => q ∈ L)) [.ref o0, .int p1, .ref o2, .int p3, .int p4].toArray s 0 0 (fun q => q ∈ L)) (F0 m 17 ls []) := by
    intro n
    induction n with
    | zero => intro y_31 by_31 y_32 by_32 H locs hP hS hmuhloop_30 ls hl; exfalso; omega
    | succ n ih_hloop_30 =>
      intro y_31 by_31 y_32 by_32 H locs hP hS hmuhloop_30 ls hl
      refine lv_iload hx hb dX4_holdsAt_17 (lv_at hl 0 rfl) ?_
      refine lv_iload_n hx hb dX4_holdsAt_19 rfl (lv_at hl 5 rfl) ?_
      refine lv_icmp_ge (tgt := 61) hx hb dX4_holdsAt_20 (by decide) (fun c_34 => ?_) (fun c_34 => ?_)
      · skip
        rw [Int32.le_iff_toInt_le] at c_34
        refine lv_iload hx hb dX4_holdsAt_61 (lv_at hl 1 rfl) ?_
        refine lv_ldc (v := 133152) hx hb hown (hU _ wd_1042) dX4_holdsAt_63 ?_
        refine lv_iand hx hb dX4_holdsAt_65 ?_
        refine lv_topi (fun x_35 ex_35 => ?_)
        have bx_35 : (0 ≤ x_35.toInt ∧ x_35.toInt ≤ 133152) := by rw [ex_35]; have h8 := an_C y_32 (m := 133152) (by decide); rw [ti_133152] at h8; exact h8
        refine lv_if_eq (tgt := 73) hx hb dX4_holdsAt_66 (by decide) (fun c_36 => ?_) (fun c_36 => ?_)
        · skip
          rw [← Int32.toInt_inj, ti_0] at c_36
          refine lv_iconst (v := 0) hx hb dX4_holdsAt_73 (by decide) ?_
          exact W.zret (v := 0) (ty := .boolean) hx hb hr rfl (fun t ht hW => ⟨⟨0, f, rfl, ⟨rfl, (by decide)⟩, by rw [ht]; exact hP, va_K.moved hW.alike hK, pl_in hD⟩, hS.F ht⟩) hS.2.2 dX4_holdsAt_74
        · skip
          rw [← Int32.toInt_inj, ti_0] at c_36
          refine lv_iconst (v := 1) hx hb dX4_holdsAt_69 (by decide) ?_
          refine lv_goto (tgt := 74) hx hb dX4_holdsAt_70 (by decide) ?_
          exact W.zret (v := 1) (ty := .boolean) hx hb hr rfl (fun t ht hW => ⟨⟨1, f, rfl, ⟨rfl, (by decide)⟩, by rw [ht]; exact hP, va_K.moved hW.alike hK, pl_in hD⟩, hS.F ht⟩) hS.2.2 dX4_holdsAt_74
      · skip
        rw [Int32.le_iff_toInt_le] at c_34
        refine lv_iload hx hb dX4_holdsAt_23 (lv_at hl 1 rfl) ?_
        refine lv_if_eq (tgt := 61) hx hb dX4_holdsAt_25 (by decide) (fun c_37 => ?_) (fun c_37 => ?_)
        · skip
          rw [← Int32.toInt_inj, ti_0] at c_37
          refine lv_iload hx hb dX4_holdsAt_61 (lv_at hl 1 rfl) ?_
          refine lv_ldc (v := 133152) hx hb hown (hU _ wd_1042) dX4_holdsAt_63 ?_
          refine lv_iand hx hb dX4_holdsAt_65 ?_
          refine lv_topi (fun x_38 ex_38 => ?_)
          have bx_38 : (0 ≤ x_38.toInt ∧ x_38.toInt ≤ 133152) := by rw [ex_38]; have h8 := an_C y_32 (m := 133152) (by decide); rw [ti_133152] at h8; exact h8
          refine lv_if_eq (tgt := 73) hx hb dX4_holdsAt_66 (by decide) (fun c_39 => ?_) (fun c_39 => ?_)
          · skip
            rw [← Int32.toInt_inj, ti_0] at c_39
            refine lv_iconst (v := 0) hx hb dX4_holdsAt_73 (by decide) ?_
            exact W.zret (v := 0) (ty := .boolean) hx hb hr rfl (fun t ht hW => ⟨⟨0, f, rfl, ⟨rfl, (by decide)⟩, by rw [ht]; exact hP, va_K.moved hW.alike hK, pl_in hD⟩, hS.F ht⟩) hS.2.2 dX4_holdsAt_74
          · skip
            rw [← Int32.toInt_inj, ti_0] at c_39
            refine lv_iconst (v := 1) hx hb dX4_holdsAt_69 (by decide) ?_
            refine lv_goto (tgt := 74) hx hb dX4_holdsAt_70 (by decide) ?_
            exact W.zret (v := 1) (ty := .boolean) hx hb hr rfl (fun t ht hW => ⟨⟨1, f, rfl, ⟨rfl, (by decide)⟩, by rw [ht]; exact hP, va_K.moved hW.alike hK, pl_in hD⟩, hS.F ht⟩) hS.2.2 dX4_holdsAt_74
        · skip
          rw [← Int32.toInt_inj, ti_0] at c_37
          refine lv_iload hx hb dX4_holdsAt_28 (lv_at hl 1 rfl) ?_
          refine lv_aload_n hx hb dX4_holdsAt_30 rfl (lv_at hl 2 rfl) ?_
          refine tk_getP (D := (dC, dI)) (ci := 4) (v := .int v_14) (C := RX4) (T := TX4) (N := 11) hx hb hU inlX4 hown hK hP mo0 hfo_3 rfl 10 (by decide) (hU _ wd_495) (fun _ h9 => h9) rfl dX4_holdsAt_31 ?_
          refine lv_iand hx hb dX4_holdsAt_34 ?_
          refine lv_topi (fun x_40 ex_40 => ?_)
          have bx_40 : ((-2147483648) ≤ x_40.toInt ∧ x_40.toInt ≤ 2147483647) := ⟨i32_lo _, i32_hi _⟩
          refine lv_if_eq (tgt := 40) hx hb dX4_holdsAt_35 (by decide) (fun c_41 => ?_) (fun c_41 => ?_)
          · skip
            rw [← Int32.toInt_inj, ti_0] at c_41
            refine lv_aload_n hx hb dX4_holdsAt_40 rfl (lv_at hl 2 rfl) ?_
            refine tk_getP (D := (dC, dI)) (ci := 4) (v := .ref a_9) (C := RX4) (T := TX4) (N := 11) hx hb hU inlX4 hown hK hP mo0 hfo_3 rfl 5 (by decide) (hU _ wd_104) (fun _ h9 => h9) rfl dX4_holdsAt_41 ?_
            refine lv_iload hx hb dX4_holdsAt_44 (lv_at hl 1 rfl) ?_
            refine lv_aload_n hx hb dX4_holdsAt_46 rfl (lv_at hl 4 rfl) ?_
            refine lv_iload hx hb dX4_holdsAt_47 (lv_at hl 0 rfl) ?_
            refine tk_ildP hx hb hK hP 0 mo2 hfo_1 rfl (vp_in_iff.mpr (by constructor <;> omega)) dX4_holdsAt_49 ?_
            refine lv_topi (fun x_42 ex_42 => ?_)
            have hx_42 := hnn2 (Int32.toNatClampNeg y_31) (by have hc9 := cl_I (i := y_31) (by omega); omega)
            rw [← ex_42] at hx_42
            have hdx_42 := hbg_2 (Int32.toNatClampNeg y_31)
            rw [← ex_42] at hdx_42
            have bx_42 : (0 ≤ x_42.toInt ∧ x_42.toInt ≤ 19) := by constructor <;> omega
            obtain ⟨a_44, a_45, a_46, v_47, v_48, v_49, hfo_43, ⟨ma_44, ka_44⟩, ⟨ma_45, ka_45⟩, ⟨ma_46, ka_46⟩⟩ := un_5 (hG _ ma_9) ka_9
            have bv_47 : ((-2147483648) ≤ v_47.toInt ∧ v_47.toInt ≤ 2147483647) := ⟨i32_lo _, i32_hi _⟩
            have bv_48 : ((-2147483648) ≤ v_48.toInt ∧ v_48.toInt ≤ 2147483647) := ⟨i32_lo _, i32_hi _⟩
            have bv_49 : ((-2147483648) ≤ v_49.toInt ∧ v_49.toInt ≤ 2147483647) := ⟨i32_lo _, i32_hi _⟩
            refine tk_ViP (As := [.int y_32, .int x_42]) (rest := []) (n := 2) hx hb hml hown hU hN hZ (s_X5_step_k5 l (dC, dI) cI cL cZ cR cG cH Z kd L f hG a_9 ma_9 ka_9 y_32 x_42 (by constructor <;> omega)) wd_1044 wd_833 wd_834 wd_102 wd_835 (by decide +kernel) ⟨Nat.le_of_ble_eq_true rfl, Nat.le_of_ble_eq_true rfl⟩ hK hP hD hS ma_9 hfo_43 5 rfl rfl rfl hl.1 rfl (Nat.le_of_ble_eq_true rfl) dX4_holdsAt_50 ⟨Nat.le_of_ble_eq_true rfl, Nat.le_of_ble_eq_true rfl⟩ (fun x_50 f_51 H locs hw hP hD hS => ?_)
            obtain ⟨rfl, bx_50⟩ := hw
            refine lv_istore (lv' := [(5, .int x_50), (6, .int y_31), (0, .ref o0), (1, .int p1), (2, .ref o2), (3, .int p3), (4, .int p4)]) hx hb dX4_holdsAt_53 hl (by decide) rfl (fun ls hl => ?_)
            obtain ⟨x_53, ex_53⟩ : ∃ y : Int32, y_31 + 1 = y := ⟨_, rfl⟩
            have hx_53 : x_53.toInt = y_31.toInt + 1 := by rw [← ex_53, ad_I (by rw [ti_1]; omega) (by rw [ti_1]; omega), ti_1]
            have bx_53 : (2 ≤ x_53.toInt ∧ x_53.toInt ≤ 9) := by constructor <;> omega
            refine lv_iinc (v := x_53) (lv' := [(6, .int x_53), (5, .int x_50), (0, .ref o0), (1, .int p1), (2, .ref o2), (3, .int p3), (4, .int p4)]) hx hb dX4_holdsAt_55 hl (k := 1) rfl ex_53 (by decide) rfl (fun ls hl => ?_)
            refine lv_goto (tgt := 17) hx hb dX4_holdsAt_58 (by decide) ?_
            exact ih_hloop_30 x_53 (by constructor <;> omega) x_50 (by constructor <;> omega) _ _ hP hS (by omega) ls (lv_sub hl [0, 1, 2, 3, 4, 5, 6] rfl)
          · skip
            rw [← Int32.toInt_inj, ti_0] at c_41
            refine lv_iconst (v := 1) hx hb dX4_holdsAt_38 (by decide) ?_
            exact W.zret (v := 1) (ty := .boolean) hx hb hr rfl (fun t ht hW => ⟨⟨1, f, rfl, ⟨rfl, (by decide)⟩, by rw [ht]; exact hP, va_K.moved hW.alike hK, pl_in hD⟩, hS.F ht⟩) hS.2.2 dX4_holdsAt_39
  exact hloop_30 9 x_21 (by constructor <;> omega) x_20 (by constructor <;> omega) _ _ hP hS (by omega) ls hl
set_option maxHeartbeats 8000000 in
set_option maxRecDepth 100000 in
theorem s_X4_holdsAt_k4_a516_n (l : Launch) (D : va_G) (cI cL cZ cR cG cH : ClassId) (Z : zT) (kd : Nat → Nat) (L : List Nat) (f : Nat → va_E) (hG : GI (okc cI cL cZ cR cG cH L kd) kd L f) (o0 : Nat) (mo0 : o0 ∈ L) (ko0 : kd o0 = 4) (p1 : Int32) (o2 : Nat) (mo2 : o2 ∈ L) (ko2 : kd o2 = 516) (p3 : Int32) (bp3 : (0 ≤ p3.toInt ∧ p3.toInt ≤ 8)) (p4 : Int32) (bp4 : (0 ≤ p4.toInt ∧ p4.toInt ≤ 7)) (hxpre0 : ∀ g9, f o2 = .inl (cI, 8, .inl g9) → ∀ j : Nat, (j : Int) < p3.toInt → 0 ≤ (g9 j).toInt) : mPI l D cI cL cZ cR cG cH Z yX4_holdsAt cX4_holdsAt 7 (some .boolean) 1 24 [.ref o0, .int p1, .ref o2, .int p3, .int p4] L f (fun (r : Int32) (f9 : Nat → va_E) => f = f9 ∧ (0 ≤ r.toInt ∧ r.toInt ≤ 1)) := by
  obtain ⟨dC, dI⟩ := D
  refine Met.ofW (cc := cX4_holdsAt) (maxL := 7) (ret := (some .boolean)) (by decide) rfl ?_
  intro p e s m args below meth c s₁ B hml hv
  obtain ⟨rfl, hP, hK, hD0, hN, hZ⟩ := hv
  have hx := B.exec
  have hb := B.bytes
  have hr := B.returns
  have hU : ∀ w ∈ wsU, w.before _ s = true := fun w h => atoms_spec (ws := wU yX4_holdsAt cX4_holdsAt 7 (some .boolean)) B.pre w (List.mem_cons_of_mem _ h)
  have hown : s.vm.findClass RX4 = some m.cls := findClass_of_methodNamed B.named
  have hlocks := B.notSynchronized
  have hD := pl_in hD0
  have hS : va_S (fun q => q ∈ L) s.heap s.heap [] := va_S.rf
  have hl := lv_entry ([.ref o0, .int p1, .ref o2, .int p3, .int p4]) (n := 7) (Nat.le_of_ble_eq_true rfl)
  rw [lg_entry_eq]
  generalize (lg_sl ([.ref o0, .int p1, .ref o2, .int p3, .int p4]) ++ List.replicate (7 - (lg_sl ([.ref o0, .int p1, .ref o2, .int p3, .int p4])).length) Slot.unset).toArray = ls at hl ⊢
  have hl : lv_has ls 7 [(0, .ref o0), (1, .int p1), (2, .ref o2), (3, .int p3), (4, .int p4)] := hl
  have bp1 : ((-2147483648) ≤ p1.toInt ∧ p1.toInt ≤ 2147483647) := ⟨i32_lo _, i32_hi _⟩
  obtain ⟨g_2, hfo_1, hbg_2⟩ := un_516 (hG _ mo2) ko2
  have hnn2 := hxpre0 g_2 hfo_1
  refine lv_aload_n hx hb dX4_holdsAt_0 rfl (lv_at hl 0 rfl) ?_
  obtain ⟨v_4, v_5, v_6, v_7, a_8, a_9, a_10, a_11, v_12, v_13, v_14, hfo_3, bv_4, bv_5, bv_6, bv_7, ⟨ma_8, ka_8⟩, ⟨ma_9, ka_9⟩, ⟨ma_10, ka_10⟩, ⟨ma_11, ka_11⟩⟩ := un_4 (hG _ mo0) ko0
  have bv_12 : ((-2147483648) ≤ v_12.toInt ∧ v_12.toInt ≤ 2147483647) := ⟨i32_lo _, i32_hi _⟩
  have bv_13 : ((-2147483648) ≤ v_13.toInt ∧ v_13.toInt ≤ 2147483647) := ⟨i32_lo _, i32_hi _⟩
  have bv_14 : ((-2147483648) ≤ v_14.toInt ∧ v_14.toInt ≤ 2147483647) := ⟨i32_lo _, i32_hi _⟩
  refine tk_getP (D := (dC, dI)) (ci := 4) (v := .ref a_11) (C := RX4) (T := TX4) (N := 11) hx hb hU inlX4 hown hK hP mo0 hfo_3 rfl 7 (by decide) (hU _ wd_106) (fun _ h9 => h9) rfl dX4_holdsAt_1 ?_
  refine lv_iload_n hx hb dX4_holdsAt_4 rfl (lv_at hl 1 rfl) ?_
  refine tk_SiP (As := [.int p1]) (rest := [.ref a_11]) (n := 1) hx hb hml hown hU hN hZ (s_X5_holding l (dC, dI) cI cL cZ cR cG cH Z kd L f hG p1) wd_1043 wd_844 wd_102 wd_845 (by decide +kernel) ⟨Nat.le_of_ble_eq_true rfl, Nat.le_of_ble_eq_true rfl⟩ hK hP hD hS rfl hl.1 rfl (Nat.le_of_ble_eq_true rfl) dX4_holdsAt_5 ⟨Nat.le_of_ble_eq_true rfl, Nat.le_of_ble_eq_true rfl⟩ (fun x_15 f_16 H locs hw hP hD hS => ?_)
  obtain ⟨rfl, bx_15⟩ := hw
  obtain ⟨g_19, hfo_18, hbg_19⟩ := un_503 (hG _ ma_11) ka_11
  refine tk_ildP hx hb hK hP 0 ma_11 hfo_18 rfl (vp_in_iff.mpr (by constructor <;> omega)) dX4_holdsAt_8 ?_
  refine lv_topi (fun x_20 ex_20 => ?_)
  have bx_20 : ((-2147483648) ≤ x_20.toInt ∧ x_20.toInt ≤ 2147483647) := ⟨i32_lo _, i32_hi _⟩
  refine lv_istore (lv' := [(5, .int x_20), (0, .ref o0), (1, .int p1), (2, .ref o2), (3, .int p3), (4, .int p4)]) hx hb dX4_holdsAt_9 hl (by decide) rfl (fun ls hl => ?_)
  refine lv_iload hx hb dX4_holdsAt_11 (lv_at hl 5 rfl) ?_
  refine lv_iconst (v := 1) hx hb dX4_holdsAt_13 (by decide) ?_
  refine lv_iadd hx hb dX4_holdsAt_14 ?_
  refine lv_topi (fun x_21 ex_21 => ?_)
  have hx_21 : x_21.toInt = p4.toInt + 1 := by rw [ex_21, ad_I (by rw [ti_1]; omega) (by rw [ti_1]; omega), ti_1]
  have bx_21 : (1 ≤ x_21.toInt ∧ x_21.toInt ≤ 8) := by constructor <;> omega
  refine lv_istore (lv' := [(6, .int x_21), (5, .int x_20), (0, .ref o0), (1, .int p1), (2, .ref o2), (3, .int p3), (4, .int p4)]) hx hb dX4_holdsAt_15 hl (by decide) rfl (fun ls hl => ?_)
  have hloop_30 : ∀ (n : Nat), ∀ (y_31 : Int32), (1 ≤ y_31.toInt ∧ y_31.toInt ≤ 8) → ∀ (y_32 : Int32), ((-2147483648) ≤ y_32.toInt ∧ y_32.toInt ≤ 2147483647) → ∀ (H : Heap) (locs : List Loc), va_P (dC, dI) vwCl (va_pl L f) H → va_S (fun q => q ∈ L) s.heap H locs → 8 - y_31.toInt < (n : Int) → ∀ (ls : Array Slot), lv_has ls 7 [(6, .int y_31), (5, .int y_32), (0, .ref o0), (1, .int p1), (2, .ref o2), (3, .int p3), (4, .int p4)] → W p l e (headSpec (wU yX4_holdsAt cX4_holdsAt 7 (some .boolean)) { frames := 1, cells := 0, slots := 0, locals := 24 }).room s m [.ref o0, .int p1, .ref o2, .int p3, .int p4].toArray below meth c H locs 0 0 (MQ below (va_Qi (fun (r : Int32) (f9 : Nat → va_E) => f = f9 ∧ (0 ≤ r.toInt ∧ r.toInt ≤ 1)) (qP (dC, dI) cI cL cZ cR cG cH L) (fun q => q ∈ L)) [.ref o0, .int p1, .ref o2, .int p3, .int p4].toArray s 0 0 (fun q => q ∈ L)) (F0 m 17 ls []) := by
    intro n
    induction n with
    | zero => intro y_31 by_31 y_32 by_32 H locs hP hS hmuhloop_30 ls hl; exfalso; omega
    | succ n ih_hloop_30 =>
      intro y_31 by_31 y_32 by_32 H locs hP hS hmuhloop_30 ls hl
      refine lv_iload hx hb dX4_holdsAt_17 (lv_at hl 0 rfl) ?_
      refine lv_iload_n hx hb dX4_holdsAt_19 rfl (lv_at hl 5 rfl) ?_
      refine lv_icmp_ge (tgt := 61) hx hb dX4_holdsAt_20 (by decide) (fun c_34 => ?_) (fun c_34 => ?_)
      · skip
        rw [Int32.le_iff_toInt_le] at c_34
        refine lv_iload hx hb dX4_holdsAt_61 (lv_at hl 1 rfl) ?_
        refine lv_ldc (v := 133152) hx hb hown (hU _ wd_1042) dX4_holdsAt_63 ?_
        refine lv_iand hx hb dX4_holdsAt_65 ?_
        refine lv_topi (fun x_35 ex_35 => ?_)
        have bx_35 : (0 ≤ x_35.toInt ∧ x_35.toInt ≤ 133152) := by rw [ex_35]; have h8 := an_C y_32 (m := 133152) (by decide); rw [ti_133152] at h8; exact h8
        refine lv_if_eq (tgt := 73) hx hb dX4_holdsAt_66 (by decide) (fun c_36 => ?_) (fun c_36 => ?_)
        · skip
          rw [← Int32.toInt_inj, ti_0] at c_36
          refine lv_iconst (v := 0) hx hb dX4_holdsAt_73 (by decide) ?_
          exact W.zret (v := 0) (ty := .boolean) hx hb hr rfl (fun t ht hW => ⟨⟨0, f, rfl, ⟨rfl, (by decide)⟩, by rw [ht]; exact hP, va_K.moved hW.alike hK, pl_in hD⟩, hS.F ht⟩) hS.2.2 dX4_holdsAt_74
        · skip
          rw [← Int32.toInt_inj, ti_0] at c_36
          refine lv_iconst (v := 1) hx hb dX4_holdsAt_69 (by decide) ?_
          refine lv_goto (tgt := 74) hx hb dX4_holdsAt_70 (by decide) ?_
          exact W.zret (v := 1) (ty := .boolean) hx hb hr rfl (fun t ht hW => ⟨⟨1, f, rfl, ⟨rfl, (by decide)⟩, by rw [ht]; exact hP, va_K.moved hW.alike hK, pl_in hD⟩, hS.F ht⟩) hS.2.2 dX4_holdsAt_74
      · skip
        rw [Int32.le_iff_toInt_le] at c_34
        refine lv_iload hx hb dX4_holdsAt_23 (lv_at hl 1 rfl) ?_
        refine lv_if_eq (tgt := 61) hx hb dX4_holdsAt_25 (by decide) (fun c_37 => ?_) (fun c_37 => ?_)
        · skip
          rw [← Int32.toInt_inj, ti_0] at c_37
          refine lv_iload hx hb dX4_holdsAt_61 (lv_at hl 1 rfl) ?_
          refine lv_ldc (v := 133152) hx hb hown (hU _ wd_1042) dX4_holdsAt_63 ?_
          refine lv_iand hx hb dX4_holdsAt_65 ?_
          refine lv_topi (fun x_38 ex_38 => ?_)
          have bx_38 : (0 ≤ x_38.toInt ∧ x_38.toInt ≤ 133152) := by rw [ex_38]; have h8 := an_C y_32 (m := 133152) (by decide); rw [ti_133152] at h8; exact h8
          refine lv_if_eq (tgt := 73) hx hb dX4_holdsAt_66 (by decide) (fun c_39 => ?_) (fun c_39 => ?_)
          · skip
            rw [← Int32.toInt_inj, ti_0] at c_39
            refine lv_iconst (v := 0) hx hb dX4_holdsAt_73 (by decide) ?_
            exact W.zret (v := 0) (ty := .boolean) hx hb hr rfl (fun t ht hW => ⟨⟨0, f, rfl, ⟨rfl, (by decide)⟩, by rw [ht]; exact hP, va_K.moved hW.alike hK, pl_in hD⟩, hS.F ht⟩) hS.2.2 dX4_holdsAt_74
          · skip
            rw [← Int32.toInt_inj, ti_0] at c_39
            refine lv_iconst (v := 1) hx hb dX4_holdsAt_69 (by decide) ?_
            refine lv_goto (tgt := 74) hx hb dX4_holdsAt_70 (by decide) ?_
            exact W.zret (v := 1) (ty := .boolean) hx hb hr rfl (fun t ht hW => ⟨⟨1, f, rfl, ⟨rfl, (by decide)⟩, by rw [ht]; exact hP, va_K.moved hW.alike hK, pl_in hD⟩, hS.F ht⟩) hS.2.2 dX4_holdsAt_74
        · skip
          rw [← Int32.toInt_inj, ti_0] at c_37
          refine lv_iload hx hb dX4_holdsAt_28 (lv_at hl 1 rfl) ?_
          refine lv_aload_n hx hb dX4_holdsAt_30 rfl (lv_at hl 2 rfl) ?_
          refine tk_getP (D := (dC, dI)) (ci := 4) (v := .int v_14) (C := RX4) (T := TX4) (N := 11) hx hb hU inlX4 hown hK hP mo0 hfo_3 rfl 10 (by decide) (hU _ wd_495) (fun _ h9 => h9) rfl dX4_holdsAt_31 ?_
          refine lv_iand hx hb dX4_holdsAt_34 ?_
          refine lv_topi (fun x_40 ex_40 => ?_)
          have bx_40 : ((-2147483648) ≤ x_40.toInt ∧ x_40.toInt ≤ 2147483647) := ⟨i32_lo _, i32_hi _⟩
          refine lv_if_eq (tgt := 40) hx hb dX4_holdsAt_35 (by decide) (fun c_41 => ?_) (fun c_41 => ?_)
          · skip
            rw [← Int32.toInt_inj, ti_0] at c_41
            refine lv_aload_n hx hb dX4_holdsAt_40 rfl (lv_at hl 2 rfl) ?_
            refine tk_getP (D := (dC, dI)) (ci := 4) (v := .ref a_9) (C := RX4) (T := TX4) (N := 11) hx hb hU inlX4 hown hK hP mo0 hfo_3 rfl 5 (by decide) (hU _ wd_104) (fun _ h9 => h9) rfl dX4_holdsAt_41 ?_
            refine lv_iload hx hb dX4_holdsAt_44 (lv_at hl 1 rfl) ?_
            refine lv_aload_n hx hb dX4_holdsAt_46 rfl (lv_at hl 4 rfl) ?_
            refine lv_iload hx hb dX4_holdsAt_47 (lv_at hl 0 rfl) ?_
            refine tk_ildP hx hb hK hP 0 mo2 hfo_1 rfl (vp_in_iff.mpr (by constructor <;> omega)) dX4_holdsAt_49 ?_
            refine lv_topi (fun x_42 ex_42 => ?_)
            have hx_42 := hnn2 (Int32.toNatClampNeg y_31) (by have hc9 := cl_I (i := y_31) (by omega); omega)
            rw [← ex_42] at hx_42
            have hdx_42 := hbg_2 (Int32.toNatClampNeg y_31)
            rw [← ex_42] at hdx_42
            have bx_42 : (0 ≤ x_42.toInt ∧ x_42.toInt ≤ 19) := by constructor <;> omega
            obtain ⟨a_44, a_45, a_46, v_47, v_48, v_49, hfo_43, ⟨ma_44, ka_44⟩, ⟨ma_45, ka_45⟩, ⟨ma_46, ka_46⟩⟩ := un_5 (hG _ ma_9) ka_9
            have bv_47 : ((-2147483648) ≤ v_47.toInt ∧ v_47.toInt ≤ 2147483647) := ⟨i32_lo _, i32_hi _⟩
            have bv_48 : ((-2147483648) ≤ v_48.toInt ∧ v_48.toInt ≤ 2147483647) := ⟨i32_lo _, i32_hi _⟩
            have bv_49 : ((-2147483648) ≤ v_49.toInt ∧ v_49.toInt ≤ 2147483647) := ⟨i32_lo _, i32_hi _⟩
            refine tk_ViP (As := [.int y_32, .int x_42]) (rest := []) (n := 2) hx hb hml hown hU hN hZ (s_X5_step_k5 l (dC, dI) cI cL cZ cR cG cH Z kd L f hG a_9 ma_9 ka_9 y_32 x_42 (by constructor <;> omega)) wd_1044 wd_833 wd_834 wd_102 wd_835 (by decide +kernel) ⟨Nat.le_of_ble_eq_true rfl, Nat.le_of_ble_eq_true rfl⟩ hK hP hD hS ma_9 hfo_43 5 rfl rfl rfl hl.1 rfl (Nat.le_of_ble_eq_true rfl) dX4_holdsAt_50 ⟨Nat.le_of_ble_eq_true rfl, Nat.le_of_ble_eq_true rfl⟩ (fun x_50 f_51 H locs hw hP hD hS => ?_)
            obtain ⟨rfl, bx_50⟩ := hw
            refine lv_istore (lv' := [(5, .int x_50), (6, .int y_31), (0, .ref o0), (1, .int p1), (2, .ref o2), (3, .int p3), (4, .int p4)]) hx hb dX4_holdsAt_53 hl (by decide) rfl (fun ls hl => ?_)
            obtain ⟨x_53, ex_53⟩ : ∃ y : Int32, y_31 + 1 = y := ⟨_, rfl⟩
            have hx_53 : x_53.toInt = y_31.toInt + 1 := by rw [← ex_53, ad_I (by rw [ti_1]; omega) (by rw [ti_1]; omega), ti_1]
            have bx_53 : (2 ≤ x_53.toInt ∧ x_53.toInt ≤ 8) := by constructor <;> omega
            refine lv_iinc (v := x_53) (lv' := [(6, .int x_53), (5, .int x_50), (0, .ref o0), (1, .int p1), (2, .ref o2), (3, .int p3), (4, .int p4)]) hx hb dX4_holdsAt_55 hl (k := 1) rfl ex_53 (by decide) rfl (fun ls hl => ?_)
            refine lv_goto (tgt := 17) hx hb dX4_holdsAt_58 (by decide) ?_
            exact ih_hloop_30 x_53 (by constructor <;> omega) x_50 (by constructor <;> omega) _ _ hP hS (by omega) ls (lv_sub hl [0, 1, 2, 3, 4, 5, 6] rfl)
          · skip
            rw [← Int32.toInt_inj, ti_0] at c_41
            refine lv_iconst (v := 1) hx hb dX4_holdsAt_38 (by decide) ?_
            exact W.zret (v := 1) (ty := .boolean) hx hb hr rfl (fun t ht hW => ⟨⟨1, f, rfl, ⟨rfl, (by decide)⟩, by rw [ht]; exact hP, va_K.moved hW.alike hK, pl_in hD⟩, hS.F ht⟩) hS.2.2 dX4_holdsAt_39
  exact hloop_30 8 x_21 (by constructor <;> omega) x_20 (by constructor <;> omega) _ _ hP hS (by omega) ls hl
set_option maxHeartbeats 8000000 in
set_option maxRecDepth 100000 in
theorem s_X4_firstBreak_k4_a540 (l : Launch) (D : va_G) (cI cL cZ cR cG cH : ClassId) (Z : zT) (kd : Nat → Nat) (L : List Nat) (f : Nat → va_E) (hG : GI (okc cI cL cZ cR cG cH L kd) kd L f) (o0 : Nat) (mo0 : o0 ∈ L) (ko0 : kd o0 = 4) (o1 : Nat) (mo1 : o1 ∈ L) (ko1 : kd o1 = 540) (p2 : Int32) (bp2 : (0 ≤ p2.toInt ∧ p2.toInt ≤ 16)) : mPI l D cI cL cZ cR cG cH Z yX4_firstBreak cX4_firstBreak 6 (some .int) 2 50 [.ref o0, .ref o1, .int p2] L f (fun (r : Int32) (f9 : Nat → va_E) => f = f9 ∧ ((-1) ≤ r.toInt ∧ r.toInt ≤ 15)) := by
  obtain ⟨dC, dI⟩ := D
  refine Met.ofW (cc := cX4_firstBreak) (maxL := 6) (ret := (some .int)) (by decide) rfl ?_
  intro p e s m args below meth c s₁ B hml hv
  obtain ⟨rfl, hP, hK, hD0, hN, hZ⟩ := hv
  have hx := B.exec
  have hb := B.bytes
  have hr := B.returns
  have hU : ∀ w ∈ wsU, w.before _ s = true := fun w h => atoms_spec (ws := wU yX4_firstBreak cX4_firstBreak 6 (some .int)) B.pre w (List.mem_cons_of_mem _ h)
  have hown : s.vm.findClass RX4 = some m.cls := findClass_of_methodNamed B.named
  have hlocks := B.notSynchronized
  have hD := pl_in hD0
  have hS : va_S (fun q => q ∈ L) s.heap s.heap [] := va_S.rf
  have hl := lv_entry ([.ref o0, .ref o1, .int p2]) (n := 6) (Nat.le_of_ble_eq_true rfl)
  rw [lg_entry_eq]
  generalize (lg_sl ([.ref o0, .ref o1, .int p2]) ++ List.replicate (6 - (lg_sl ([.ref o0, .ref o1, .int p2])).length) Slot.unset).toArray = ls at hl ⊢
  have hl : lv_has ls 6 [(0, .ref o0), (1, .ref o1), (2, .int p2)] := hl
  refine lv_aload_n hx hb dX4_firstBreak_0 rfl (lv_at hl 0 rfl) ?_
  obtain ⟨v_2, v_3, v_4, v_5, a_6, a_7, a_8, a_9, v_10, v_11, v_12, hfo_1, bv_2, bv_3, bv_4, bv_5, ⟨ma_6, ka_6⟩, ⟨ma_7, ka_7⟩, ⟨ma_8, ka_8⟩, ⟨ma_9, ka_9⟩⟩ := un_4 (hG _ mo0) ko0
  have bv_10 : ((-2147483648) ≤ v_10.toInt ∧ v_10.toInt ≤ 2147483647) := ⟨i32_lo _, i32_hi _⟩
  have bv_11 : ((-2147483648) ≤ v_11.toInt ∧ v_11.toInt ≤ 2147483647) := ⟨i32_lo _, i32_hi _⟩
  have bv_12 : ((-2147483648) ≤ v_12.toInt ∧ v_12.toInt ≤ 2147483647) := ⟨i32_lo _, i32_hi _⟩
  refine tk_getP (D := (dC, dI)) (ci := 4) (v := .int v_10) (C := RX4) (T := TX4) (N := 11) hx hb hU inlX4 hown hK hP mo0 hfo_1 rfl 8 (by decide) (hU _ wd_493) (fun _ h9 => h9) rfl dX4_firstBreak_1 ?_
  refine lv_istore_n (lv' := [(3, .int v_10), (0, .ref o0), (1, .ref o1), (2, .int p2)]) hx hb dX4_firstBreak_4 rfl hl (by decide) rfl (fun ls hl => ?_)
  refine lv_iconst (v := 0) hx hb dX4_firstBreak_5 (by decide) ?_
  refine lv_istore (lv' := [(4, .int 0), (3, .int v_10), (0, .ref o0), (1, .ref o1), (2, .int p2)]) hx hb dX4_firstBreak_6 hl (by decide) rfl (fun ls hl => ?_)
  have hloop_31 : ∀ (n : Nat), ∀ (y_32 : Int32), (0 ≤ y_32.toInt ∧ y_32.toInt ≤ 16) → ∀ (y_33 : Int32), ((-2147483648) ≤ y_33.toInt ∧ y_33.toInt ≤ 2147483647) → ∀ (H : Heap) (locs : List Loc), va_P (dC, dI) vwCl (va_pl L f) H → va_S (fun q => q ∈ L) s.heap H locs → 16 - y_32.toInt < (n : Int) → ∀ (ls : Array Slot), lv_has ls 6 [(4, .int y_32), (3, .int y_33), (0, .ref o0), (1, .ref o1), (2, .int p2)] → W p l e (headSpec (wU yX4_firstBreak cX4_firstBreak 6 (some .int)) { frames := 2, cells := 0, slots := 0, locals := 50 }).room s m [.ref o0, .ref o1, .int p2].toArray below meth c H locs 0 0 (MQ below (va_Qi (fun (r : Int32) (f9 : Nat → va_E) => f = f9 ∧ ((-1) ≤ r.toInt ∧ r.toInt ≤ 15)) (qP (dC, dI) cI cL cZ cR cG cH L) (fun q => q ∈ L)) [.ref o0, .ref o1, .int p2].toArray s 0 0 (fun q => q ∈ L)) (F0 m 8 ls []) := by
    intro n
    induction n with
    | zero => intro y_32 by_32 y_33 by_33 H locs hP hS hmuhloop_31 ls hl; exfalso; omega
    | succ n ih_hloop_31 =>
      intro y_32 by_32 y_33 by_33 H locs hP hS hmuhloop_31 ls hl
      refine lv_iload hx hb dX4_firstBreak_8 (lv_at hl 0 rfl) ?_
      refine lv_iload_n hx hb dX4_firstBreak_10 rfl (lv_at hl 4 rfl) ?_
      refine lv_icmp_ge (tgt := 80) hx hb dX4_firstBreak_11 (by decide) (fun c_35 => ?_) (fun c_35 => ?_)
      · skip
        rw [Int32.le_iff_toInt_le] at c_35
        refine lv_iconst (v := (-1)) hx hb dX4_firstBreak_80 (by decide) ?_
        exact W.iret (v := (-1)) hx hb hr (fun t ht hW => ⟨⟨(-1), f, rfl, ⟨rfl, (by decide)⟩, by rw [ht]; exact hP, va_K.moved hW.alike hK, pl_in hD⟩, hS.F ht⟩) hS.2.2 dX4_firstBreak_81
      · skip
        rw [Int32.le_iff_toInt_le] at c_35
        refine lv_aload_n hx hb dX4_firstBreak_14 rfl (lv_at hl 2 rfl) ?_
        refine tk_getP (D := (dC, dI)) (ci := 4) (v := .ref a_8) (C := RX4) (T := TX4) (N := 11) hx hb hU inlX4 hown hK hP mo0 hfo_1 rfl 6 (by decide) (hU _ wd_105) (fun _ h9 => h9) rfl dX4_firstBreak_15 ?_
        refine lv_aload_n hx hb dX4_firstBreak_18 rfl (lv_at hl 3 rfl) ?_
        refine lv_iload hx hb dX4_firstBreak_19 (lv_at hl 0 rfl) ?_
        obtain ⟨g_37, hfo_36, hbg_37⟩ := un_540 (hG _ mo1) ko1
        refine tk_ildP hx hb hK hP 0 mo1 hfo_36 rfl (vp_in_iff.mpr (by constructor <;> omega)) dX4_firstBreak_21 ?_
        refine lv_topi (fun x_38 ex_38 => ?_)
        have bx_38 : (0 ≤ x_38.toInt ∧ x_38.toInt ≤ 19) := by rw [ex_38]; exact hbg_37 _
        obtain ⟨g_40, hfo_39, hbg_40⟩ := un_502 (hG _ ma_8) ka_8
        refine tk_ildP hx hb hK hP 0 ma_8 hfo_39 rfl (vp_in_iff.mpr (by constructor <;> omega)) dX4_firstBreak_22 ?_
        refine lv_topi (fun x_41 ex_41 => ?_)
        have bx_41 : (0 ≤ x_41.toInt ∧ x_41.toInt ≤ 2) := by rw [ex_41]; exact hbg_40 _
        refine lv_istore (lv' := [(5, .int x_41), (4, .int y_32), (3, .int y_33), (0, .ref o0), (1, .ref o1), (2, .int p2)]) hx hb dX4_firstBreak_23 hl (by decide) rfl (fun ls hl => ?_)
        refine lv_iload hx hb dX4_firstBreak_25 (lv_at hl 0 rfl) ?_
        refine lv_if_eq (tgt := 56) hx hb dX4_firstBreak_27 (by decide) (fun c_42 => ?_) (fun c_42 => ?_)
        · skip
          rw [← Int32.toInt_inj, ti_0] at c_42
          refine lv_aload_n hx hb dX4_firstBreak_56 rfl (lv_at hl 3 rfl) ?_
          refine tk_getP (D := (dC, dI)) (ci := 4) (v := .ref a_6) (C := RX4) (T := TX4) (N := 11) hx hb hU inlX4 hown hK hP mo0 hfo_1 rfl 4 (by decide) (hU _ wd_103) (fun _ h9 => h9) rfl dX4_firstBreak_57 ?_
          refine lv_iload_n hx hb dX4_firstBreak_60 rfl (lv_at hl 2 rfl) ?_
          refine lv_aload_n hx hb dX4_firstBreak_61 rfl (lv_at hl 4 rfl) ?_
          refine lv_iload hx hb dX4_firstBreak_62 (lv_at hl 1 rfl) ?_
          refine tk_ildP hx hb hK hP 0 mo1 hfo_36 rfl (vp_in_iff.mpr (by constructor <;> omega)) dX4_firstBreak_64 ?_
          refine tk_topi (y := x_38) ex_38.symm ?_
          obtain ⟨a_44, a_45, a_46, v_47, v_48, v_49, hfo_43, ⟨ma_44, ka_44⟩, ⟨ma_45, ka_45⟩, ⟨ma_46, ka_46⟩⟩ := un_5 (hG _ ma_6) ka_6
          have bv_47 : ((-2147483648) ≤ v_47.toInt ∧ v_47.toInt ≤ 2147483647) := ⟨i32_lo _, i32_hi _⟩
          have bv_48 : ((-2147483648) ≤ v_48.toInt ∧ v_48.toInt ≤ 2147483647) := ⟨i32_lo _, i32_hi _⟩
          have bv_49 : ((-2147483648) ≤ v_49.toInt ∧ v_49.toInt ≤ 2147483647) := ⟨i32_lo _, i32_hi _⟩
          refine tk_ViP (As := [.int y_33, .int x_38]) (rest := []) (n := 2) hx hb hml hown hU hN hZ (s_X5_step_k5 l (dC, dI) cI cL cZ cR cG cH Z kd L f hG a_6 ma_6 ka_6 y_33 x_38 (by constructor <;> omega)) wd_1044 wd_833 wd_834 wd_102 wd_835 (by decide +kernel) ⟨Nat.le_of_ble_eq_true rfl, Nat.le_of_ble_eq_true rfl⟩ hK hP hD hS ma_6 hfo_43 5 rfl rfl rfl hl.1 rfl (Nat.le_of_ble_eq_true rfl) dX4_firstBreak_65 ⟨Nat.le_of_ble_eq_true rfl, Nat.le_of_ble_eq_true rfl⟩ (fun x_50 f_51 H locs hw hP hD hS => ?_)
          obtain ⟨rfl, bx_50⟩ := hw
          refine lv_aload_n hx hb dX4_firstBreak_68 rfl (lv_at hl 3 rfl) ?_
          refine tk_getP (D := (dC, dI)) (ci := 4) (v := .int v_11) (C := RX4) (T := TX4) (N := 11) hx hb hU inlX4 hown hK hP mo0 hfo_1 rfl 9 (by decide) (hU _ wd_494) (fun _ h9 => h9) rfl dX4_firstBreak_69 ?_
          refine lv_ior hx hb dX4_firstBreak_72 ?_
          refine lv_topi (fun x_53 ex_53 => ?_)
          have bx_53 : ((-2147483648) ≤ x_53.toInt ∧ x_53.toInt ≤ 2147483647) := ⟨i32_lo _, i32_hi _⟩
          refine lv_istore_n (lv' := [(3, .int x_53), (5, .int x_41), (4, .int y_32), (0, .ref o0), (1, .ref o1), (2, .int p2)]) hx hb dX4_firstBreak_73 rfl hl (by decide) rfl (fun ls hl => ?_)
          obtain ⟨x_54, ex_54⟩ : ∃ y : Int32, y_32 + 1 = y := ⟨_, rfl⟩
          have hx_54 : x_54.toInt = y_32.toInt + 1 := by rw [← ex_54, ad_I (by rw [ti_1]; omega) (by rw [ti_1]; omega), ti_1]
          have bx_54 : (1 ≤ x_54.toInt ∧ x_54.toInt ≤ 16) := by constructor <;> omega
          refine lv_iinc (v := x_54) (lv' := [(4, .int x_54), (3, .int x_53), (5, .int x_41), (0, .ref o0), (1, .ref o1), (2, .int p2)]) hx hb dX4_firstBreak_74 hl (k := 2) rfl ex_54 (by decide) rfl (fun ls hl => ?_)
          refine lv_goto (tgt := 8) hx hb dX4_firstBreak_77 (by decide) ?_
          exact ih_hloop_31 x_54 (by constructor <;> omega) x_53 (by constructor <;> omega) _ _ hP hS (by omega) ls (lv_sub hl [0, 1, 3, 4, 5] rfl)
        · skip
          rw [← Int32.toInt_inj, ti_0] at c_42
          refine lv_aload_n hx hb dX4_firstBreak_30 rfl (lv_at hl 3 rfl) ?_
          refine lv_iload_n hx hb dX4_firstBreak_31 rfl (lv_at hl 2 rfl) ?_
          refine lv_aload_n hx hb dX4_firstBreak_32 rfl (lv_at hl 4 rfl) ?_
          refine lv_iload_n hx hb dX4_firstBreak_33 rfl (lv_at hl 5 rfl) ?_
          refine lv_iload hx hb dX4_firstBreak_34 (lv_at hl 1 rfl) ?_
          refine tk_ViP (As := [.int y_33, .ref o1, .int p2, .int y_32]) (rest := []) (n := 4) hx hb hml hown hU hN hZ (s_X4_holdsAt_k4_a540 l (dC, dI) cI cL cZ cR cG cH Z kd L f hG o0 mo0 ko0 y_33 o1 mo1 ko1 p2 (by constructor <;> omega) y_32 (by constructor <;> omega)) wd_1038 wd_1039 wd_1040 wd_90 wd_1041 (by decide +kernel) ⟨Nat.le_of_ble_eq_true rfl, Nat.le_of_ble_eq_true rfl⟩ hK hP hD hS mo0 hfo_1 4 rfl rfl rfl hl.1 rfl (Nat.le_of_ble_eq_true rfl) dX4_firstBreak_36 ⟨Nat.le_of_ble_eq_true rfl, Nat.le_of_ble_eq_true rfl⟩ (fun x_55 f_56 H locs hw hP hD hS => ?_)
          obtain ⟨rfl, bx_55⟩ := hw
          refine lv_iload hx hb dX4_firstBreak_39 (lv_at hl 0 rfl) ?_
          refine lv_iconst (v := 2) hx hb dX4_firstBreak_41 (by decide) ?_
          have hcut_59 : ∀ (y_58 : Int32), (0 ≤ y_58.toInt ∧ y_58.toInt ≤ 1) → ∀ (ls : Array Slot), lv_has ls 6 [(5, .int x_41), (4, .int y_32), (3, .int y_33), (0, .ref o0), (1, .ref o1), (2, .int p2)] → W p l e (headSpec (wU yX4_firstBreak cX4_firstBreak 6 (some .int)) { frames := 2, cells := 0, slots := 0, locals := 50 }).room s m [.ref o0, .ref o1, .int p2].toArray below meth c H locs 0 0 (MQ below (va_Qi (fun (r : Int32) (f9 : Nat → va_E) => f = f9 ∧ ((-1) ≤ r.toInt ∧ r.toInt ≤ 15)) (qP (dC, dI) cI cL cZ cR cG cH L) (fun q => q ∈ L)) [.ref o0, .ref o1, .int p2].toArray s 0 0 (fun q => q ∈ L)) (F0 m 50 ls [.int y_58, .int x_55]) := by
            intro y_58 by_58 ls hl
            refine lv_icmp_ne (tgt := 56) hx hb dX4_firstBreak_50 (by decide) (fun c_60 => ?_) (fun c_60 => ?_)
            · skip
              rw [← Int32.toInt_inj] at c_60
              refine lv_aload_n hx hb dX4_firstBreak_56 rfl (lv_at hl 3 rfl) ?_
              refine tk_getP (D := (dC, dI)) (ci := 4) (v := .ref a_6) (C := RX4) (T := TX4) (N := 11) hx hb hU inlX4 hown hK hP mo0 hfo_1 rfl 4 (by decide) (hU _ wd_103) (fun _ h9 => h9) rfl dX4_firstBreak_57 ?_
              refine lv_iload_n hx hb dX4_firstBreak_60 rfl (lv_at hl 2 rfl) ?_
              refine lv_aload_n hx hb dX4_firstBreak_61 rfl (lv_at hl 4 rfl) ?_
              refine lv_iload hx hb dX4_firstBreak_62 (lv_at hl 1 rfl) ?_
              refine tk_ildP hx hb hK hP 0 mo1 hfo_36 rfl (vp_in_iff.mpr (by constructor <;> omega)) dX4_firstBreak_64 ?_
              refine tk_topi (y := x_38) ex_38.symm ?_
              obtain ⟨a_62, a_63, a_64, v_65, v_66, v_67, hfo_61, ⟨ma_62, ka_62⟩, ⟨ma_63, ka_63⟩, ⟨ma_64, ka_64⟩⟩ := un_5 (hG _ ma_6) ka_6
              have bv_65 : ((-2147483648) ≤ v_65.toInt ∧ v_65.toInt ≤ 2147483647) := ⟨i32_lo _, i32_hi _⟩
              have bv_66 : ((-2147483648) ≤ v_66.toInt ∧ v_66.toInt ≤ 2147483647) := ⟨i32_lo _, i32_hi _⟩
              have bv_67 : ((-2147483648) ≤ v_67.toInt ∧ v_67.toInt ≤ 2147483647) := ⟨i32_lo _, i32_hi _⟩
              refine tk_ViP (As := [.int y_33, .int x_38]) (rest := []) (n := 2) hx hb hml hown hU hN hZ (s_X5_step_k5 l (dC, dI) cI cL cZ cR cG cH Z kd L f hG a_6 ma_6 ka_6 y_33 x_38 (by constructor <;> omega)) wd_1044 wd_833 wd_834 wd_102 wd_835 (by decide +kernel) ⟨Nat.le_of_ble_eq_true rfl, Nat.le_of_ble_eq_true rfl⟩ hK hP hD hS ma_6 hfo_61 5 rfl rfl rfl hl.1 rfl (Nat.le_of_ble_eq_true rfl) dX4_firstBreak_65 ⟨Nat.le_of_ble_eq_true rfl, Nat.le_of_ble_eq_true rfl⟩ (fun x_68 f_69 H locs hw hP hD hS => ?_)
              obtain ⟨rfl, bx_68⟩ := hw
              refine lv_aload_n hx hb dX4_firstBreak_68 rfl (lv_at hl 3 rfl) ?_
              refine tk_getP (D := (dC, dI)) (ci := 4) (v := .int v_11) (C := RX4) (T := TX4) (N := 11) hx hb hU inlX4 hown hK hP mo0 hfo_1 rfl 9 (by decide) (hU _ wd_494) (fun _ h9 => h9) rfl dX4_firstBreak_69 ?_
              refine lv_ior hx hb dX4_firstBreak_72 ?_
              refine lv_topi (fun x_71 ex_71 => ?_)
              have bx_71 : ((-2147483648) ≤ x_71.toInt ∧ x_71.toInt ≤ 2147483647) := ⟨i32_lo _, i32_hi _⟩
              refine lv_istore_n (lv' := [(3, .int x_71), (5, .int x_41), (4, .int y_32), (0, .ref o0), (1, .ref o1), (2, .int p2)]) hx hb dX4_firstBreak_73 rfl hl (by decide) rfl (fun ls hl => ?_)
              obtain ⟨x_72, ex_72⟩ : ∃ y : Int32, y_32 + 1 = y := ⟨_, rfl⟩
              have hx_72 : x_72.toInt = y_32.toInt + 1 := by rw [← ex_72, ad_I (by rw [ti_1]; omega) (by rw [ti_1]; omega), ti_1]
              have bx_72 : (1 ≤ x_72.toInt ∧ x_72.toInt ≤ 16) := by constructor <;> omega
              refine lv_iinc (v := x_72) (lv' := [(4, .int x_72), (3, .int x_71), (5, .int x_41), (0, .ref o0), (1, .ref o1), (2, .int p2)]) hx hb dX4_firstBreak_74 hl (k := 2) rfl ex_72 (by decide) rfl (fun ls hl => ?_)
              refine lv_goto (tgt := 8) hx hb dX4_firstBreak_77 (by decide) ?_
              exact ih_hloop_31 x_72 (by constructor <;> omega) x_71 (by constructor <;> omega) _ _ hP hS (by omega) ls (lv_sub hl [0, 1, 3, 4, 5] rfl)
            · skip
              rw [← Int32.toInt_inj] at c_60
              refine lv_iload hx hb dX4_firstBreak_53 (lv_at hl 1 rfl) ?_
              exact W.iret (v := y_32) hx hb hr (fun t ht hW => ⟨⟨y_32, f, rfl, ⟨rfl, (by constructor <;> omega)⟩, by rw [ht]; exact hP, va_K.moved hW.alike hK, pl_in hD⟩, hS.F ht⟩) hS.2.2 dX4_firstBreak_55
          refine lv_icmp_ne (tgt := 49) hx hb dX4_firstBreak_42 (by decide) (fun c_73 => ?_) (fun c_73 => ?_)
          · skip
            rw [← Int32.toInt_inj, ti_2] at c_73
            refine lv_iconst (v := 0) hx hb dX4_firstBreak_49 (by decide) ?_
            exact hcut_59 0 (by decide) ls (lv_sub hl [0, 1, 2, 3, 4, 5] rfl)
          · skip
            rw [← Int32.toInt_inj, ti_2] at c_73
            refine lv_iconst (v := 1) hx hb dX4_firstBreak_45 (by decide) ?_
            refine lv_goto (tgt := 50) hx hb dX4_firstBreak_46 (by decide) ?_
            exact hcut_59 1 (by decide) ls (lv_sub hl [0, 1, 2, 3, 4, 5] rfl)
  exact hloop_31 17 0 (by decide) v_10 (by constructor <;> omega) _ _ hP hS (by (try rw [ti_0]) <;> omega) ls hl
set_option maxHeartbeats 8000000 in
set_option maxRecDepth 100000 in
theorem s_X4_firstBreak_k4_a525_n (l : Launch) (D : va_G) (cI cL cZ cR cG cH : ClassId) (Z : zT) (kd : Nat → Nat) (L : List Nat) (f : Nat → va_E) (hG : GI (okc cI cL cZ cR cG cH L kd) kd L f) (o0 : Nat) (mo0 : o0 ∈ L) (ko0 : kd o0 = 4) (o1 : Nat) (mo1 : o1 ∈ L) (ko1 : kd o1 = 525) (p2 : Int32) (bp2 : (0 ≤ p2.toInt ∧ p2.toInt ≤ 9)) (hxpre0 : ∀ g9, f o1 = .inl (cI, 9, .inl g9) → ∀ j : Nat, (j : Int) < p2.toInt → 0 ≤ (g9 j).toInt) : mPI l D cI cL cZ cR cG cH Z yX4_firstBreak cX4_firstBreak 6 (some .int) 2 50 [.ref o0, .ref o1, .int p2] L f (fun (r : Int32) (f9 : Nat → va_E) => f = f9 ∧ ((-1) ≤ r.toInt ∧ r.toInt ≤ 8)) := by
  obtain ⟨dC, dI⟩ := D
  refine Met.ofW (cc := cX4_firstBreak) (maxL := 6) (ret := (some .int)) (by decide) rfl ?_
  intro p e s m args below meth c s₁ B hml hv
  obtain ⟨rfl, hP, hK, hD0, hN, hZ⟩ := hv
  have hx := B.exec
  have hb := B.bytes
  have hr := B.returns
  have hU : ∀ w ∈ wsU, w.before _ s = true := fun w h => atoms_spec (ws := wU yX4_firstBreak cX4_firstBreak 6 (some .int)) B.pre w (List.mem_cons_of_mem _ h)
  have hown : s.vm.findClass RX4 = some m.cls := findClass_of_methodNamed B.named
  have hlocks := B.notSynchronized
  have hD := pl_in hD0
  have hS : va_S (fun q => q ∈ L) s.heap s.heap [] := va_S.rf
  have hl := lv_entry ([.ref o0, .ref o1, .int p2]) (n := 6) (Nat.le_of_ble_eq_true rfl)
  rw [lg_entry_eq]
  generalize (lg_sl ([.ref o0, .ref o1, .int p2]) ++ List.replicate (6 - (lg_sl ([.ref o0, .ref o1, .int p2])).length) Slot.unset).toArray = ls at hl ⊢
  have hl : lv_has ls 6 [(0, .ref o0), (1, .ref o1), (2, .int p2)] := hl
  obtain ⟨g_2, hfo_1, hbg_2⟩ := un_525 (hG _ mo1) ko1
  have hnn1 := hxpre0 g_2 hfo_1
  refine lv_aload_n hx hb dX4_firstBreak_0 rfl (lv_at hl 0 rfl) ?_
  obtain ⟨v_4, v_5, v_6, v_7, a_8, a_9, a_10, a_11, v_12, v_13, v_14, hfo_3, bv_4, bv_5, bv_6, bv_7, ⟨ma_8, ka_8⟩, ⟨ma_9, ka_9⟩, ⟨ma_10, ka_10⟩, ⟨ma_11, ka_11⟩⟩ := un_4 (hG _ mo0) ko0
  have bv_12 : ((-2147483648) ≤ v_12.toInt ∧ v_12.toInt ≤ 2147483647) := ⟨i32_lo _, i32_hi _⟩
  have bv_13 : ((-2147483648) ≤ v_13.toInt ∧ v_13.toInt ≤ 2147483647) := ⟨i32_lo _, i32_hi _⟩
  have bv_14 : ((-2147483648) ≤ v_14.toInt ∧ v_14.toInt ≤ 2147483647) := ⟨i32_lo _, i32_hi _⟩
  refine tk_getP (D := (dC, dI)) (ci := 4) (v := .int v_12) (C := RX4) (T := TX4) (N := 11) hx hb hU inlX4 hown hK hP mo0 hfo_3 rfl 8 (by decide) (hU _ wd_493) (fun _ h9 => h9) rfl dX4_firstBreak_1 ?_
  refine lv_istore_n (lv' := [(3, .int v_12), (0, .ref o0), (1, .ref o1), (2, .int p2)]) hx hb dX4_firstBreak_4 rfl hl (by decide) rfl (fun ls hl => ?_)
  refine lv_iconst (v := 0) hx hb dX4_firstBreak_5 (by decide) ?_
  refine lv_istore (lv' := [(4, .int 0), (3, .int v_12), (0, .ref o0), (1, .ref o1), (2, .int p2)]) hx hb dX4_firstBreak_6 hl (by decide) rfl (fun ls hl => ?_)
  have hloop_36 : ∀ (n : Nat), ∀ (y_37 : Int32), (0 ≤ y_37.toInt ∧ y_37.toInt ≤ 9) → ∀ (y_38 : Int32), ((-2147483648) ≤ y_38.toInt ∧ y_38.toInt ≤ 2147483647) → ∀ (H : Heap) (locs : List Loc), va_P (dC, dI) vwCl (va_pl L f) H → va_S (fun q => q ∈ L) s.heap H locs → 9 - y_37.toInt < (n : Int) → ∀ (ls : Array Slot), lv_has ls 6 [(4, .int y_37), (3, .int y_38), (0, .ref o0), (1, .ref o1), (2, .int p2)] → W p l e (headSpec (wU yX4_firstBreak cX4_firstBreak 6 (some .int)) { frames := 2, cells := 0, slots := 0, locals := 50 }).room s m [.ref o0, .ref o1, .int p2].toArray below meth c H locs 0 0 (MQ below (va_Qi (fun (r : Int32) (f9 : Nat → va_E) => f = f9 ∧ ((-1) ≤ r.toInt ∧ r.toInt ≤ 8)) (qP (dC, dI) cI cL cZ cR cG cH L) (fun q => q ∈ L)) [.ref o0, .ref o1, .int p2].toArray s 0 0 (fun q => q ∈ L)) (F0 m 8 ls []) := by
    intro n
    induction n with
    | zero => intro y_37 by_37 y_38 by_38 H locs hP hS hmuhloop_36 ls hl; exfalso; omega
    | succ n ih_hloop_36 =>
      intro y_37 by_37 y_38 by_38 H locs hP hS hmuhloop_36 ls hl
      refine lv_iload hx hb dX4_firstBreak_8 (lv_at hl 0 rfl) ?_
      refine lv_iload_n hx hb dX4_firstBreak_10 rfl (lv_at hl 4 rfl) ?_
      refine lv_icmp_ge (tgt := 80) hx hb dX4_firstBreak_11 (by decide) (fun c_40 => ?_) (fun c_40 => ?_)
      · skip
        rw [Int32.le_iff_toInt_le] at c_40
        refine lv_iconst (v := (-1)) hx hb dX4_firstBreak_80 (by decide) ?_
        exact W.iret (v := (-1)) hx hb hr (fun t ht hW => ⟨⟨(-1), f, rfl, ⟨rfl, (by decide)⟩, by rw [ht]; exact hP, va_K.moved hW.alike hK, pl_in hD⟩, hS.F ht⟩) hS.2.2 dX4_firstBreak_81
      · skip
        rw [Int32.le_iff_toInt_le] at c_40
        refine lv_aload_n hx hb dX4_firstBreak_14 rfl (lv_at hl 2 rfl) ?_
        refine tk_getP (D := (dC, dI)) (ci := 4) (v := .ref a_10) (C := RX4) (T := TX4) (N := 11) hx hb hU inlX4 hown hK hP mo0 hfo_3 rfl 6 (by decide) (hU _ wd_105) (fun _ h9 => h9) rfl dX4_firstBreak_15 ?_
        refine lv_aload_n hx hb dX4_firstBreak_18 rfl (lv_at hl 3 rfl) ?_
        refine lv_iload hx hb dX4_firstBreak_19 (lv_at hl 0 rfl) ?_
        refine tk_ildP hx hb hK hP 0 mo1 hfo_1 rfl (vp_in_iff.mpr (by constructor <;> omega)) dX4_firstBreak_21 ?_
        refine lv_topi (fun x_41 ex_41 => ?_)
        have hx_41 := hnn1 (Int32.toNatClampNeg y_37) (by have hc9 := cl_I (i := y_37) (by omega); omega)
        rw [← ex_41] at hx_41
        have hdx_41 := hbg_2 (Int32.toNatClampNeg y_37)
        rw [← ex_41] at hdx_41
        have bx_41 : (0 ≤ x_41.toInt ∧ x_41.toInt ≤ 19) := by constructor <;> omega
        obtain ⟨g_43, hfo_42, hbg_43⟩ := un_502 (hG _ ma_10) ka_10
        refine tk_ildP hx hb hK hP 0 ma_10 hfo_42 rfl (vp_in_iff.mpr (by constructor <;> omega)) dX4_firstBreak_22 ?_
        refine lv_topi (fun x_44 ex_44 => ?_)
        have bx_44 : (0 ≤ x_44.toInt ∧ x_44.toInt ≤ 2) := by rw [ex_44]; exact hbg_43 _
        refine lv_istore (lv' := [(5, .int x_44), (4, .int y_37), (3, .int y_38), (0, .ref o0), (1, .ref o1), (2, .int p2)]) hx hb dX4_firstBreak_23 hl (by decide) rfl (fun ls hl => ?_)
        refine lv_iload hx hb dX4_firstBreak_25 (lv_at hl 0 rfl) ?_
        refine lv_if_eq (tgt := 56) hx hb dX4_firstBreak_27 (by decide) (fun c_45 => ?_) (fun c_45 => ?_)
        · skip
          rw [← Int32.toInt_inj, ti_0] at c_45
          refine lv_aload_n hx hb dX4_firstBreak_56 rfl (lv_at hl 3 rfl) ?_
          refine tk_getP (D := (dC, dI)) (ci := 4) (v := .ref a_8) (C := RX4) (T := TX4) (N := 11) hx hb hU inlX4 hown hK hP mo0 hfo_3 rfl 4 (by decide) (hU _ wd_103) (fun _ h9 => h9) rfl dX4_firstBreak_57 ?_
          refine lv_iload_n hx hb dX4_firstBreak_60 rfl (lv_at hl 2 rfl) ?_
          refine lv_aload_n hx hb dX4_firstBreak_61 rfl (lv_at hl 4 rfl) ?_
          refine lv_iload hx hb dX4_firstBreak_62 (lv_at hl 1 rfl) ?_
          refine tk_ildP hx hb hK hP 0 mo1 hfo_1 rfl (vp_in_iff.mpr (by constructor <;> omega)) dX4_firstBreak_64 ?_
          refine tk_topi (y := x_41) ex_41.symm ?_
          obtain ⟨a_47, a_48, a_49, v_50, v_51, v_52, hfo_46, ⟨ma_47, ka_47⟩, ⟨ma_48, ka_48⟩, ⟨ma_49, ka_49⟩⟩ := un_5 (hG _ ma_8) ka_8
          have bv_50 : ((-2147483648) ≤ v_50.toInt ∧ v_50.toInt ≤ 2147483647) := ⟨i32_lo _, i32_hi _⟩
          have bv_51 : ((-2147483648) ≤ v_51.toInt ∧ v_51.toInt ≤ 2147483647) := ⟨i32_lo _, i32_hi _⟩
          have bv_52 : ((-2147483648) ≤ v_52.toInt ∧ v_52.toInt ≤ 2147483647) := ⟨i32_lo _, i32_hi _⟩
          refine tk_ViP (As := [.int y_38, .int x_41]) (rest := []) (n := 2) hx hb hml hown hU hN hZ (s_X5_step_k5 l (dC, dI) cI cL cZ cR cG cH Z kd L f hG a_8 ma_8 ka_8 y_38 x_41 (by constructor <;> omega)) wd_1044 wd_833 wd_834 wd_102 wd_835 (by decide +kernel) ⟨Nat.le_of_ble_eq_true rfl, Nat.le_of_ble_eq_true rfl⟩ hK hP hD hS ma_8 hfo_46 5 rfl rfl rfl hl.1 rfl (Nat.le_of_ble_eq_true rfl) dX4_firstBreak_65 ⟨Nat.le_of_ble_eq_true rfl, Nat.le_of_ble_eq_true rfl⟩ (fun x_53 f_54 H locs hw hP hD hS => ?_)
          obtain ⟨rfl, bx_53⟩ := hw
          refine lv_aload_n hx hb dX4_firstBreak_68 rfl (lv_at hl 3 rfl) ?_
          refine tk_getP (D := (dC, dI)) (ci := 4) (v := .int v_13) (C := RX4) (T := TX4) (N := 11) hx hb hU inlX4 hown hK hP mo0 hfo_3 rfl 9 (by decide) (hU _ wd_494) (fun _ h9 => h9) rfl dX4_firstBreak_69 ?_
          refine lv_ior hx hb dX4_firstBreak_72 ?_
          refine lv_topi (fun x_56 ex_56 => ?_)
          have bx_56 : ((-2147483648) ≤ x_56.toInt ∧ x_56.toInt ≤ 2147483647) := ⟨i32_lo _, i32_hi _⟩
          refine lv_istore_n (lv' := [(3, .int x_56), (5, .int x_44), (4, .int y_37), (0, .ref o0), (1, .ref o1), (2, .int p2)]) hx hb dX4_firstBreak_73 rfl hl (by decide) rfl (fun ls hl => ?_)
          obtain ⟨x_57, ex_57⟩ : ∃ y : Int32, y_37 + 1 = y := ⟨_, rfl⟩
          have hx_57 : x_57.toInt = y_37.toInt + 1 := by rw [← ex_57, ad_I (by rw [ti_1]; omega) (by rw [ti_1]; omega), ti_1]
          have bx_57 : (1 ≤ x_57.toInt ∧ x_57.toInt ≤ 9) := by constructor <;> omega
          refine lv_iinc (v := x_57) (lv' := [(4, .int x_57), (3, .int x_56), (5, .int x_44), (0, .ref o0), (1, .ref o1), (2, .int p2)]) hx hb dX4_firstBreak_74 hl (k := 2) rfl ex_57 (by decide) rfl (fun ls hl => ?_)
          refine lv_goto (tgt := 8) hx hb dX4_firstBreak_77 (by decide) ?_
          exact ih_hloop_36 x_57 (by constructor <;> omega) x_56 (by constructor <;> omega) _ _ hP hS (by omega) ls (lv_sub hl [0, 1, 3, 4, 5] rfl)
        · skip
          rw [← Int32.toInt_inj, ti_0] at c_45
          refine lv_aload_n hx hb dX4_firstBreak_30 rfl (lv_at hl 3 rfl) ?_
          refine lv_iload_n hx hb dX4_firstBreak_31 rfl (lv_at hl 2 rfl) ?_
          refine lv_aload_n hx hb dX4_firstBreak_32 rfl (lv_at hl 4 rfl) ?_
          refine lv_iload_n hx hb dX4_firstBreak_33 rfl (lv_at hl 5 rfl) ?_
          refine lv_iload hx hb dX4_firstBreak_34 (lv_at hl 1 rfl) ?_
          refine tk_ViP (As := [.int y_38, .ref o1, .int p2, .int y_37]) (rest := []) (n := 4) hx hb hml hown hU hN hZ (s_X4_holdsAt_k4_a525_n l (dC, dI) cI cL cZ cR cG cH Z kd L f hG o0 mo0 ko0 y_38 o1 mo1 ko1 p2 (by constructor <;> omega) y_37 (by constructor <;> omega) (fun g9 h9 j hj => by rw [hfo_1] at h9; cases h9; have h8 := hnn1 j (by omega); omega)) wd_1038 wd_1039 wd_1040 wd_90 wd_1041 (by decide +kernel) ⟨Nat.le_of_ble_eq_true rfl, Nat.le_of_ble_eq_true rfl⟩ hK hP hD hS mo0 hfo_3 4 rfl rfl rfl hl.1 rfl (Nat.le_of_ble_eq_true rfl) dX4_firstBreak_36 ⟨Nat.le_of_ble_eq_true rfl, Nat.le_of_ble_eq_true rfl⟩ (fun x_58 f_59 H locs hw hP hD hS => ?_)
          obtain ⟨rfl, bx_58⟩ := hw
          refine lv_iload hx hb dX4_firstBreak_39 (lv_at hl 0 rfl) ?_
          refine lv_iconst (v := 2) hx hb dX4_firstBreak_41 (by decide) ?_
          have hcut_62 : ∀ (y_61 : Int32), (0 ≤ y_61.toInt ∧ y_61.toInt ≤ 1) → ∀ (ls : Array Slot), lv_has ls 6 [(5, .int x_44), (4, .int y_37), (3, .int y_38), (0, .ref o0), (1, .ref o1), (2, .int p2)] → W p l e (headSpec (wU yX4_firstBreak cX4_firstBreak 6 (some .int)) { frames := 2, cells := 0, slots := 0, locals := 50 }).room s m [.ref o0, .ref o1, .int p2].toArray below meth c H locs 0 0 (MQ below (va_Qi (fun (r : Int32) (f9 : Nat → va_E) => f = f9 ∧ ((-1) ≤ r.toInt ∧ r.toInt ≤ 8)) (qP (dC, dI) cI cL cZ cR cG cH L) (fun q => q ∈ L)) [.ref o0, .ref o1, .int p2].toArray s 0 0 (fun q => q ∈ L)) (F0 m 50 ls [.int y_61, .int x_58]) := by
            intro y_61 by_61 ls hl
            refine lv_icmp_ne (tgt := 56) hx hb dX4_firstBreak_50 (by decide) (fun c_63 => ?_) (fun c_63 => ?_)
            · skip
              rw [← Int32.toInt_inj] at c_63
              refine lv_aload_n hx hb dX4_firstBreak_56 rfl (lv_at hl 3 rfl) ?_
              refine tk_getP (D := (dC, dI)) (ci := 4) (v := .ref a_8) (C := RX4) (T := TX4) (N := 11) hx hb hU inlX4 hown hK hP mo0 hfo_3 rfl 4 (by decide) (hU _ wd_103) (fun _ h9 => h9) rfl dX4_firstBreak_57 ?_
              refine lv_iload_n hx hb dX4_firstBreak_60 rfl (lv_at hl 2 rfl) ?_
              refine lv_aload_n hx hb dX4_firstBreak_61 rfl (lv_at hl 4 rfl) ?_
              refine lv_iload hx hb dX4_firstBreak_62 (lv_at hl 1 rfl) ?_
              refine tk_ildP hx hb hK hP 0 mo1 hfo_1 rfl (vp_in_iff.mpr (by constructor <;> omega)) dX4_firstBreak_64 ?_
              refine tk_topi (y := x_41) ex_41.symm ?_
              obtain ⟨a_65, a_66, a_67, v_68, v_69, v_70, hfo_64, ⟨ma_65, ka_65⟩, ⟨ma_66, ka_66⟩, ⟨ma_67, ka_67⟩⟩ := un_5 (hG _ ma_8) ka_8
              have bv_68 : ((-2147483648) ≤ v_68.toInt ∧ v_68.toInt ≤ 2147483647) := ⟨i32_lo _, i32_hi _⟩
              have bv_69 : ((-2147483648) ≤ v_69.toInt ∧ v_69.toInt ≤ 2147483647) := ⟨i32_lo _, i32_hi _⟩
              have bv_70 : ((-2147483648) ≤ v_70.toInt ∧ v_70.toInt ≤ 2147483647) := ⟨i32_lo _, i32_hi _⟩
              refine tk_ViP (As := [.int y_38, .int x_41]) (rest := []) (n := 2) hx hb hml hown hU hN hZ (s_X5_step_k5 l (dC, dI) cI cL cZ cR cG cH Z kd L f hG a_8 ma_8 ka_8 y_38 x_41 (by constructor <;> omega)) wd_1044 wd_833 wd_834 wd_102 wd_835 (by decide +kernel) ⟨Nat.le_of_ble_eq_true rfl, Nat.le_of_ble_eq_true rfl⟩ hK hP hD hS ma_8 hfo_64 5 rfl rfl rfl hl.1 rfl (Nat.le_of_ble_eq_true rfl) dX4_firstBreak_65 ⟨Nat.le_of_ble_eq_true rfl, Nat.le_of_ble_eq_true rfl⟩ (fun x_71 f_72 H locs hw hP hD hS => ?_)
              obtain ⟨rfl, bx_71⟩ := hw
              refine lv_aload_n hx hb dX4_firstBreak_68 rfl (lv_at hl 3 rfl) ?_
              refine tk_getP (D := (dC, dI)) (ci := 4) (v := .int v_13) (C := RX4) (T := TX4) (N := 11) hx hb hU inlX4 hown hK hP mo0 hfo_3 rfl 9 (by decide) (hU _ wd_494) (fun _ h9 => h9) rfl dX4_firstBreak_69 ?_
              refine lv_ior hx hb dX4_firstBreak_72 ?_
              refine lv_topi (fun x_74 ex_74 => ?_)
              have bx_74 : ((-2147483648) ≤ x_74.toInt ∧ x_74.toInt ≤ 2147483647) := ⟨i32_lo _, i32_hi _⟩
              refine lv_istore_n (lv' := [(3, .int x_74), (5, .int x_44), (4, .int y_37), (0, .ref o0), (1, .ref o1), (2, .int p2)]) hx hb dX4_firstBreak_73 rfl hl (by decide) rfl (fun ls hl => ?_)
              obtain ⟨x_75, ex_75⟩ : ∃ y : Int32, y_37 + 1 = y := ⟨_, rfl⟩
              have hx_75 : x_75.toInt = y_37.toInt + 1 := by rw [← ex_75, ad_I (by rw [ti_1]; omega) (by rw [ti_1]; omega), ti_1]
              have bx_75 : (1 ≤ x_75.toInt ∧ x_75.toInt ≤ 9) := by constructor <;> omega
              refine lv_iinc (v := x_75) (lv' := [(4, .int x_75), (3, .int x_74), (5, .int x_44), (0, .ref o0), (1, .ref o1), (2, .int p2)]) hx hb dX4_firstBreak_74 hl (k := 2) rfl ex_75 (by decide) rfl (fun ls hl => ?_)
              refine lv_goto (tgt := 8) hx hb dX4_firstBreak_77 (by decide) ?_
              exact ih_hloop_36 x_75 (by constructor <;> omega) x_74 (by constructor <;> omega) _ _ hP hS (by omega) ls (lv_sub hl [0, 1, 3, 4, 5] rfl)
            · skip
              rw [← Int32.toInt_inj] at c_63
              refine lv_iload hx hb dX4_firstBreak_53 (lv_at hl 1 rfl) ?_
              exact W.iret (v := y_37) hx hb hr (fun t ht hW => ⟨⟨y_37, f, rfl, ⟨rfl, (by constructor <;> omega)⟩, by rw [ht]; exact hP, va_K.moved hW.alike hK, pl_in hD⟩, hS.F ht⟩) hS.2.2 dX4_firstBreak_55
          refine lv_icmp_ne (tgt := 49) hx hb dX4_firstBreak_42 (by decide) (fun c_76 => ?_) (fun c_76 => ?_)
          · skip
            rw [← Int32.toInt_inj, ti_2] at c_76
            refine lv_iconst (v := 0) hx hb dX4_firstBreak_49 (by decide) ?_
            exact hcut_62 0 (by decide) ls (lv_sub hl [0, 1, 2, 3, 4, 5] rfl)
          · skip
            rw [← Int32.toInt_inj, ti_2] at c_76
            refine lv_iconst (v := 1) hx hb dX4_firstBreak_45 (by decide) ?_
            refine lv_goto (tgt := 50) hx hb dX4_firstBreak_46 (by decide) ?_
            exact hcut_62 1 (by decide) ls (lv_sub hl [0, 1, 2, 3, 4, 5] rfl)
  exact hloop_36 10 0 (by decide) v_12 (by constructor <;> omega) _ _ hP hS (by (try rw [ti_0]) <;> omega) ls hl
