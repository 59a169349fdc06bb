set_option maxHeartbeats 8000000 in
set_option maxRecDepth 100000 in
theorem s_X8_endsWell_k8 (l : Launch) (D : va_G) (cI cL cZ cR : ClassId) (kd : Nat → Nat) (L : List Nat) (f : Nat → va_E) (hG : GI (okc cI cL cZ cR L kd) kd L f) (o0 : Nat) (mo0 : o0 ∈ L) (ko0 : kd o0 = 8) (p1 : Int32) (bp1 : (0 ≤ p1.toInt ∧ p1.toInt ≤ 79)) : mPI l D cI cL cZ cR yX8_endsWell cX8_endsWell 3 (some .boolean) 0 0 [.ref o0, .int p1] L f (fun (r : Int32) (f9 : Nat → va_E) => GI (okc cI cL cZ cR L kd) kd L f9 ∧ (0 ≤ r.toInt ∧ r.toInt ≤ 1)) := by
  obtain ⟨dC, dI⟩ := D
  refine Met.ofW (cc := cX8_endsWell) (maxL := 3) (ret := (some .boolean)) (by decide) rfl ?_
  intro p e s m args below meth c s₁ B hml hv
  obtain ⟨rfl, hP, hK, hD0, hN⟩ := hv
  have hx := B.exec
  have hb := B.bytes
  have hr := B.returns
  have hU : ∀ w ∈ wsU, w.before _ s = true := fun w h => atoms_spec (ws := wU yX8_endsWell cX8_endsWell 3 (some .boolean)) B.pre w (List.mem_cons_of_mem _ h)
  have hown : s.vm.findClass RX8 = some m.cls := findClass_of_methodNamed B.named
  have hlocks := B.notSynchronized
  have hD := pl_in hD0
  have hS : va_S (fun q => q ∈ L) s.heap s.heap [] := va_S.rf
  have hl := lv_entry ([.ref o0, .int p1]) (n := 3) (Nat.le_of_ble_eq_true rfl)
  rw [lg_entry_eq]
  generalize (lg_sl ([.ref o0, .int p1]) ++ List.replicate (3 - (lg_sl ([.ref o0, .int p1])).length) Slot.unset).toArray = ls at hl ⊢
  have hl : lv_has ls 3 [(0, .ref o0), (1, .int p1)] := hl
  refine lv_aload_n hx hb dX8_endsWell_0 rfl (lv_at hl 0 rfl) ?_
  obtain ⟨a_2, a_3, a_4, a_5, a_6, hfo_1, ⟨ma_2, ka_2⟩, ⟨ma_3, ka_3⟩, ⟨ma_4, ka_4⟩, ⟨ma_5, ka_5⟩, ⟨ma_6, ka_6⟩⟩ := un_8 (hG _ mo0) ko0
  refine tk_getP (D := (dC, dI)) (ci := 8) (v := .ref a_3) (C := RX8) (T := TX8) (N := 5) hx hb hU inlX8 hown hK hP mo0 hfo_1 rfl 1 (by decide) (hU _ wd_121) (fun _ h9 => h9) rfl dX8_endsWell_1 ?_
  refine lv_iload_n hx hb dX8_endsWell_4 rfl (lv_at hl 1 rfl) ?_
  obtain ⟨g_8, hfo_7, hbg_8⟩ := un_37 (hG _ ma_3) ka_3
  refine tk_ildP hx hb hK hP 0 ma_3 hfo_7 rfl (vp_in_iff.mpr (by constructor <;> omega)) dX8_endsWell_5 ?_
  refine lv_topi (fun x_9 ex_9 => ?_)
  have bx_9 : ((-2147483648) ≤ x_9.toInt ∧ x_9.toInt ≤ 2147483647) := ⟨i32_lo _, i32_hi _⟩
  refine lv_ldc (v := 133152) hx hb hown (hU _ wd_805) dX8_endsWell_6 ?_
  refine lv_iand hx hb dX8_endsWell_8 ?_
  refine lv_topi (fun x_10 ex_10 => ?_)
  have bx_10 : (0 ≤ x_10.toInt ∧ x_10.toInt ≤ 133152) := by rw [ex_10]; have h8 := an_C x_9 (m := 133152) (by decide); rw [ti_133152] at h8; exact h8
  refine lv_if_eq (tgt := 14) hx hb dX8_endsWell_9 (by decide) (fun c_11 => ?_) (fun c_11 => ?_)
  · skip
    rw [← Int32.toInt_inj, ti_0] at c_11
    refine lv_iconst (v := 0) hx hb dX8_endsWell_14 (by decide) ?_
    refine lv_istore_n (lv' := [(2, .int 0), (0, .ref o0), (1, .int p1)]) hx hb dX8_endsWell_15 rfl hl (by decide) rfl (fun ls hl => ?_)
    have hloop_16 : ∀ (n : Nat), ∀ (y_15 : Int32), (0 ≤ y_15.toInt ∧ y_15.toInt ≤ 10) → 10 - y_15.toInt < (n : Int) → ∀ (ls : Array Slot), lv_has ls 3 [(2, .int y_15), (0, .ref o0), (1, .int p1)] → W p l e (headSpec (wU yX8_endsWell cX8_endsWell 3 (some .boolean)) { frames := 0, cells := 0, slots := 0, locals := 0 }).room s m [.ref o0, .int p1].toArray below meth c s.heap [] 0 0 (MQ below (va_Qi (fun (r : Int32) (f9 : Nat → va_E) => GI (okc cI cL cZ cR L kd) kd L f9 ∧ (0 ≤ r.toInt ∧ r.toInt ≤ 1)) (qP (dC, dI) cI cL cZ cR L) (fun q => q ∈ L)) [.ref o0, .int p1].toArray s 0 0 (fun q => q ∈ L)) (F0 m 16 ls []) := by
      intro n
      induction n with
      | zero => intro y_15 by_15 hmuhloop_16 ls hl; exfalso; omega
      | succ n ih_hloop_16 =>
        intro y_15 by_15 hmuhloop_16 ls hl
        refine lv_iload_n hx hb dX8_endsWell_16 rfl (lv_at hl 0 rfl) ?_
        refine lv_aload_n hx hb dX8_endsWell_17 rfl (lv_at hl 1 rfl) ?_
        refine tk_getP (D := (dC, dI)) (ci := 8) (v := .ref a_4) (C := RX8) (T := TX8) (N := 5) hx hb hU inlX8 hown hK hP mo0 hfo_1 rfl 2 (by decide) (hU _ wd_122) (fun _ h9 => h9) rfl dX8_endsWell_18 ?_
        refine lv_iload_n hx hb dX8_endsWell_21 rfl (lv_at hl 2 rfl) ?_
        obtain ⟨g_18, hfo_17, hbg_18⟩ := un_38 (hG _ ma_4) ka_4
        refine tk_ildP hx hb hK hP 0 ma_4 hfo_17 rfl (vp_in_iff.mpr (by constructor <;> omega)) dX8_endsWell_22 ?_
        refine lv_topi (fun x_19 ex_19 => ?_)
        have bx_19 : (0 ≤ x_19.toInt ∧ x_19.toInt ≤ 10) := by rw [ex_19]; exact hbg_18 _
        refine lv_icmp_ge (tgt := 51) hx hb dX8_endsWell_23 (by decide) (fun c_20 => ?_) (fun c_20 => ?_)
        · skip
          rw [Int32.le_iff_toInt_le] at c_20
          refine lv_iconst (v := 1) hx hb dX8_endsWell_51 (by decide) ?_
          exact W.zret (v := 1) (ty := .boolean) hx hb hr rfl (fun t ht hW => ⟨⟨1, f, rfl, ⟨hG, (by decide)⟩, by rw [ht]; exact hP, va_K.moved hW.alike hK, pl_in hD⟩, hS.F ht⟩) hS.2.2 dX8_endsWell_52
        · skip
          rw [Int32.le_iff_toInt_le] at c_20
          refine lv_aload_n hx hb dX8_endsWell_26 rfl (lv_at hl 1 rfl) ?_
          refine tk_getP (D := (dC, dI)) (ci := 8) (v := .ref a_5) (C := RX8) (T := TX8) (N := 5) hx hb hU inlX8 hown hK hP mo0 hfo_1 rfl 3 (by decide) (hU _ wd_123) (fun _ h9 => h9) rfl dX8_endsWell_27 ?_
          refine lv_iload_n hx hb dX8_endsWell_30 rfl (lv_at hl 2 rfl) ?_
          refine lv_bipush (v := 10) hx hb dX8_endsWell_31 (by decide) ?_
          refine lv_imul hx hb dX8_endsWell_33 ?_
          refine lv_topi (fun x_21 ex_21 => ?_)
          have hx_21 : x_21.toInt = p1.toInt * 10 := by rw [ex_21, ml_I (by rw [ti_10]; omega) (by rw [ti_10]; omega), ti_10]
          have bx_21 : (0 ≤ x_21.toInt ∧ x_21.toInt ≤ 790) := by constructor <;> omega
          refine lv_iload_n hx hb dX8_endsWell_34 rfl (lv_at hl 0 rfl) ?_
          refine lv_iadd hx hb dX8_endsWell_35 ?_
          refine lv_topi (fun x_22 ex_22 => ?_)
          have hx_22 : x_22.toInt = x_21.toInt + y_15.toInt := by rw [ex_22, ad_I (by omega) (by omega)]
          have bx_22 : (0 ≤ x_22.toInt ∧ x_22.toInt ≤ 799) := by constructor <;> omega
          obtain ⟨g_24, hfo_23, hbg_24⟩ := un_39 (hG _ ma_5) ka_5
          refine tk_ildP hx hb hK hP 0 ma_5 hfo_23 rfl (vp_in_iff.mpr (by constructor <;> omega)) dX8_endsWell_36 ?_
          refine lv_topi (fun x_25 ex_25 => ?_)
          have bx_25 : ((-2147483648) ≤ x_25.toInt ∧ x_25.toInt ≤ 2147483647) := ⟨i32_lo _, i32_hi _⟩
          refine lv_ldc (v := 133152) hx hb hown (hU _ wd_805) dX8_endsWell_37 ?_
          refine lv_iand hx hb dX8_endsWell_39 ?_
          refine lv_topi (fun x_26 ex_26 => ?_)
          have bx_26 : (0 ≤ x_26.toInt ∧ x_26.toInt ≤ 133152) := by rw [ex_26]; have h8 := an_C x_25 (m := 133152) (by decide); rw [ti_133152] at h8; exact h8
          refine lv_if_ne (tgt := 45) hx hb dX8_endsWell_40 (by decide) (fun c_27 => ?_) (fun c_27 => ?_)
          · skip
            rw [← Int32.toInt_inj, ti_0] at c_27
            obtain ⟨x_28, ex_28⟩ : ∃ y : Int32, y_15 + 1 = y := ⟨_, rfl⟩
            have hx_28 : x_28.toInt = y_15.toInt + 1 := by rw [← ex_28, ad_I (by rw [ti_1]; omega) (by rw [ti_1]; omega), ti_1]
            have bx_28 : (1 ≤ x_28.toInt ∧ x_28.toInt ≤ 10) := by constructor <;> omega
            refine lv_iinc (v := x_28) (lv' := [(2, .int x_28), (0, .ref o0), (1, .int p1)]) hx hb dX8_endsWell_45 hl (k := 0) rfl ex_28 (by decide) rfl (fun ls hl => ?_)
            refine lv_goto (tgt := 16) hx hb dX8_endsWell_48 (by decide) ?_
            exact ih_hloop_16 x_28 (by constructor <;> omega) (by omega) ls (lv_sub hl [0, 1, 2] rfl)
          · skip
            rw [← Int32.toInt_inj, ti_0] at c_27
            refine lv_iconst (v := 0) hx hb dX8_endsWell_43 (by decide) ?_
            exact W.zret (v := 0) (ty := .boolean) hx hb hr rfl (fun t ht hW => ⟨⟨0, f, rfl, ⟨hG, (by decide)⟩, by rw [ht]; exact hP, va_K.moved hW.alike hK, pl_in hD⟩, hS.F ht⟩) hS.2.2 dX8_endsWell_44
    exact hloop_16 11 0 (by decide) (by (try simp only [ti_0]); omega) ls hl
  · skip
    rw [← Int32.toInt_inj, ti_0] at c_11
    refine lv_iconst (v := 0) hx hb dX8_endsWell_12 (by decide) ?_
    exact W.zret (v := 0) (ty := .boolean) hx hb hr rfl (fun t ht hW => ⟨⟨0, f, rfl, ⟨hG, (by decide)⟩, by rw [ht]; exact hP, va_K.moved hW.alike hK, pl_in hD⟩, hS.F ht⟩) hS.2.2 dX8_endsWell_13
set_option maxHeartbeats 8000000 in
set_option maxRecDepth 100000 in
theorem s_X8_finish_k8 (l : Launch) (D : va_G) (cI cL cZ cR : ClassId) (kd : Nat → Nat) (L : List Nat) (f : Nat → va_E) (hG : GI (okc cI cL cZ cR L kd) kd L f) (o0 : Nat) (mo0 : o0 ∈ L) (ko0 : kd o0 = 8) (p1 : Int32) (p2 : Int32) (bp2 : (0 ≤ p2.toInt ∧ p2.toInt ≤ 9)) : mPI l D cI cL cZ cR yX8_finish cX8_finish 8 (some .int) 1 22 [.ref o0, .int p1, .int p2] L f (fun (r : Int32) (f9 : Nat → va_E) => GI (okc cI cL cZ cR L kd) kd L f9 ∧ (0 ≤ r.toInt ∧ r.toInt ≤ 255)) := by
  obtain ⟨dC, dI⟩ := D
  refine Met.ofW (cc := cX8_finish) (maxL := 8) (ret := (some .int)) (by decide) rfl ?_
  intro p e s m args below meth c s₁ B hml hv
  obtain ⟨rfl, hP, hK, hD0, hN⟩ := hv
  have hx := B.exec
  have hb := B.bytes
  have hr := B.returns
  have hU : ∀ w ∈ wsU, w.before _ s = true := fun w h => atoms_spec (ws := wU yX8_finish cX8_finish 8 (some .int)) B.pre w (List.mem_cons_of_mem _ h)
  have hown : s.vm.findClass RX8 = some m.cls := findClass_of_methodNamed B.named
  have hlocks := B.notSynchronized
  have hD := pl_in hD0
  have hS : va_S (fun q => q ∈ L) s.heap s.heap [] := va_S.rf
  have hl := lv_entry ([.ref o0, .int p1, .int p2]) (n := 8) (Nat.le_of_ble_eq_true rfl)
  rw [lg_entry_eq]
  generalize (lg_sl ([.ref o0, .int p1, .int p2]) ++ List.replicate (8 - (lg_sl ([.ref o0, .int p1, .int p2])).length) Slot.unset).toArray = ls at hl ⊢
  have hl : lv_has ls 8 [(0, .ref o0), (1, .int p1), (2, .int p2)] := hl
  have bp1 : ((-2147483648) ≤ p1.toInt ∧ p1.toInt ≤ 2147483647) := ⟨i32_lo _, i32_hi _⟩
  refine lv_aload_n hx hb dX8_finish_0 rfl (lv_at hl 0 rfl) ?_
  obtain ⟨a_2, a_3, a_4, a_5, a_6, hfo_1, ⟨ma_2, ka_2⟩, ⟨ma_3, ka_3⟩, ⟨ma_4, ka_4⟩, ⟨ma_5, ka_5⟩, ⟨ma_6, ka_6⟩⟩ := un_8 (hG _ mo0) ko0
  refine tk_getP (D := (dC, dI)) (ci := 8) (v := .ref a_6) (C := RX8) (T := TX8) (N := 5) hx hb hU inlX8 hown hK hP mo0 hfo_1 rfl 4 (by decide) (hU _ wd_124) (fun _ h9 => h9) rfl dX8_finish_1 ?_
  refine lv_iload_n hx hb dX8_finish_4 rfl (lv_at hl 2 rfl) ?_
  obtain ⟨g_8, hfo_7, hbg_8⟩ := un_40 (hG _ ma_6) ka_6
  refine tk_ildP hx hb hK hP 0 ma_6 hfo_7 rfl (vp_in_iff.mpr (by constructor <;> omega)) dX8_finish_5 ?_
  refine lv_topi (fun x_9 ex_9 => ?_)
  have bx_9 : (0 ≤ x_9.toInt ∧ x_9.toInt ≤ 255) := by rw [ex_9]; exact hbg_8 _
  refine lv_istore_n (lv' := [(3, .int x_9), (0, .ref o0), (1, .int p1), (2, .int p2)]) hx hb dX8_finish_6 rfl hl (by decide) rfl (fun ls hl => ?_)
  refine lv_iload_n hx hb dX8_finish_7 rfl (lv_at hl 2 rfl) ?_
  refine lv_iload_n hx hb dX8_finish_8 rfl (lv_at hl 0 rfl) ?_
  refine lv_iconst (v := (-1)) hx hb dX8_finish_9 (by decide) ?_
  refine lv_ixor hx hb dX8_finish_10 ?_
  refine lv_topi (fun x_10 ex_10 => ?_)
  have bx_10 : ((-2147483648) ≤ x_10.toInt ∧ x_10.toInt ≤ 2147483647) := ⟨i32_lo _, i32_hi _⟩
  refine lv_iand hx hb dX8_finish_11 ?_
  refine lv_topi (fun x_11 ex_11 => ?_)
  have bx_11 : ((-2147483648) ≤ x_11.toInt ∧ x_11.toInt ≤ 2147483647) := ⟨i32_lo _, i32_hi _⟩
  refine lv_istore (lv' := [(4, .int x_11), (3, .int x_9), (0, .ref o0), (1, .int p1), (2, .int p2)]) hx hb dX8_finish_12 hl (by decide) rfl (fun ls hl => ?_)
  refine lv_iload_n hx hb dX8_finish_14 rfl (lv_at hl 4 rfl) ?_
  refine lv_bipush (v := 8) hx hb dX8_finish_15 (by decide) ?_
  refine lv_imul hx hb dX8_finish_17 ?_
  refine lv_topi (fun x_12 ex_12 => ?_)
  have hx_12 : x_12.toInt = p2.toInt * 8 := by rw [ex_12, ml_I (by rw [ti_8]; omega) (by rw [ti_8]; omega), ti_8]
  have bx_12 : (0 ≤ x_12.toInt ∧ x_12.toInt ≤ 72) := by constructor <;> omega
  refine lv_istore (lv' := [(5, .int x_12), (4, .int x_11), (3, .int x_9), (0, .ref o0), (1, .int p1), (2, .int p2)]) hx hb dX8_finish_18 hl (by decide) rfl (fun ls hl => ?_)
  refine lv_iconst (v := 0) hx hb dX8_finish_20 (by decide) ?_
  refine lv_istore (lv' := [(6, .int 0), (5, .int x_12), (4, .int x_11), (3, .int x_9), (0, .ref o0), (1, .int p1), (2, .int p2)]) hx hb dX8_finish_21 hl (by decide) rfl (fun ls hl => ?_)
  have hloop_25 : ∀ (n : Nat), ∀ (y_22 : Int32), (0 ≤ y_22.toInt ∧ y_22.toInt ≤ 8) → ∀ (y_23 : Int32), (0 ≤ y_23.toInt ∧ y_23.toInt ≤ 255) → ∀ (f_24 : Nat → va_E), GI (okc cI cL cZ cR L kd) kd L f_24 → ∀ (H : Heap) (locs : List Loc), va_P (dC, dI) vwCl (va_pl L f_24) H → va_D (fun q => q ∈ L) (va_pl L f_24) → va_S (fun q => q ∈ L) s.heap H locs → 8 - y_22.toInt < (n : Int) → ∀ (ls : Array Slot), lv_has ls 8 [(6, .int y_22), (5, .int x_12), (4, .int x_11), (3, .int y_23), (0, .ref o0), (1, .int p1), (2, .int p2)] → W p l e (headSpec (wU yX8_finish cX8_finish 8 (some .int)) { frames := 1, cells := 0, slots := 0, locals := 22 }).room s m [.ref o0, .int p1, .int p2].toArray below meth c H locs 0 0 (MQ below (va_Qi (fun (r : Int32) (f9 : Nat → va_E) => GI (okc cI cL cZ cR L kd) kd L f9 ∧ (0 ≤ r.toInt ∧ r.toInt ≤ 255)) (qP (dC, dI) cI cL cZ cR L) (fun q => q ∈ L)) [.ref o0, .int p1, .int p2].toArray s 0 0 (fun q => q ∈ L)) (F0 m 23 ls []) := by
    intro n
    induction n with
    | zero => intro y_22 by_22 y_23 by_23 f_24 hG H locs hP hD hS hmuhloop_25 ls hl; exfalso; omega
    | succ n ih_hloop_25 =>
      intro y_22 by_22 y_23 by_23 f_24 hG H locs hP hD hS hmuhloop_25 ls hl
      refine lv_iload hx hb dX8_finish_23 (lv_at hl 0 rfl) ?_
      refine lv_bipush (v := 8) hx hb dX8_finish_25 (by decide) ?_
      have hcut_26 : ∀ (ls : Array Slot), lv_has ls 8 [(6, .int y_22), (5, .int x_12), (4, .int x_11), (3, .int y_23), (0, .ref o0), (1, .int p1), (2, .int p2)] → W p l e (headSpec (wU yX8_finish cX8_finish 8 (some .int)) { frames := 1, cells := 0, slots := 0, locals := 22 }).room s m [.ref o0, .int p1, .int p2].toArray below meth c H locs 0 0 (MQ below (va_Qi (fun (r : Int32) (f9 : Nat → va_E) => GI (okc cI cL cZ cR L kd) kd L f9 ∧ (0 ≤ r.toInt ∧ r.toInt ≤ 255)) (qP (dC, dI) cI cL cZ cR L) (fun q => q ∈ L)) [.ref o0, .int p1, .int p2].toArray s 0 0 (fun q => q ∈ L)) (F0 m 110 ls []) := by
        intro ls hl
        refine lv_iload_n hx hb dX8_finish_110 rfl (lv_at hl 3 rfl) ?_
        exact W.iret (v := y_23) hx hb hr (fun t ht hW => ⟨⟨y_23, f_24, rfl, ⟨hG, (by constructor <;> omega)⟩, by rw [ht]; exact hP, va_K.moved hW.alike hK, pl_in hD⟩, hS.F ht⟩) hS.2.2 dX8_finish_111
      refine lv_icmp_ge (tgt := 110) hx hb dX8_finish_27 (by decide) (fun c_27 => ?_) (fun c_27 => ?_)
      · skip
        rw [Int32.le_iff_toInt_le, ti_8] at c_27
        exact hcut_26 ls (lv_sub hl [0, 1, 2, 3, 4, 5, 6] rfl)
      · skip
        rw [Int32.le_iff_toInt_le, ti_8] at c_27
        refine lv_iload hx hb dX8_finish_30 (lv_at hl 2 rfl) ?_
        refine lv_iload hx hb dX8_finish_32 (lv_at hl 0 rfl) ?_
        refine lv_ishr hx hb dX8_finish_34 ?_
        refine lv_topi (fun x_28 ex_28 => ?_)
        have bx_28 : ((-2147483648) ≤ x_28.toInt ∧ x_28.toInt ≤ 2147483647) := ⟨i32_lo _, i32_hi _⟩
        refine lv_if_eq (tgt := 110) hx hb dX8_finish_35 (by decide) (fun c_29 => ?_) (fun c_29 => ?_)
        · skip
          rw [← Int32.toInt_inj, ti_0] at c_29
          exact hcut_26 ls (lv_sub hl [0, 1, 2, 3, 4, 5, 6] rfl)
        · skip
          rw [← Int32.toInt_inj, ti_0] at c_29
          refine lv_aload_n hx hb dX8_finish_38 rfl (lv_at hl 4 rfl) ?_
          obtain ⟨a_31, a_32, a_33, a_34, a_35, hfo_30, ⟨ma_31, ka_31⟩, ⟨ma_32, ka_32⟩, ⟨ma_33, ka_33⟩, ⟨ma_34, ka_34⟩, ⟨ma_35, ka_35⟩⟩ := un_8 (hG _ mo0) ko0
          refine tk_getP (D := (dC, dI)) (ci := 8) (v := .ref a_32) (C := RX8) (T := TX8) (N := 5) hx hb hU inlX8 hown hK hP mo0 hfo_30 rfl 1 (by decide) (hU _ wd_121) (fun _ h9 => h9) rfl dX8_finish_39 ?_
          refine lv_iload hx hb dX8_finish_42 (lv_at hl 1 rfl) ?_
          refine lv_iload hx hb dX8_finish_44 (lv_at hl 0 rfl) ?_
          refine lv_iadd hx hb dX8_finish_46 ?_
          refine lv_topi (fun x_36 ex_36 => ?_)
          have hx_36 : x_36.toInt = x_12.toInt + y_22.toInt := by rw [ex_36, ad_I (by omega) (by omega)]
          have bx_36 : (0 ≤ x_36.toInt ∧ x_36.toInt ≤ 79) := by constructor <;> omega
          obtain ⟨g_38, hfo_37, hbg_38⟩ := un_37 (hG _ ma_32) ka_32
          refine tk_ildP hx hb hK hP 0 ma_32 hfo_37 rfl (vp_in_iff.mpr (by constructor <;> omega)) dX8_finish_47 ?_
          refine lv_topi (fun x_39 ex_39 => ?_)
          have bx_39 : ((-2147483648) ≤ x_39.toInt ∧ x_39.toInt ≤ 2147483647) := ⟨i32_lo _, i32_hi _⟩
          refine lv_aload_n hx hb dX8_finish_48 rfl (lv_at hl 4 rfl) ?_
          refine tk_getP (D := (dC, dI)) (ci := 8) (v := .ref a_33) (C := RX8) (T := TX8) (N := 5) hx hb hU inlX8 hown hK hP mo0 hfo_30 rfl 2 (by decide) (hU _ wd_122) (fun _ h9 => h9) rfl dX8_finish_49 ?_
          refine lv_iload hx hb dX8_finish_52 (lv_at hl 1 rfl) ?_
          refine lv_iload hx hb dX8_finish_54 (lv_at hl 0 rfl) ?_
          refine lv_iadd hx hb dX8_finish_56 ?_
          refine lv_topi (fun x_40 ex_40 => ?_)
          have hx_40 : x_40.toInt = x_12.toInt + y_22.toInt := by rw [ex_40, ad_I (by omega) (by omega)]
          have bx_40 : (0 ≤ x_40.toInt ∧ x_40.toInt ≤ 79) := by constructor <;> omega
          obtain ⟨g_42, hfo_41, hbg_42⟩ := un_38 (hG _ ma_33) ka_33
          refine tk_ildP hx hb hK hP 0 ma_33 hfo_41 rfl (vp_in_iff.mpr (by constructor <;> omega)) dX8_finish_57 ?_
          refine lv_topi (fun x_43 ex_43 => ?_)
          have bx_43 : (0 ≤ x_43.toInt ∧ x_43.toInt ≤ 10) := by rw [ex_43]; exact hbg_42 _
          refine lv_ior hx hb dX8_finish_58 ?_
          refine lv_topi (fun x_44 ex_44 => ?_)
          have bx_44 : ((-2147483648) ≤ x_44.toInt ∧ x_44.toInt ≤ 2147483647) := ⟨i32_lo _, i32_hi _⟩
          have hcut_46 : ∀ (y_45 : Int32), (0 ≤ y_45.toInt ∧ y_45.toInt ≤ 1) → ∀ (ls : Array Slot), lv_has ls 8 [(6, .int y_22), (5, .int x_12), (4, .int x_11), (3, .int y_23), (0, .ref o0), (1, .int p1), (2, .int p2)] → W p l e (headSpec (wU yX8_finish cX8_finish 8 (some .int)) { frames := 1, cells := 0, slots := 0, locals := 22 }).room s m [.ref o0, .int p1, .int p2].toArray below meth c H locs 0 0 (MQ below (va_Qi (fun (r : Int32) (f9 : Nat → va_E) => GI (okc cI cL cZ cR L kd) kd L f9 ∧ (0 ≤ r.toInt ∧ r.toInt ≤ 255)) (qP (dC, dI) cI cL cZ cR L) (fun q => q ∈ L)) [.ref o0, .int p1, .int p2].toArray s 0 0 (fun q => q ∈ L)) (F0 m 67 ls [.int y_45]) := by
            intro y_45 by_45 ls hl
            refine lv_istore (lv' := [(7, .int y_45), (6, .int y_22), (5, .int x_12), (4, .int x_11), (3, .int y_23), (0, .ref o0), (1, .int p1), (2, .int p2)]) hx hb dX8_finish_67 hl (by decide) rfl (fun ls hl => ?_)
            refine lv_iload hx hb dX8_finish_69 (lv_at hl 3 rfl) ?_
            refine lv_iload hx hb dX8_finish_71 (lv_at hl 1 rfl) ?_
            refine lv_ishr hx hb dX8_finish_73 ?_
            refine lv_topi (fun x_47 ex_47 => ?_)
            have bx_47 : ((-2147483648) ≤ x_47.toInt ∧ x_47.toInt ≤ 2147483647) := ⟨i32_lo _, i32_hi _⟩
            refine lv_iconst (v := 1) hx hb dX8_finish_74 (by decide) ?_
            refine lv_iand hx hb dX8_finish_75 ?_
            refine lv_topi (fun x_48 ex_48 => ?_)
            have bx_48 : (0 ≤ x_48.toInt ∧ x_48.toInt ≤ 1) := by rw [ex_48]; have h8 := an_C x_47 (m := 1) (by decide); rw [ti_1] at h8; exact h8
            refine lv_iconst (v := 1) hx hb dX8_finish_76 (by decide) ?_
            have hcut_51 : ∀ (y_49 : Int32), (0 ≤ y_49.toInt ∧ y_49.toInt ≤ 255) → ∀ (f_50 : Nat → va_E), GI (okc cI cL cZ cR L kd) kd L f_50 → ∀ (H : Heap) (locs : List Loc), va_P (dC, dI) vwCl (va_pl L f_50) H → va_D (fun q => q ∈ L) (va_pl L f_50) → va_S (fun q => q ∈ L) s.heap H locs → ∀ (ls : Array Slot), lv_has ls 8 [(7, .int y_45), (6, .int y_22), (5, .int x_12), (4, .int x_11), (3, .int y_49), (0, .ref o0), (1, .int p1), (2, .int p2)] → W p l e (headSpec (wU yX8_finish cX8_finish 8 (some .int)) { frames := 1, cells := 0, slots := 0, locals := 22 }).room s m [.ref o0, .int p1, .int p2].toArray below meth c H locs 0 0 (MQ below (va_Qi (fun (r : Int32) (f9 : Nat → va_E) => GI (okc cI cL cZ cR L kd) kd L f9 ∧ (0 ≤ r.toInt ∧ r.toInt ≤ 255)) (qP (dC, dI) cI cL cZ cR L) (fun q => q ∈ L)) [.ref o0, .int p1, .int p2].toArray s 0 0 (fun q => q ∈ L)) (F0 m 104 ls []) := by
              intro y_49 by_49 f_50 hG H locs hP hD hS ls hl
              obtain ⟨x_52, ex_52⟩ : ∃ y : Int32, y_22 + 1 = y := ⟨_, rfl⟩
              have hx_52 : x_52.toInt = y_22.toInt + 1 := by rw [← ex_52, ad_I (by rw [ti_1]; omega) (by rw [ti_1]; omega), ti_1]
              have bx_52 : (1 ≤ x_52.toInt ∧ x_52.toInt ≤ 8) := by constructor <;> omega
              refine lv_iinc (v := x_52) (lv' := [(6, .int x_52), (7, .int y_45), (5, .int x_12), (4, .int x_11), (3, .int y_49), (0, .ref o0), (1, .int p1), (2, .int p2)]) hx hb dX8_finish_104 hl (k := 1) rfl ex_52 (by decide) rfl (fun ls hl => ?_)
              refine lv_goto (tgt := 23) hx hb dX8_finish_107 (by decide) ?_
              exact ih_hloop_25 x_52 (by constructor <;> omega) y_49 (by constructor <;> omega) f_50 hG _ _ hP hD hS (by omega) ls (lv_sub hl [0, 2, 3, 4, 5, 6, 7] rfl)
            refine lv_icmp_ne (tgt := 104) hx hb dX8_finish_77 (by decide) (fun c_53 => ?_) (fun c_53 => ?_)
            · skip
              rw [← Int32.toInt_inj, ti_1] at c_53
              exact hcut_51 y_23 (by constructor <;> omega) f_24 hG _ _ hP hD hS ls (lv_sub hl [0, 1, 2, 3, 4, 5, 6, 7] rfl)
            · skip
              rw [← Int32.toInt_inj, ti_1] at c_53
              refine lv_iload hx hb dX8_finish_80 (lv_at hl 0 rfl) ?_
              refine lv_if_ne (tgt := 104) hx hb dX8_finish_82 (by decide) (fun c_54 => ?_) (fun c_54 => ?_)
              · skip
                rw [← Int32.toInt_inj, ti_0] at c_54
                exact hcut_51 y_23 (by constructor <;> omega) f_24 hG _ _ hP hD hS ls (lv_sub hl [0, 1, 2, 3, 4, 5, 6, 7] rfl)
              · skip
                rw [← Int32.toInt_inj, ti_0] at c_54
                refine lv_aload_n hx hb dX8_finish_85 rfl (lv_at hl 5 rfl) ?_
                refine lv_iload hx hb dX8_finish_86 (lv_at hl 2 rfl) ?_
                refine lv_iload hx hb dX8_finish_88 (lv_at hl 1 rfl) ?_
                refine lv_iadd hx hb dX8_finish_90 ?_
                refine lv_topi (fun x_55 ex_55 => ?_)
                have hx_55 : x_55.toInt = x_12.toInt + y_22.toInt := by rw [ex_55, ad_I (by omega) (by omega)]
                have bx_55 : (0 ≤ x_55.toInt ∧ x_55.toInt ≤ 79) := by constructor <;> omega
                refine tk_ViP (As := [.int x_55]) (rest := []) (n := 1) hx hb hml hown hU hN (s_X8_endsWell_k8 l (dC, dI) cI cL cZ cR kd L f_24 hG o0 mo0 ko0 x_55 (by constructor <;> omega)) wd_801 wd_802 wd_803 wd_55 wd_804 (by decide +kernel) ⟨Nat.le_of_ble_eq_true rfl, Nat.le_of_ble_eq_true rfl⟩ hK hP hD hS mo0 hfo_30 8 rfl rfl rfl hl.1 rfl (Nat.le_of_ble_eq_true rfl) dX8_finish_91 ⟨Nat.le_of_ble_eq_true rfl, Nat.le_of_ble_eq_true rfl⟩ (fun x_56 f_57 H locs hw hP hD hS => ?_)
                obtain ⟨hG, bx_56⟩ := hw
                refine lv_if_ne (tgt := 104) hx hb dX8_finish_94 (by decide) (fun c_58 => ?_) (fun c_58 => ?_)
                · skip
                  rw [← Int32.toInt_inj, ti_0] at c_58
                  exact hcut_51 y_23 (by constructor <;> omega) f_57 hG _ _ hP hD hS ls (lv_sub hl [0, 1, 2, 3, 4, 5, 6, 7] rfl)
                · skip
                  rw [← Int32.toInt_inj, ti_0] at c_58
                  refine lv_iload_n hx hb dX8_finish_97 rfl (lv_at hl 4 rfl) ?_
                  refine lv_iconst (v := 1) hx hb dX8_finish_98 (by decide) ?_
                  refine lv_iload hx hb dX8_finish_99 (lv_at hl 1 rfl) ?_
                  refine lv_ishl hx hb dX8_finish_101 ?_
                  refine lv_topi (fun x_59 ex_59 => ?_)
                  have bx_59 : (1 ≤ x_59.toInt ∧ x_59.toInt ≤ 128) := by rw [ex_59]; exact sh_7 (by constructor <;> omega)
                  refine lv_ior hx hb dX8_finish_102 ?_
                  refine lv_topi (fun x_60 ex_60 => ?_)
                  have bx_60 : (0 ≤ x_60.toInt ∧ x_60.toInt ≤ 255) := by rw [ex_60]; exact or_K 8 (by decide) (by constructor <;> omega) (by constructor <;> omega)
                  refine lv_istore_n (lv' := [(3, .int x_60), (7, .int y_45), (6, .int y_22), (5, .int x_12), (4, .int x_11), (0, .ref o0), (1, .int p1), (2, .int p2)]) hx hb dX8_finish_103 rfl hl (by decide) rfl (fun ls hl => ?_)
                  exact hcut_51 x_60 (by constructor <;> omega) f_57 hG _ _ hP hD hS ls (lv_sub hl [1, 2, 3, 4, 0, 5, 6, 7] rfl)
          refine lv_if_ne (tgt := 66) hx hb dX8_finish_59 (by decide) (fun c_61 => ?_) (fun c_61 => ?_)
          · skip
            rw [← Int32.toInt_inj, ti_0] at c_61
            refine lv_iconst (v := 0) hx hb dX8_finish_66 (by decide) ?_
            exact hcut_46 0 (by decide) ls (lv_sub hl [0, 1, 2, 3, 4, 5, 6] rfl)
          · skip
            rw [← Int32.toInt_inj, ti_0] at c_61
            refine lv_iconst (v := 1) hx hb dX8_finish_62 (by decide) ?_
            refine lv_goto (tgt := 67) hx hb dX8_finish_63 (by decide) ?_
            exact hcut_46 1 (by decide) ls (lv_sub hl [0, 1, 2, 3, 4, 5, 6] rfl)
  exact hloop_25 9 0 (by decide) x_9 (by constructor <;> omega) f hG _ _ hP hD hS (by (try simp only [ti_0]); omega) ls hl
set_option maxHeartbeats 8000000 in
set_option maxRecDepth 100000 in
theorem s_X8_advance_k8_k4 (l : Launch) (D : va_G) (cI cL cZ cR : ClassId) (kd : Nat → Nat) (L : List Nat) (f : Nat → va_E) (hG : GI (okc cI cL cZ cR L kd) kd L f) (o0 : Nat) (mo0 : o0 ∈ L) (ko0 : kd o0 = 8) (o1 : Nat) (mo1 : o1 ∈ L) (ko1 : kd o1 = 4) (p2 : Int32) (bp2 : (0 ≤ p2.toInt ∧ p2.toInt ≤ 71)) (p3 : Int32) (bp3 : (0 ≤ p3.toInt ∧ p3.toInt ≤ 19)) : mPI l D cI cL cZ cR yX8_advance cX8_advance 10 (some .boolean) 1 27 [.ref o0, .ref o1, .int p2, .int p3] L f (fun (r : Int32) (f9 : Nat → va_E) => GI (okc cI cL cZ cR L kd) kd L f9 ∧ (0 ≤ r.toInt ∧ r.toInt ≤ 1)) := by
  obtain ⟨dC, dI⟩ := D
  refine Met.ofW (cc := cX8_advance) (maxL := 10) (ret := (some .boolean)) (by decide) rfl ?_
  intro p e s m args below meth c s₁ B hml hv
  obtain ⟨rfl, hP, hK, hD0, hN⟩ := hv
  have hx := B.exec
  have hb := B.bytes
  have hr := B.returns
  have hU : ∀ w ∈ wsU, w.before _ s = true := fun w h => atoms_spec (ws := wU yX8_advance cX8_advance 10 (some .boolean)) B.pre w (List.mem_cons_of_mem _ h)
  have hown : s.vm.findClass RX8 = some m.cls := findClass_of_methodNamed B.named
  have hlocks := B.notSynchronized
  have hD := pl_in hD0
  have hS : va_S (fun q => q ∈ L) s.heap s.heap [] := va_S.rf
  have hl := lv_entry ([.ref o0, .ref o1, .int p2, .int p3]) (n := 10) (Nat.le_of_ble_eq_true rfl)
  rw [lg_entry_eq]
  generalize (lg_sl ([.ref o0, .ref o1, .int p2, .int p3]) ++ List.replicate (10 - (lg_sl ([.ref o0, .ref o1, .int p2, .int p3])).length) Slot.unset).toArray = ls at hl ⊢
  have hl : lv_has ls 10 [(0, .ref o0), (1, .ref o1), (2, .int p2), (3, .int p3)] := hl
  refine lv_iload_n hx hb dX8_advance_0 rfl (lv_at hl 2 rfl) ?_
  refine lv_bipush (v := 8) hx hb dX8_advance_1 (by decide) ?_
  refine lv_iadd hx hb dX8_advance_3 ?_
  refine lv_topi (fun x_1 ex_1 => ?_)
  have hx_1 : x_1.toInt = p2.toInt + 8 := by rw [ex_1, ad_I (by rw [ti_8]; omega) (by rw [ti_8]; omega), ti_8]
  have bx_1 : (8 ≤ x_1.toInt ∧ x_1.toInt ≤ 79) := by constructor <;> omega
  refine lv_istore (lv' := [(4, .int x_1), (0, .ref o0), (1, .ref o1), (2, .int p2), (3, .int p3)]) hx hb dX8_advance_4 hl (by decide) rfl (fun ls hl => ?_)
  refine lv_aload_n hx hb dX8_advance_6 rfl (lv_at hl 2 rfl) ?_
  obtain ⟨v_3, v_4, v_5, v_6, a_7, a_8, a_9, a_10, v_11, v_12, v_13, hfo_2, bv_3, bv_4, bv_5, bv_6, ⟨ma_7, ka_7⟩, ⟨ma_8, ka_8⟩, ⟨ma_9, ka_9⟩, ⟨ma_10, ka_10⟩⟩ := un_4 (hG _ mo1) ko1
  have bv_11 : ((-2147483648) ≤ v_11.toInt ∧ v_11.toInt ≤ 2147483647) := ⟨i32_lo _, i32_hi _⟩
  have bv_12 : ((-2147483648) ≤ v_12.toInt ∧ v_12.toInt ≤ 2147483647) := ⟨i32_lo _, i32_hi _⟩
  have bv_13 : ((-2147483648) ≤ v_13.toInt ∧ v_13.toInt ≤ 2147483647) := ⟨i32_lo _, i32_hi _⟩
  refine tk_getP (D := (dC, dI)) (ci := 4) (v := .ref a_9) (C := RX4) (T := TX4) (N := 11) hx hb hU inlX4 hown hK hP mo1 hfo_2 rfl 6 (by decide) (hU _ wd_831) (fun _ h9 => h9) rfl dX8_advance_7 ?_
  refine lv_iload_n hx hb dX8_advance_10 rfl (lv_at hl 4 rfl) ?_
  obtain ⟨g_15, hfo_14, hbg_15⟩ := un_22 (hG _ ma_9) ka_9
  refine tk_ildP hx hb hK hP 0 ma_9 hfo_14 rfl (vp_in_iff.mpr (by constructor <;> omega)) dX8_advance_11 ?_
  refine lv_topi (fun x_16 ex_16 => ?_)
  have bx_16 : (0 ≤ x_16.toInt ∧ x_16.toInt ≤ 2) := by rw [ex_16]; exact hbg_15 _
  refine lv_istore (lv' := [(5, .int x_16), (4, .int x_1), (0, .ref o0), (1, .ref o1), (2, .int p2), (3, .int p3)]) hx hb dX8_advance_12 hl (by decide) rfl (fun ls hl => ?_)
  refine lv_iload hx hb dX8_advance_14 (lv_at hl 0 rfl) ?_
  have hcut_19 : ∀ (y_17 : Int32), ((-2147483648) ≤ y_17.toInt ∧ y_17.toInt ≤ 2147483647) → ∀ (f_18 : Nat → va_E), GI (okc cI cL cZ cR L kd) kd L f_18 → ∀ (H : Heap) (locs : List Loc), va_P (dC, dI) vwCl (va_pl L f_18) H → va_D (fun q => q ∈ L) (va_pl L f_18) → va_S (fun q => q ∈ L) s.heap H locs → ∀ (ls : Array Slot), lv_has ls 10 [(5, .int x_16), (4, .int x_1), (0, .ref o0), (1, .ref o1), (2, .int p2), (3, .int p3)] → W p l e (headSpec (wU yX8_advance cX8_advance 10 (some .boolean)) { frames := 1, cells := 0, slots := 0, locals := 27 }).room s m [.ref o0, .ref o1, .int p2, .int p3].toArray below meth c H locs 0 0 (MQ below (va_Qi (fun (r : Int32) (f9 : Nat → va_E) => GI (okc cI cL cZ cR L kd) kd L f9 ∧ (0 ≤ r.toInt ∧ r.toInt ≤ 1)) (qP (dC, dI) cI cL cZ cR L) (fun q => q ∈ L)) [.ref o0, .ref o1, .int p2, .int p3].toArray s 0 0 (fun q => q ∈ L)) (F0 m 37 ls [.int y_17]) := by
    intro y_17 by_17 f_18 hG H locs hP hD hS ls hl
    refine lv_istore (lv' := [(6, .int y_17), (5, .int x_16), (4, .int x_1), (0, .ref o0), (1, .ref o1), (2, .int p2), (3, .int p3)]) hx hb dX8_advance_37 hl (by decide) rfl (fun ls hl => ?_)
    refine lv_aload_n hx hb dX8_advance_39 rfl (lv_at hl 4 rfl) ?_
    obtain ⟨v_21, v_22, v_23, v_24, a_25, a_26, a_27, a_28, v_29, v_30, v_31, hfo_20, bv_21, bv_22, bv_23, bv_24, ⟨ma_25, ka_25⟩, ⟨ma_26, ka_26⟩, ⟨ma_27, ka_27⟩, ⟨ma_28, ka_28⟩⟩ := un_4 (hG _ mo1) ko1
    have bv_29 : ((-2147483648) ≤ v_29.toInt ∧ v_29.toInt ≤ 2147483647) := ⟨i32_lo _, i32_hi _⟩
    have bv_30 : ((-2147483648) ≤ v_30.toInt ∧ v_30.toInt ≤ 2147483647) := ⟨i32_lo _, i32_hi _⟩
    have bv_31 : ((-2147483648) ≤ v_31.toInt ∧ v_31.toInt ≤ 2147483647) := ⟨i32_lo _, i32_hi _⟩
    refine tk_getP (D := (dC, dI)) (ci := 4) (v := .ref a_26) (C := RX4) (T := TX4) (N := 11) hx hb hU inlX4 hown hK hP mo1 hfo_20 rfl 5 (by decide) (hU _ wd_841) (fun _ h9 => h9) rfl dX8_advance_40 ?_
    refine lv_aload_n hx hb dX8_advance_43 rfl (lv_at hl 3 rfl) ?_
    obtain ⟨a_33, a_34, a_35, a_36, a_37, hfo_32, ⟨ma_33, ka_33⟩, ⟨ma_34, ka_34⟩, ⟨ma_35, ka_35⟩, ⟨ma_36, ka_36⟩, ⟨ma_37, ka_37⟩⟩ := un_8 (hG _ mo0) ko0
    refine tk_getP (D := (dC, dI)) (ci := 8) (v := .ref a_34) (C := RX8) (T := TX8) (N := 5) hx hb hU inlX8 hown hK hP mo0 hfo_32 rfl 1 (by decide) (hU _ wd_121) (fun _ h9 => h9) rfl dX8_advance_44 ?_
    refine lv_iload_n hx hb dX8_advance_47 rfl (lv_at hl 5 rfl) ?_
    obtain ⟨g_39, hfo_38, hbg_39⟩ := un_37 (hG _ ma_34) ka_34
    refine tk_ildP hx hb hK hP 0 ma_34 hfo_38 rfl (vp_in_iff.mpr (by constructor <;> omega)) dX8_advance_48 ?_
    refine lv_topi (fun x_40 ex_40 => ?_)
    have bx_40 : ((-2147483648) ≤ x_40.toInt ∧ x_40.toInt ≤ 2147483647) := ⟨i32_lo _, i32_hi _⟩
    refine lv_iload_n hx hb dX8_advance_49 rfl (lv_at hl 6 rfl) ?_
    obtain ⟨a_42, a_43, a_44, v_45, v_46, v_47, hfo_41, ⟨ma_42, ka_42⟩, ⟨ma_43, ka_43⟩, ⟨ma_44, ka_44⟩⟩ := un_5 (hG _ ma_26) ka_26
    have bv_45 : ((-2147483648) ≤ v_45.toInt ∧ v_45.toInt ≤ 2147483647) := ⟨i32_lo _, i32_hi _⟩
    have bv_46 : ((-2147483648) ≤ v_46.toInt ∧ v_46.toInt ≤ 2147483647) := ⟨i32_lo _, i32_hi _⟩
    have bv_47 : ((-2147483648) ≤ v_47.toInt ∧ v_47.toInt ≤ 2147483647) := ⟨i32_lo _, i32_hi _⟩
    refine tk_ViP (As := [.int x_40, .int p3]) (rest := []) (n := 2) hx hb hml hown hU hN (s_X5_step_k5 l (dC, dI) cI cL cZ cR kd L f_18 hG a_26 ma_26 ka_26 x_40 p3 (by constructor <;> omega)) wd_832 wd_833 wd_834 wd_102 wd_835 (by decide +kernel) ⟨Nat.le_of_ble_eq_true rfl, Nat.le_of_ble_eq_true rfl⟩ hK hP hD hS ma_26 hfo_41 5 rfl rfl rfl hl.1 rfl (Nat.le_of_ble_eq_true rfl) dX8_advance_50 ⟨Nat.le_of_ble_eq_true rfl, Nat.le_of_ble_eq_true rfl⟩ (fun x_48 f_49 H locs hw hP hD hS => ?_)
    obtain ⟨hG, bx_48⟩ := hw
    refine lv_istore (lv' := [(7, .int x_48), (6, .int y_17), (5, .int x_16), (4, .int x_1), (0, .ref o0), (1, .ref o1), (2, .int p2), (3, .int p3)]) hx hb dX8_advance_53 hl (by decide) rfl (fun ls hl => ?_)
    refine lv_iload hx hb dX8_advance_55 (lv_at hl 2 rfl) ?_
    refine lv_iconst (v := 2) hx hb dX8_advance_57 (by decide) ?_
    have hcut_51 : ∀ (y_50 : Int32), ((-2147483648) ≤ y_50.toInt ∧ y_50.toInt ≤ 2147483647) → ∀ (ls : Array Slot), lv_has ls 10 [(7, .int y_50), (6, .int y_17), (5, .int x_16), (4, .int x_1), (0, .ref o0), (1, .ref o1), (2, .int p2), (3, .int p3)] → W p l e (headSpec (wU yX8_advance cX8_advance 10 (some .boolean)) { frames := 1, cells := 0, slots := 0, locals := 27 }).room s m [.ref o0, .ref o1, .int p2, .int p3].toArray below meth c H locs 0 0 (MQ below (va_Qi (fun (r : Int32) (f9 : Nat → va_E) => GI (okc cI cL cZ cR L kd) kd L f9 ∧ (0 ≤ r.toInt ∧ r.toInt ≤ 1)) (qP (dC, dI) cI cL cZ cR L) (fun q => q ∈ L)) [.ref o0, .ref o1, .int p2, .int p3].toArray s 0 0 (fun q => q ∈ L)) (F0 m 68 ls []) := by
      intro y_50 by_50 ls hl
      refine lv_aload_n hx hb dX8_advance_68 rfl (lv_at hl 4 rfl) ?_
      obtain ⟨a_53, a_54, a_55, a_56, a_57, hfo_52, ⟨ma_53, ka_53⟩, ⟨ma_54, ka_54⟩, ⟨ma_55, ka_55⟩, ⟨ma_56, ka_56⟩, ⟨ma_57, ka_57⟩⟩ := un_8 (hG _ mo0) ko0
      refine tk_getP (D := (dC, dI)) (ci := 8) (v := .ref a_54) (C := RX8) (T := TX8) (N := 5) hx hb hU inlX8 hown hK hP mo0 hfo_52 rfl 1 (by decide) (hU _ wd_121) (fun _ h9 => h9) rfl dX8_advance_69 ?_
      refine lv_iload hx hb dX8_advance_72 (lv_at hl 3 rfl) ?_
      refine lv_iload hx hb dX8_advance_74 (lv_at hl 0 rfl) ?_
      obtain ⟨g_59, hfo_58, hbg_59⟩ := un_37 (hG _ ma_54) ka_54
      refine tk_istP hx hb hK hP hD hS 0 ma_54 hfo_58 rfl (vp_in_iff.mpr (by constructor <;> omega)) dX8_advance_76 (fun H locs hP hD hS => ?_)
      obtain ⟨f_60, ef_60⟩ : ∃ y : Nat → va_E, y = va_up f_49 a_54 (.inl (cI, 80, .inl (upd g_59 (Int32.toNatClampNeg x_1) y_50))) := ⟨_, rfl⟩
      have hP : va_P (dC, dI) vwCl (va_pl L f_60) H := by rw [ef_60]; exact hP
      have hD : va_D (fun q => q ∈ L) (va_pl L f_60) := by rw [ef_60]; exact hD
      have hG : GI (okc cI cL cZ cR L kd) kd L f_60 := by rw [ef_60]; exact hG.set a_54 (mk_37 ka_54 ⟨_, rfl, okI_up hbg_59 ⟨i32_lo _, i32_hi _⟩ _⟩)
      have hfo_61 : f_60 o0 = .inr (8, [.ref a_53, .ref a_54, .ref a_55, .ref a_56, .ref a_57]) := by rw [ef_60, up_ne (kd_ne ka_54 ko0 (by decide))]; exact hfo_52
      have hfo_62 : f_60 a_54 = .inl (cI, 80, .inl (upd g_59 (Int32.toNatClampNeg x_1) y_50)) := by rw [ef_60]; exact up_self
      refine lv_iload hx hb dX8_advance_77 (lv_at hl 0 rfl) ?_
      refine lv_aload_n hx hb dX8_advance_79 rfl (lv_at hl 5 rfl) ?_
      obtain ⟨v_64, v_65, v_66, v_67, a_68, a_69, a_70, a_71, v_72, v_73, v_74, hfo_63, bv_64, bv_65, bv_66, bv_67, ⟨ma_68, ka_68⟩, ⟨ma_69, ka_69⟩, ⟨ma_70, ka_70⟩, ⟨ma_71, ka_71⟩⟩ := un_4 (hG _ mo1) ko1
      have bv_72 : ((-2147483648) ≤ v_72.toInt ∧ v_72.toInt ≤ 2147483647) := ⟨i32_lo _, i32_hi _⟩
      have bv_73 : ((-2147483648) ≤ v_73.toInt ∧ v_73.toInt ≤ 2147483647) := ⟨i32_lo _, i32_hi _⟩
      have bv_74 : ((-2147483648) ≤ v_74.toInt ∧ v_74.toInt ≤ 2147483647) := ⟨i32_lo _, i32_hi _⟩
      refine tk_getP (D := (dC, dI)) (ci := 4) (v := .int v_74) (C := RX4) (T := TX4) (N := 11) hx hb hU inlX4 hown hK hP mo1 hfo_63 rfl 10 (by decide) (hU _ wd_842) (fun _ h9 => h9) rfl dX8_advance_80 ?_
      refine lv_iand hx hb dX8_advance_83 ?_
      refine lv_topi (fun x_75 ex_75 => ?_)
      have bx_75 : ((-2147483648) ≤ x_75.toInt ∧ x_75.toInt ≤ 2147483647) := ⟨i32_lo _, i32_hi _⟩
      have hcut_77 : ∀ (y_76 : Int32), (0 ≤ y_76.toInt ∧ y_76.toInt ≤ 1) → ∀ (ls : Array Slot), lv_has ls 10 [(7, .int y_50), (6, .int y_17), (5, .int x_16), (4, .int x_1), (0, .ref o0), (1, .ref o1), (2, .int p2), (3, .int p3)] → W p l e (headSpec (wU yX8_advance cX8_advance 10 (some .boolean)) { frames := 1, cells := 0, slots := 0, locals := 27 }).room s m [.ref o0, .ref o1, .int p2, .int p3].toArray below meth c H locs 0 0 (MQ below (va_Qi (fun (r : Int32) (f9 : Nat → va_E) => GI (okc cI cL cZ cR L kd) kd L f9 ∧ (0 ≤ r.toInt ∧ r.toInt ≤ 1)) (qP (dC, dI) cI cL cZ cR L) (fun q => q ∈ L)) [.ref o0, .ref o1, .int p2, .int p3].toArray s 0 0 (fun q => q ∈ L)) (F0 m 92 ls [.int y_76]) := by
        intro y_76 by_76 ls hl
        refine lv_istore (lv' := [(8, .int y_76), (7, .int y_50), (6, .int y_17), (5, .int x_16), (4, .int x_1), (0, .ref o0), (1, .ref o1), (2, .int p2), (3, .int p3)]) hx hb dX8_advance_92 hl (by decide) rfl (fun ls hl => ?_)
        refine lv_iconst (v := 0) hx hb dX8_advance_94 (by decide) ?_
        refine lv_istore (lv' := [(9, .int 0), (8, .int y_76), (7, .int y_50), (6, .int y_17), (5, .int x_16), (4, .int x_1), (0, .ref o0), (1, .ref o1), (2, .int p2), (3, .int p3)]) hx hb dX8_advance_95 hl (by decide) rfl (fun ls hl => ?_)
        have hloop_90 : ∀ (n : Nat), ∀ (y_87 : Int32), (0 ≤ y_87.toInt ∧ y_87.toInt ≤ 10) → ∀ (y_88 : Int32), (0 ≤ y_88.toInt ∧ y_88.toInt ≤ 1) → ∀ (f_89 : Nat → va_E), GI (okc cI cL cZ cR L kd) kd L f_89 → ∀ (H : Heap) (locs : List Loc), va_P (dC, dI) vwCl (va_pl L f_89) H → va_D (fun q => q ∈ L) (va_pl L f_89) → va_S (fun q => q ∈ L) s.heap H locs → 10 - y_87.toInt < (n : Int) → ∀ (ls : Array Slot), lv_has ls 10 [(9, .int y_87), (8, .int y_88), (7, .int y_50), (6, .int y_17), (5, .int x_16), (4, .int x_1), (0, .ref o0), (1, .ref o1), (2, .int p2), (3, .int p3)] → W p l e (headSpec (wU yX8_advance cX8_advance 10 (some .boolean)) { frames := 1, cells := 0, slots := 0, locals := 27 }).room s m [.ref o0, .ref o1, .int p2, .int p3].toArray below meth c H locs 0 0 (MQ below (va_Qi (fun (r : Int32) (f9 : Nat → va_E) => GI (okc cI cL cZ cR L kd) kd L f9 ∧ (0 ≤ r.toInt ∧ r.toInt ≤ 1)) (qP (dC, dI) cI cL cZ cR L) (fun q => q ∈ L)) [.ref o0, .ref o1, .int p2, .int p3].toArray s 0 0 (fun q => q ∈ L)) (F0 m 97 ls []) := by
          intro n
          induction n with
          | zero => intro y_87 by_87 y_88 by_88 f_89 hG H locs hP hD hS hmuhloop_90 ls hl; exfalso; omega
          | succ n ih_hloop_90 =>
            intro y_87 by_87 y_88 by_88 f_89 hG H locs hP hD hS hmuhloop_90 ls hl
            refine lv_iload hx hb dX8_advance_97 (lv_at hl 0 rfl) ?_
            refine lv_aload_n hx hb dX8_advance_99 rfl (lv_at hl 6 rfl) ?_
            obtain ⟨a_92, a_93, a_94, a_95, a_96, hfo_91, ⟨ma_92, ka_92⟩, ⟨ma_93, ka_93⟩, ⟨ma_94, ka_94⟩, ⟨ma_95, ka_95⟩, ⟨ma_96, ka_96⟩⟩ := un_8 (hG _ mo0) ko0
            refine tk_getP (D := (dC, dI)) (ci := 8) (v := .ref a_94) (C := RX8) (T := TX8) (N := 5) hx hb hU inlX8 hown hK hP mo0 hfo_91 rfl 2 (by decide) (hU _ wd_122) (fun _ h9 => h9) rfl dX8_advance_100 ?_
            refine lv_iload_n hx hb dX8_advance_103 rfl (lv_at hl 8 rfl) ?_
            obtain ⟨g_98, hfo_97, hbg_98⟩ := un_38 (hG _ ma_94) ka_94
            refine tk_ildP hx hb hK hP 0 ma_94 hfo_97 rfl (vp_in_iff.mpr (by constructor <;> omega)) dX8_advance_104 ?_
            refine lv_topi (fun x_99 ex_99 => ?_)
            have bx_99 : (0 ≤ x_99.toInt ∧ x_99.toInt ≤ 10) := by rw [ex_99]; exact hbg_98 _
            have hcut_100 : ∀ (ls : Array Slot), lv_has ls 10 [(9, .int y_87), (8, .int y_88), (7, .int y_50), (6, .int y_17), (5, .int x_16), (4, .int x_1), (0, .ref o0), (1, .ref o1), (2, .int p2), (3, .int p3)] → W p l e (headSpec (wU yX8_advance cX8_advance 10 (some .boolean)) { frames := 1, cells := 0, slots := 0, locals := 27 }).room s m [.ref o0, .ref o1, .int p2, .int p3].toArray below meth c H locs 0 0 (MQ below (va_Qi (fun (r : Int32) (f9 : Nat → va_E) => GI (okc cI cL cZ cR L kd) kd L f9 ∧ (0 ≤ r.toInt ∧ r.toInt ≤ 1)) (qP (dC, dI) cI cL cZ cR L) (fun q => q ∈ L)) [.ref o0, .ref o1, .int p2, .int p3].toArray s 0 0 (fun q => q ∈ L)) (F0 m 156 ls []) := by
              intro ls hl
              refine lv_iload hx hb dX8_advance_156 (lv_at hl 4 rfl) ?_
              refine lv_iconst (v := 1) hx hb dX8_advance_158 (by decide) ?_
              have hcut_103 : ∀ (y_101 : Int32), (0 ≤ y_101.toInt ∧ y_101.toInt ≤ 1) → ∀ (f_102 : Nat → va_E), GI (okc cI cL cZ cR L kd) kd L f_102 → ∀ (H : Heap) (locs : List Loc), va_P (dC, dI) vwCl (va_pl L f_102) H → va_D (fun q => q ∈ L) (va_pl L f_102) → va_S (fun q => q ∈ L) s.heap H locs → ∀ (ls : Array Slot), lv_has ls 10 [(9, .int y_87), (8, .int y_101), (7, .int y_50), (6, .int y_17), (5, .int x_16), (4, .int x_1), (0, .ref o0), (1, .ref o1), (2, .int p2), (3, .int p3)] → W p l e (headSpec (wU yX8_advance cX8_advance 10 (some .boolean)) { frames := 1, cells := 0, slots := 0, locals := 27 }).room s m [.ref o0, .ref o1, .int p2, .int p3].toArray below meth c H locs 0 0 (MQ below (va_Qi (fun (r : Int32) (f9 : Nat → va_E) => GI (okc cI cL cZ cR L kd) kd L f9 ∧ (0 ≤ r.toInt ∧ r.toInt ≤ 1)) (qP (dC, dI) cI cL cZ cR L) (fun q => q ∈ L)) [.ref o0, .ref o1, .int p2, .int p3].toArray s 0 0 (fun q => q ∈ L)) (F0 m 186 ls []) := by
                intro y_101 by_101 f_102 hG H locs hP hD hS ls hl
                refine lv_iload hx hb dX8_advance_186 (lv_at hl 1 rfl) ?_
                exact W.zret (v := y_101) (ty := .boolean) hx hb hr (zb_n (by constructor <;> omega)) (fun t ht hW => ⟨⟨y_101, f_102, rfl, ⟨hG, (by constructor <;> omega)⟩, by rw [ht]; exact hP, va_K.moved hW.alike hK, pl_in hD⟩, hS.F ht⟩) hS.2.2 dX8_advance_188
              refine lv_icmp_ne (tgt := 186) hx hb dX8_advance_159 (by decide) (fun c_104 => ?_) (fun c_104 => ?_)
              · skip
                rw [← Int32.toInt_inj, ti_1] at c_104
                exact hcut_103 y_88 (by constructor <;> omega) f_89 hG _ _ hP hD hS ls (lv_sub hl [0, 1, 2, 3, 4, 5, 6, 7, 8, 9] rfl)
              · skip
                rw [← Int32.toInt_inj, ti_1] at c_104
                refine lv_iload hx hb dX8_advance_162 (lv_at hl 1 rfl) ?_
                refine lv_if_ne (tgt := 186) hx hb dX8_advance_164 (by decide) (fun c_105 => ?_) (fun c_105 => ?_)
                · skip
                  rw [← Int32.toInt_inj, ti_0] at c_105
                  exact hcut_103 y_88 (by constructor <;> omega) f_89 hG _ _ hP hD hS ls (lv_sub hl [0, 1, 2, 3, 4, 5, 6, 7, 8, 9] rfl)
                · skip
                  rw [← Int32.toInt_inj, ti_0] at c_105
                  refine lv_aload_n hx hb dX8_advance_167 rfl (lv_at hl 6 rfl) ?_
                  refine lv_aload_n hx hb dX8_advance_168 rfl (lv_at hl 7 rfl) ?_
                  refine lv_iload hx hb dX8_advance_169 (lv_at hl 5 rfl) ?_
                  refine lv_iload hx hb dX8_advance_171 (lv_at hl 3 rfl) ?_
                  refine tk_ViP (As := [.ref o1, .int x_1, .int y_17]) (rest := []) (n := 3) hx hb hml hown hU hN (s_X8_owe_k8_k4 l (dC, dI) cI cL cZ cR kd L f_89 hG o0 mo0 ko0 o1 mo1 ko1 x_1 (by constructor <;> omega) y_17) wd_846 wd_847 wd_848 wd_55 wd_849 (by decide +kernel) ⟨Nat.le_of_ble_eq_true rfl, Nat.le_of_ble_eq_true rfl⟩ hK hP hD hS mo0 hfo_91 8 rfl rfl rfl hl.1 rfl (Nat.le_of_ble_eq_true rfl) dX8_advance_173 ⟨Nat.le_of_ble_eq_true rfl, Nat.le_of_ble_eq_true rfl⟩ (fun x_106 f_107 H locs hw hP hD hS => ?_)
                  obtain ⟨hG, bx_106⟩ := hw
                  have hcut_109 : ∀ (y_108 : Int32), (0 ≤ y_108.toInt ∧ y_108.toInt ≤ 1) → ∀ (ls : Array Slot), lv_has ls 10 [(9, .int y_87), (8, .int y_88), (7, .int y_50), (6, .int y_17), (5, .int x_16), (4, .int x_1), (0, .ref o0), (1, .ref o1), (2, .int p2), (3, .int p3)] → W p l e (headSpec (wU yX8_advance cX8_advance 10 (some .boolean)) { frames := 1, cells := 0, slots := 0, locals := 27 }).room s m [.ref o0, .ref o1, .int p2, .int p3].toArray below meth c H locs 0 0 (MQ below (va_Qi (fun (r : Int32) (f9 : Nat → va_E) => GI (okc cI cL cZ cR L kd) kd L f9 ∧ (0 ≤ r.toInt ∧ r.toInt ≤ 1)) (qP (dC, dI) cI cL cZ cR L) (fun q => q ∈ L)) [.ref o0, .ref o1, .int p2, .int p3].toArray s 0 0 (fun q => q ∈ L)) (F0 m 184 ls [.int y_108]) := by
                    intro y_108 by_108 ls hl
                    refine lv_istore (lv' := [(8, .int y_108), (9, .int y_87), (7, .int y_50), (6, .int y_17), (5, .int x_16), (4, .int x_1), (0, .ref o0), (1, .ref o1), (2, .int p2), (3, .int p3)]) hx hb dX8_advance_184 hl (by decide) rfl (fun ls hl => ?_)
                    exact hcut_103 y_108 (by constructor <;> omega) f_107 hG _ _ hP hD hS ls (lv_sub hl [1, 0, 2, 3, 4, 5, 6, 7, 8, 9] rfl)
                  refine lv_if_ne (tgt := 183) hx hb dX8_advance_176 (by decide) (fun c_110 => ?_) (fun c_110 => ?_)
                  · skip
                    rw [← Int32.toInt_inj, ti_0] at c_110
                    refine lv_iconst (v := 0) hx hb dX8_advance_183 (by decide) ?_
                    exact hcut_109 0 (by decide) ls (lv_sub hl [0, 1, 2, 3, 4, 5, 6, 7, 8, 9] rfl)
                  · skip
                    rw [← Int32.toInt_inj, ti_0] at c_110
                    refine lv_iconst (v := 1) hx hb dX8_advance_179 (by decide) ?_
                    refine lv_goto (tgt := 184) hx hb dX8_advance_180 (by decide) ?_
                    exact hcut_109 1 (by decide) ls (lv_sub hl [0, 1, 2, 3, 4, 5, 6, 7, 8, 9] rfl)
            refine lv_icmp_ge (tgt := 156) hx hb dX8_advance_105 (by decide) (fun c_111 => ?_) (fun c_111 => ?_)
            · skip
              rw [Int32.le_iff_toInt_le] at c_111
              exact hcut_100 ls (lv_sub hl [0, 1, 2, 3, 4, 5, 6, 7, 8, 9] rfl)
            · skip
              rw [Int32.le_iff_toInt_le] at c_111
              refine lv_iload hx hb dX8_advance_108 (lv_at hl 1 rfl) ?_
              refine lv_if_ne (tgt := 156) hx hb dX8_advance_110 (by decide) (fun c_112 => ?_) (fun c_112 => ?_)
              · skip
                rw [← Int32.toInt_inj, ti_0] at c_112
                exact hcut_100 ls (lv_sub hl [0, 1, 2, 3, 4, 5, 6, 7, 8, 9] rfl)
              · skip
                rw [← Int32.toInt_inj, ti_0] at c_112
                refine lv_aload_n hx hb dX8_advance_113 rfl (lv_at hl 6 rfl) ?_
                refine lv_aload_n hx hb dX8_advance_114 rfl (lv_at hl 7 rfl) ?_
                refine lv_iload hx hb dX8_advance_115 (lv_at hl 5 rfl) ?_
                refine lv_aload_n hx hb dX8_advance_117 rfl (lv_at hl 7 rfl) ?_
                obtain ⟨v_114, v_115, v_116, v_117, a_118, a_119, a_120, a_121, v_122, v_123, v_124, hfo_113, bv_114, bv_115, bv_116, bv_117, ⟨ma_118, ka_118⟩, ⟨ma_119, ka_119⟩, ⟨ma_120, ka_120⟩, ⟨ma_121, ka_121⟩⟩ := un_4 (hG _ mo1) ko1
                have bv_122 : ((-2147483648) ≤ v_122.toInt ∧ v_122.toInt ≤ 2147483647) := ⟨i32_lo _, i32_hi _⟩
                have bv_123 : ((-2147483648) ≤ v_123.toInt ∧ v_123.toInt ≤ 2147483647) := ⟨i32_lo _, i32_hi _⟩
                have bv_124 : ((-2147483648) ≤ v_124.toInt ∧ v_124.toInt ≤ 2147483647) := ⟨i32_lo _, i32_hi _⟩
                refine tk_getP (D := (dC, dI)) (ci := 4) (v := .ref a_119) (C := RX4) (T := TX4) (N := 11) hx hb hU inlX4 hown hK hP mo1 hfo_113 rfl 5 (by decide) (hU _ wd_841) (fun _ h9 => h9) rfl dX8_advance_118 ?_
                refine lv_aload_n hx hb dX8_advance_121 rfl (lv_at hl 6 rfl) ?_
                refine tk_getP (D := (dC, dI)) (ci := 8) (v := .ref a_95) (C := RX8) (T := TX8) (N := 5) hx hb hU inlX8 hown hK hP mo0 hfo_91 rfl 3 (by decide) (hU _ wd_123) (fun _ h9 => h9) rfl dX8_advance_122 ?_
                refine lv_iload_n hx hb dX8_advance_125 rfl (lv_at hl 8 rfl) ?_
                refine lv_bipush (v := 10) hx hb dX8_advance_126 (by decide) ?_
                refine lv_imul hx hb dX8_advance_128 ?_
                refine lv_topi (fun x_125 ex_125 => ?_)
                have hx_125 : x_125.toInt = p2.toInt * 10 := by rw [ex_125, ml_I (by rw [ti_10]; omega) (by rw [ti_10]; omega), ti_10]
                have bx_125 : (0 ≤ x_125.toInt ∧ x_125.toInt ≤ 710) := by constructor <;> omega
                refine lv_iload hx hb dX8_advance_129 (lv_at hl 0 rfl) ?_
                refine lv_iadd hx hb dX8_advance_131 ?_
                refine lv_topi (fun x_126 ex_126 => ?_)
                have hx_126 : x_126.toInt = x_125.toInt + y_87.toInt := by rw [ex_126, ad_I (by omega) (by omega)]
                have bx_126 : (0 ≤ x_126.toInt ∧ x_126.toInt ≤ 719) := by constructor <;> omega
                obtain ⟨g_128, hfo_127, hbg_128⟩ := un_39 (hG _ ma_95) ka_95
                refine tk_ildP hx hb hK hP 0 ma_95 hfo_127 rfl (vp_in_iff.mpr (by constructor <;> omega)) dX8_advance_132 ?_
                refine lv_topi (fun x_129 ex_129 => ?_)
                have bx_129 : ((-2147483648) ≤ x_129.toInt ∧ x_129.toInt ≤ 2147483647) := ⟨i32_lo _, i32_hi _⟩
                refine lv_iload_n hx hb dX8_advance_133 rfl (lv_at hl 9 rfl) ?_
                obtain ⟨a_131, a_132, a_133, v_134, v_135, v_136, hfo_130, ⟨ma_131, ka_131⟩, ⟨ma_132, ka_132⟩, ⟨ma_133, ka_133⟩⟩ := un_5 (hG _ ma_119) ka_119
                have bv_134 : ((-2147483648) ≤ v_134.toInt ∧ v_134.toInt ≤ 2147483647) := ⟨i32_lo _, i32_hi _⟩
                have bv_135 : ((-2147483648) ≤ v_135.toInt ∧ v_135.toInt ≤ 2147483647) := ⟨i32_lo _, i32_hi _⟩
                have bv_136 : ((-2147483648) ≤ v_136.toInt ∧ v_136.toInt ≤ 2147483647) := ⟨i32_lo _, i32_hi _⟩
                refine tk_ViP (As := [.int x_129, .int p3]) (rest := [.int x_1, .ref o1, .ref o0]) (n := 2) hx hb hml hown hU hN (s_X5_step_k5 l (dC, dI) cI cL cZ cR kd L f_89 hG a_119 ma_119 ka_119 x_129 p3 (by constructor <;> omega)) wd_832 wd_833 wd_834 wd_102 wd_835 (by decide +kernel) ⟨Nat.le_of_ble_eq_true rfl, Nat.le_of_ble_eq_true rfl⟩ hK hP hD hS ma_119 hfo_130 5 rfl rfl rfl hl.1 rfl (Nat.le_of_ble_eq_true rfl) dX8_advance_134 ⟨Nat.le_of_ble_eq_true rfl, Nat.le_of_ble_eq_true rfl⟩ (fun x_137 f_138 H locs hw hP hD hS => ?_)
                obtain ⟨hG, bx_137⟩ := hw
                obtain ⟨a_140, a_141, a_142, a_143, a_144, hfo_139, ⟨ma_140, ka_140⟩, ⟨ma_141, ka_141⟩, ⟨ma_142, ka_142⟩, ⟨ma_143, ka_143⟩, ⟨ma_144, ka_144⟩⟩ := un_8 (hG _ mo0) ko0
                refine tk_ViP (As := [.ref o1, .int x_1, .int x_137]) (rest := []) (n := 3) hx hb hml hown hU hN (s_X8_owe_k8_k4 l (dC, dI) cI cL cZ cR kd L f_138 hG o0 mo0 ko0 o1 mo1 ko1 x_1 (by constructor <;> omega) x_137) wd_846 wd_847 wd_848 wd_55 wd_849 (by decide +kernel) ⟨Nat.le_of_ble_eq_true rfl, Nat.le_of_ble_eq_true rfl⟩ hK hP hD hS mo0 hfo_139 8 rfl rfl rfl hl.1 rfl (Nat.le_of_ble_eq_true rfl) dX8_advance_137 ⟨Nat.le_of_ble_eq_true rfl, Nat.le_of_ble_eq_true rfl⟩ (fun x_145 f_146 H locs hw hP hD hS => ?_)
                obtain ⟨hG, bx_145⟩ := hw
                have hcut_148 : ∀ (y_147 : Int32), (0 ≤ y_147.toInt ∧ y_147.toInt ≤ 1) → ∀ (ls : Array Slot), lv_has ls 10 [(9, .int y_87), (8, .int y_88), (7, .int y_50), (6, .int y_17), (5, .int x_16), (4, .int x_1), (0, .ref o0), (1, .ref o1), (2, .int p2), (3, .int p3)] → W p l e (headSpec (wU yX8_advance cX8_advance 10 (some .boolean)) { frames := 1, cells := 0, slots := 0, locals := 27 }).room s m [.ref o0, .ref o1, .int p2, .int p3].toArray below meth c H locs 0 0 (MQ below (va_Qi (fun (r : Int32) (f9 : Nat → va_E) => GI (okc cI cL cZ cR L kd) kd L f9 ∧ (0 ≤ r.toInt ∧ r.toInt ≤ 1)) (qP (dC, dI) cI cL cZ cR L) (fun q => q ∈ L)) [.ref o0, .ref o1, .int p2, .int p3].toArray s 0 0 (fun q => q ∈ L)) (F0 m 148 ls [.int y_147]) := by
                  intro y_147 by_147 ls hl
                  refine lv_istore (lv' := [(8, .int y_147), (9, .int y_87), (7, .int y_50), (6, .int y_17), (5, .int x_16), (4, .int x_1), (0, .ref o0), (1, .ref o1), (2, .int p2), (3, .int p3)]) hx hb dX8_advance_148 hl (by decide) rfl (fun ls hl => ?_)
                  obtain ⟨x_149, ex_149⟩ : ∃ y : Int32, y_87 + 1 = y := ⟨_, rfl⟩
                  have hx_149 : x_149.toInt = y_87.toInt + 1 := by rw [← ex_149, ad_I (by rw [ti_1]; omega) (by rw [ti_1]; omega), ti_1]
                  have bx_149 : (1 ≤ x_149.toInt ∧ x_149.toInt ≤ 10) := by constructor <;> omega
                  refine lv_iinc (v := x_149) (lv' := [(9, .int x_149), (8, .int y_147), (7, .int y_50), (6, .int y_17), (5, .int x_16), (4, .int x_1), (0, .ref o0), (1, .ref o1), (2, .int p2), (3, .int p3)]) hx hb dX8_advance_150 hl (k := 1) rfl ex_149 (by decide) rfl (fun ls hl => ?_)
                  refine lv_goto (tgt := 97) hx hb dX8_advance_153 (by decide) ?_
                  exact ih_hloop_90 x_149 (by constructor <;> omega) y_147 (by constructor <;> omega) f_146 hG _ _ hP hD hS (by omega) ls (lv_sub hl [0, 1, 2, 3, 4, 5, 6, 7, 8, 9] rfl)
                refine lv_if_ne (tgt := 147) hx hb dX8_advance_140 (by decide) (fun c_150 => ?_) (fun c_150 => ?_)
                · skip
                  rw [← Int32.toInt_inj, ti_0] at c_150
                  refine lv_iconst (v := 0) hx hb dX8_advance_147 (by decide) ?_
                  exact hcut_148 0 (by decide) ls (lv_sub hl [0, 1, 2, 3, 4, 5, 6, 7, 8, 9] rfl)
                · skip
                  rw [← Int32.toInt_inj, ti_0] at c_150
                  refine lv_iconst (v := 1) hx hb dX8_advance_143 (by decide) ?_
                  refine lv_goto (tgt := 148) hx hb dX8_advance_144 (by decide) ?_
                  exact hcut_148 1 (by decide) ls (lv_sub hl [0, 1, 2, 3, 4, 5, 6, 7, 8, 9] rfl)
        exact hloop_90 11 0 (by decide) y_76 (by constructor <;> omega) f_60 hG _ _ hP hD hS (by (try simp only [ti_0]); omega) ls hl
      refine lv_if_eq (tgt := 91) hx hb dX8_advance_84 (by decide) (fun c_151 => ?_) (fun c_151 => ?_)
      · skip
        rw [← Int32.toInt_inj, ti_0] at c_151
        refine lv_iconst (v := 0) hx hb dX8_advance_91 (by decide) ?_
        exact hcut_77 0 (by decide) ls (lv_sub hl [0, 1, 2, 3, 4, 5, 6, 7] rfl)
      · skip
        rw [← Int32.toInt_inj, ti_0] at c_151
        refine lv_iconst (v := 1) hx hb dX8_advance_87 (by decide) ?_
        refine lv_goto (tgt := 92) hx hb dX8_advance_88 (by decide) ?_
        exact hcut_77 1 (by decide) ls (lv_sub hl [0, 1, 2, 3, 4, 5, 6, 7] rfl)
    refine lv_icmp_ne (tgt := 68) hx hb dX8_advance_58 (by decide) (fun c_152 => ?_) (fun c_152 => ?_)
    · skip
      rw [← Int32.toInt_inj, ti_2] at c_152
      exact hcut_51 x_48 (by constructor <;> omega) ls (lv_sub hl [0, 1, 2, 3, 4, 5, 6, 7] rfl)
    · skip
      rw [← Int32.toInt_inj, ti_2] at c_152
      refine lv_iload hx hb dX8_advance_61 (lv_at hl 0 rfl) ?_
      refine lv_iload hx hb dX8_advance_63 (lv_at hl 1 rfl) ?_
      refine lv_ior hx hb dX8_advance_65 ?_
      refine lv_topi (fun x_153 ex_153 => ?_)
      have bx_153 : ((-2147483648) ≤ x_153.toInt ∧ x_153.toInt ≤ 2147483647) := ⟨i32_lo _, i32_hi _⟩
      refine lv_istore (lv' := [(7, .int x_153), (6, .int y_17), (5, .int x_16), (4, .int x_1), (0, .ref o0), (1, .ref o1), (2, .int p2), (3, .int p3)]) hx hb dX8_advance_66 hl (by decide) rfl (fun ls hl => ?_)
      exact hcut_51 x_153 (by constructor <;> omega) ls (lv_sub hl [0, 1, 2, 3, 4, 5, 6, 7] rfl)
  refine lv_if_ne (tgt := 23) hx hb dX8_advance_16 (by decide) (fun c_154 => ?_) (fun c_154 => ?_)
  · skip
    rw [← Int32.toInt_inj, ti_0] at c_154
    refine lv_aload_n hx hb dX8_advance_23 rfl (lv_at hl 3 rfl) ?_
    refine tk_getP (D := (dC, dI)) (ci := 4) (v := .ref a_10) (C := RX4) (T := TX4) (N := 11) hx hb hU inlX4 hown hK hP mo1 hfo_2 rfl 7 (by decide) (hU _ wd_840) (fun _ h9 => h9) rfl dX8_advance_24 ?_
    refine lv_aload_n hx hb dX8_advance_27 rfl (lv_at hl 2 rfl) ?_
    obtain ⟨a_156, a_157, a_158, a_159, a_160, hfo_155, ⟨ma_156, ka_156⟩, ⟨ma_157, ka_157⟩, ⟨ma_158, ka_158⟩, ⟨ma_159, ka_159⟩, ⟨ma_160, ka_160⟩⟩ := un_8 (hG _ mo0) ko0
    refine tk_getP (D := (dC, dI)) (ci := 8) (v := .ref a_156) (C := RX8) (T := TX8) (N := 5) hx hb hU inlX8 hown hK hP mo0 hfo_155 rfl 0 (by decide) (hU _ wd_120) (fun _ h9 => h9) rfl dX8_advance_28 ?_
    refine lv_iload_n hx hb dX8_advance_31 rfl (lv_at hl 4 rfl) ?_
    obtain ⟨g_162, hfo_161, hbg_162⟩ := un_37 (hG _ ma_156) ka_156
    refine tk_ildP hx hb hK hP 0 ma_156 hfo_161 rfl (vp_in_iff.mpr (by constructor <;> omega)) dX8_advance_32 ?_
    refine lv_topi (fun x_163 ex_163 => ?_)
    have bx_163 : ((-2147483648) ≤ x_163.toInt ∧ x_163.toInt ≤ 2147483647) := ⟨i32_lo _, i32_hi _⟩
    refine tk_SiP (As := [.int x_163]) (rest := [.ref a_10]) (n := 1) hx hb hml hown hU hN (s_X5_holding l (dC, dI) cI cL cZ cR kd L f hG x_163) wd_843 wd_844 wd_102 wd_845 (by decide +kernel) ⟨Nat.le_of_ble_eq_true rfl, Nat.le_of_ble_eq_true rfl⟩ hK hP hD hS rfl hl.1 rfl (Nat.le_of_ble_eq_true rfl) dX8_advance_33 ⟨Nat.le_of_ble_eq_true rfl, Nat.le_of_ble_eq_true rfl⟩ (fun x_164 f_165 H locs hw hP hD hS => ?_)
    obtain ⟨hG, bx_164⟩ := hw
    obtain ⟨g_167, hfo_166, hbg_167⟩ := un_23 (hG _ ma_10) ka_10
    refine tk_ildP hx hb hK hP 0 ma_10 hfo_166 rfl (vp_in_iff.mpr (by constructor <;> omega)) dX8_advance_36 ?_
    refine lv_topi (fun x_168 ex_168 => ?_)
    have bx_168 : ((-2147483648) ≤ x_168.toInt ∧ x_168.toInt ≤ 2147483647) := ⟨i32_lo _, i32_hi _⟩
    exact hcut_19 x_168 (by constructor <;> omega) f_165 hG _ _ hP hD hS ls (lv_sub hl [0, 1, 2, 3, 4, 5] rfl)
  · skip
    rw [← Int32.toInt_inj, ti_0] at c_154
    refine lv_iconst (v := 0) hx hb dX8_advance_19 (by decide) ?_
    refine lv_goto (tgt := 37) hx hb dX8_advance_20 (by decide) ?_
    exact hcut_19 0 (by decide) f hG _ _ hP hD hS ls (lv_sub hl [0, 1, 2, 3, 4, 5] rfl)
set_option maxHeartbeats 8000000 in
set_option maxRecDepth 100000 in
theorem s_X8_step_k8_k7 (l : Launch) (D : va_G) (cI cL cZ cR : ClassId) (kd : Nat → Nat) (L : List Nat) (f : Nat → va_E) (hG : GI (okc cI cL cZ cR L kd) kd L f) (o0 : Nat) (mo0 : o0 ∈ L) (ko0 : kd o0 = 8) (o1 : Nat) (mo1 : o1 ∈ L) (ko1 : kd o1 = 7) (p2 : Int32) (p3 : Int32) (bp3 : (0 ≤ p3.toInt ∧ p3.toInt ≤ 8)) (p4 : Int32) (bp4 : (0 ≤ p4.toInt ∧ p4.toInt ≤ 19)) : mPI l D cI cL cZ cR yX8_step cX8_step 12 (some .int) 2 56 [.ref o0, .ref o1, .int p2, .int p3, .int p4] L f (fun (r : Int32) (f9 : Nat → va_E) => GI (okc cI cL cZ cR L kd) kd L f9 ∧ (0 ≤ r.toInt ∧ r.toInt ≤ 255)) := by
  obtain ⟨dC, dI⟩ := D
  refine Met.ofW (cc := cX8_step) (maxL := 12) (ret := (some .int)) (by decide) rfl ?_
  intro p e s m args below meth c s₁ B hml hv
  obtain ⟨rfl, hP, hK, hD0, hN⟩ := hv
  have hx := B.exec
  have hb := B.bytes
  have hr := B.returns
  have hU : ∀ w ∈ wsU, w.before _ s = true := fun w h => atoms_spec (ws := wU yX8_step cX8_step 12 (some .int)) B.pre w (List.mem_cons_of_mem _ h)
  have hown : s.vm.findClass RX8 = some m.cls := findClass_of_methodNamed B.named
  have hlocks := B.notSynchronized
  have hD := pl_in hD0
  have hS : va_S (fun q => q ∈ L) s.heap s.heap [] := va_S.rf
  have hl := lv_entry ([.ref o0, .ref o1, .int p2, .int p3, .int p4]) (n := 12) (Nat.le_of_ble_eq_true rfl)
  rw [lg_entry_eq]
  generalize (lg_sl ([.ref o0, .ref o1, .int p2, .int p3, .int p4]) ++ List.replicate (12 - (lg_sl ([.ref o0, .ref o1, .int p2, .int p3, .int p4])).length) Slot.unset).toArray = ls at hl ⊢
  have hl : lv_has ls 12 [(0, .ref o0), (1, .ref o1), (2, .int p2), (3, .int p3), (4, .int p4)] := hl
  have bp2 : ((-2147483648) ≤ p2.toInt ∧ p2.toInt ≤ 2147483647) := ⟨i32_lo _, i32_hi _⟩
  refine lv_aload_n hx hb dX8_step_0 rfl (lv_at hl 0 rfl) ?_
  obtain ⟨a_2, a_3, a_4, a_5, a_6, hfo_1, ⟨ma_2, ka_2⟩, ⟨ma_3, ka_3⟩, ⟨ma_4, ka_4⟩, ⟨ma_5, ka_5⟩, ⟨ma_6, ka_6⟩⟩ := un_8 (hG _ mo0) ko0
  refine tk_getP (D := (dC, dI)) (ci := 8) (v := .ref a_6) (C := RX8) (T := TX8) (N := 5) hx hb hU inlX8 hown hK hP mo0 hfo_1 rfl 4 (by decide) (hU _ wd_124) (fun _ h9 => h9) rfl dX8_step_1 ?_
  refine lv_iload_n hx hb dX8_step_4 rfl (lv_at hl 3 rfl) ?_
  obtain ⟨g_8, hfo_7, hbg_8⟩ := un_40 (hG _ ma_6) ka_6
  refine tk_ildP hx hb hK hP 0 ma_6 hfo_7 rfl (vp_in_iff.mpr (by constructor <;> omega)) dX8_step_5 ?_
  refine lv_topi (fun x_9 ex_9 => ?_)
  have bx_9 : (0 ≤ x_9.toInt ∧ x_9.toInt ≤ 255) := by rw [ex_9]; exact hbg_8 _
  refine lv_istore (lv' := [(5, .int x_9), (0, .ref o0), (1, .ref o1), (2, .int p2), (3, .int p3), (4, .int p4)]) hx hb dX8_step_6 hl (by decide) rfl (fun ls hl => ?_)
  refine lv_iload_n hx hb dX8_step_8 rfl (lv_at hl 3 rfl) ?_
  refine lv_iload hx hb dX8_step_9 (lv_at hl 0 rfl) ?_
  refine lv_iconst (v := (-1)) hx hb dX8_step_11 (by decide) ?_
  refine lv_ixor hx hb dX8_step_12 ?_
  refine lv_topi (fun x_10 ex_10 => ?_)
  have bx_10 : ((-2147483648) ≤ x_10.toInt ∧ x_10.toInt ≤ 2147483647) := ⟨i32_lo _, i32_hi _⟩
  refine lv_iand hx hb dX8_step_13 ?_
  refine lv_topi (fun x_11 ex_11 => ?_)
  have bx_11 : ((-2147483648) ≤ x_11.toInt ∧ x_11.toInt ≤ 2147483647) := ⟨i32_lo _, i32_hi _⟩
  refine lv_istore (lv' := [(6, .int x_11), (5, .int x_9), (0, .ref o0), (1, .ref o1), (2, .int p2), (3, .int p3), (4, .int p4)]) hx hb dX8_step_14 hl (by decide) rfl (fun ls hl => ?_)
  refine lv_iload_n hx hb dX8_step_16 rfl (lv_at hl 5 rfl) ?_
  refine lv_bipush (v := 8) hx hb dX8_step_17 (by decide) ?_
  refine lv_imul hx hb dX8_step_19 ?_
  refine lv_topi (fun x_12 ex_12 => ?_)
  have hx_12 : x_12.toInt = p3.toInt * 8 := by rw [ex_12, ml_I (by rw [ti_8]; omega) (by rw [ti_8]; omega), ti_8]
  have bx_12 : (0 ≤ x_12.toInt ∧ x_12.toInt ≤ 64) := by constructor <;> omega
  refine lv_istore (lv' := [(7, .int x_12), (6, .int x_11), (5, .int x_9), (0, .ref o0), (1, .ref o1), (2, .int p2), (3, .int p3), (4, .int p4)]) hx hb dX8_step_20 hl (by decide) rfl (fun ls hl => ?_)
  refine lv_iconst (v := 0) hx hb dX8_step_22 (by decide) ?_
  refine lv_istore (lv' := [(8, .int 0), (7, .int x_12), (6, .int x_11), (5, .int x_9), (0, .ref o0), (1, .ref o1), (2, .int p2), (3, .int p3), (4, .int p4)]) hx hb dX8_step_23 hl (by decide) rfl (fun ls hl => ?_)
  have hloop_25 : ∀ (n : Nat), ∀ (y_22 : Int32), (0 ≤ y_22.toInt ∧ y_22.toInt ≤ 8) → ∀ (y_23 : Int32), (0 ≤ y_23.toInt ∧ y_23.toInt ≤ 255) → ∀ (f_24 : Nat → va_E), GI (okc cI cL cZ cR L kd) kd L f_24 → ∀ (H : Heap) (locs : List Loc), va_P (dC, dI) vwCl (va_pl L f_24) H → va_D (fun q => q ∈ L) (va_pl L f_24) → va_S (fun q => q ∈ L) s.heap H locs → 8 - y_22.toInt < (n : Int) → ∀ (ls : Array Slot), lv_has ls 12 [(8, .int y_22), (7, .int x_12), (6, .int x_11), (5, .int y_23), (0, .ref o0), (1, .ref o1), (2, .int p2), (3, .int p3), (4, .int p4)] → W p l e (headSpec (wU yX8_step cX8_step 12 (some .int)) { frames := 2, cells := 0, slots := 0, locals := 56 }).room s m [.ref o0, .ref o1, .int p2, .int p3, .int p4].toArray below meth c H locs 0 0 (MQ below (va_Qi (fun (r : Int32) (f9 : Nat → va_E) => GI (okc cI cL cZ cR L kd) kd L f9 ∧ (0 ≤ r.toInt ∧ r.toInt ≤ 255)) (qP (dC, dI) cI cL cZ cR L) (fun q => q ∈ L)) [.ref o0, .ref o1, .int p2, .int p3, .int p4].toArray s 0 0 (fun q => q ∈ L)) (F0 m 25 ls []) := by
    intro n
    induction n with
    | zero => intro y_22 by_22 y_23 by_23 f_24 hG H locs hP hD hS hmuhloop_25 ls hl; exfalso; omega
    | succ n ih_hloop_25 =>
      intro y_22 by_22 y_23 by_23 f_24 hG H locs hP hD hS hmuhloop_25 ls hl
      refine lv_iload hx hb dX8_step_25 (lv_at hl 0 rfl) ?_
      refine lv_bipush (v := 8) hx hb dX8_step_27 (by decide) ?_
      have hcut_26 : ∀ (ls : Array Slot), lv_has ls 12 [(8, .int y_22), (7, .int x_12), (6, .int x_11), (5, .int y_23), (0, .ref o0), (1, .ref o1), (2, .int p2), (3, .int p3), (4, .int p4)] → W p l e (headSpec (wU yX8_step cX8_step 12 (some .int)) { frames := 2, cells := 0, slots := 0, locals := 56 }).room s m [.ref o0, .ref o1, .int p2, .int p3, .int p4].toArray below meth c H locs 0 0 (MQ below (va_Qi (fun (r : Int32) (f9 : Nat → va_E) => GI (okc cI cL cZ cR L kd) kd L f9 ∧ (0 ≤ r.toInt ∧ r.toInt ≤ 255)) (qP (dC, dI) cI cL cZ cR L) (fun q => q ∈ L)) [.ref o0, .ref o1, .int p2, .int p3, .int p4].toArray s 0 0 (fun q => q ∈ L)) (F0 m 195 ls []) := by
        intro ls hl
        refine lv_aload_n hx hb dX8_step_195 rfl (lv_at hl 4 rfl) ?_
        obtain ⟨a_28, a_29, a_30, a_31, a_32, hfo_27, ⟨ma_28, ka_28⟩, ⟨ma_29, ka_29⟩, ⟨ma_30, ka_30⟩, ⟨ma_31, ka_31⟩, ⟨ma_32, ka_32⟩⟩ := un_8 (hG _ mo0) ko0
        refine tk_getP (D := (dC, dI)) (ci := 8) (v := .ref a_32) (C := RX8) (T := TX8) (N := 5) hx hb hU inlX8 hown hK hP mo0 hfo_27 rfl 4 (by decide) (hU _ wd_124) (fun _ h9 => h9) rfl dX8_step_196 ?_
        refine lv_iload_n hx hb dX8_step_199 rfl (lv_at hl 7 rfl) ?_
        refine lv_iconst (v := 1) hx hb dX8_step_200 (by decide) ?_
        refine lv_iadd hx hb dX8_step_201 ?_
        refine lv_topi (fun x_33 ex_33 => ?_)
        have hx_33 : x_33.toInt = p3.toInt + 1 := by rw [ex_33, ad_I (by rw [ti_1]; omega) (by rw [ti_1]; omega), ti_1]
        have bx_33 : (1 ≤ x_33.toInt ∧ x_33.toInt ≤ 9) := by constructor <;> omega
        refine lv_iload hx hb dX8_step_202 (lv_at hl 3 rfl) ?_
        obtain ⟨g_35, hfo_34, hbg_35⟩ := un_40 (hG _ ma_32) ka_32
        refine tk_istP hx hb hK hP hD hS 0 ma_32 hfo_34 rfl (vp_in_iff.mpr (by constructor <;> omega)) dX8_step_204 (fun H locs hP hD hS => ?_)
        obtain ⟨f_36, ef_36⟩ : ∃ y : Nat → va_E, y = va_up f_24 a_32 (.inl (cI, 10, .inl (upd g_35 (Int32.toNatClampNeg x_33) y_23))) := ⟨_, rfl⟩
        have hP : va_P (dC, dI) vwCl (va_pl L f_36) H := by rw [ef_36]; exact hP
        have hD : va_D (fun q => q ∈ L) (va_pl L f_36) := by rw [ef_36]; exact hD
        have hG : GI (okc cI cL cZ cR L kd) kd L f_36 := by rw [ef_36]; exact hG.set a_32 (mk_40 ka_32 ⟨_, rfl, okI_up hbg_35 (by constructor <;> omega) _⟩)
        have hfo_37 : f_36 o0 = .inr (8, [.ref a_28, .ref a_29, .ref a_30, .ref a_31, .ref a_32]) := by rw [ef_36, up_ne (kd_ne ka_32 ko0 (by decide))]; exact hfo_27
        have hfo_38 : f_36 a_32 = .inl (cI, 10, .inl (upd g_35 (Int32.toNatClampNeg x_33) y_23)) := by rw [ef_36]; exact up_self
        refine lv_iload hx hb dX8_step_205 (lv_at hl 3 rfl) ?_
        exact W.iret (v := y_23) hx hb hr (fun t ht hW => ⟨⟨y_23, f_36, rfl, ⟨hG, (by constructor <;> omega)⟩, by rw [ht]; exact hP, va_K.moved hW.alike hK, pl_in hD⟩, hS.F ht⟩) hS.2.2 dX8_step_207
      refine lv_icmp_ge (tgt := 195) hx hb dX8_step_29 (by decide) (fun c_39 => ?_) (fun c_39 => ?_)
      · skip
        rw [Int32.le_iff_toInt_le, ti_8] at c_39
        exact hcut_26 ls (lv_sub hl [0, 1, 2, 3, 4, 5, 6, 7, 8] rfl)
      · skip
        rw [Int32.le_iff_toInt_le, ti_8] at c_39
        refine lv_iload hx hb dX8_step_32 (lv_at hl 2 rfl) ?_
        refine lv_iload hx hb dX8_step_34 (lv_at hl 0 rfl) ?_
        refine lv_ishr hx hb dX8_step_36 ?_
        refine lv_topi (fun x_40 ex_40 => ?_)
        have bx_40 : ((-2147483648) ≤ x_40.toInt ∧ x_40.toInt ≤ 2147483647) := ⟨i32_lo _, i32_hi _⟩
        refine lv_if_eq (tgt := 195) hx hb dX8_step_37 (by decide) (fun c_41 => ?_) (fun c_41 => ?_)
        · skip
          rw [← Int32.toInt_inj, ti_0] at c_41
          exact hcut_26 ls (lv_sub hl [0, 1, 2, 3, 4, 5, 6, 7, 8] rfl)
        · skip
          rw [← Int32.toInt_inj, ti_0] at c_41
          refine lv_iload hx hb dX8_step_40 (lv_at hl 2 rfl) ?_
          refine lv_iload hx hb dX8_step_42 (lv_at hl 0 rfl) ?_
          refine lv_ishr hx hb dX8_step_44 ?_
          refine lv_topi (fun x_42 ex_42 => ?_)
          have bx_42 : ((-2147483648) ≤ x_42.toInt ∧ x_42.toInt ≤ 2147483647) := ⟨i32_lo _, i32_hi _⟩
          refine lv_iconst (v := 1) hx hb dX8_step_45 (by decide) ?_
          refine lv_iand hx hb dX8_step_46 ?_
          refine lv_topi (fun x_43 ex_43 => ?_)
          have bx_43 : (0 ≤ x_43.toInt ∧ x_43.toInt ≤ 1) := by rw [ex_43]; have h8 := an_C x_42 (m := 1) (by decide); rw [ti_1] at h8; exact h8
          refine lv_iconst (v := 1) hx hb dX8_step_47 (by decide) ?_
          have hcut_46 : ∀ (y_44 : Int32), (0 ≤ y_44.toInt ∧ y_44.toInt ≤ 255) → ∀ (f_45 : Nat → va_E), GI (okc cI cL cZ cR L kd) kd L f_45 → ∀ (H : Heap) (locs : List Loc), va_P (dC, dI) vwCl (va_pl L f_45) H → va_D (fun q => q ∈ L) (va_pl L f_45) → va_S (fun q => q ∈ L) s.heap H locs → ∀ (ls : Array Slot), lv_has ls 12 [(8, .int y_22), (7, .int x_12), (6, .int x_11), (5, .int y_44), (0, .ref o0), (1, .ref o1), (2, .int p2), (3, .int p3), (4, .int p4)] → W p l e (headSpec (wU yX8_step cX8_step 12 (some .int)) { frames := 2, cells := 0, slots := 0, locals := 56 }).room s m [.ref o0, .ref o1, .int p2, .int p3, .int p4].toArray below meth c H locs 0 0 (MQ below (va_Qi (fun (r : Int32) (f9 : Nat → va_E) => GI (okc cI cL cZ cR L kd) kd L f9 ∧ (0 ≤ r.toInt ∧ r.toInt ≤ 255)) (qP (dC, dI) cI cL cZ cR L) (fun q => q ∈ L)) [.ref o0, .ref o1, .int p2, .int p3, .int p4].toArray s 0 0 (fun q => q ∈ L)) (F0 m 189 ls []) := by
            intro y_44 by_44 f_45 hG H locs hP hD hS ls hl
            obtain ⟨x_47, ex_47⟩ : ∃ y : Int32, y_22 + 1 = y := ⟨_, rfl⟩
            have hx_47 : x_47.toInt = y_22.toInt + 1 := by rw [← ex_47, ad_I (by rw [ti_1]; omega) (by rw [ti_1]; omega), ti_1]
            have bx_47 : (1 ≤ x_47.toInt ∧ x_47.toInt ≤ 8) := by constructor <;> omega
            refine lv_iinc (v := x_47) (lv' := [(8, .int x_47), (7, .int x_12), (6, .int x_11), (5, .int y_44), (0, .ref o0), (1, .ref o1), (2, .int p2), (3, .int p3), (4, .int p4)]) hx hb dX8_step_189 hl (k := 0) rfl ex_47 (by decide) rfl (fun ls hl => ?_)
            refine lv_goto (tgt := 25) hx hb dX8_step_192 (by decide) ?_
            exact ih_hloop_25 x_47 (by constructor <;> omega) y_44 (by constructor <;> omega) f_45 hG _ _ hP hD hS (by omega) ls (lv_sub hl [0, 1, 2, 3, 4, 5, 6, 7, 8] rfl)
          refine lv_icmp_ne (tgt := 189) hx hb dX8_step_48 (by decide) (fun c_48 => ?_) (fun c_48 => ?_)
          · skip
            rw [← Int32.toInt_inj, ti_1] at c_48
            exact hcut_46 y_23 (by constructor <;> omega) f_24 hG _ _ hP hD hS ls (lv_sub hl [0, 1, 2, 3, 4, 5, 6, 7, 8] rfl)
          · skip
            rw [← Int32.toInt_inj, ti_1] at c_48
            refine lv_aload_n hx hb dX8_step_51 rfl (lv_at hl 5 rfl) ?_
            obtain ⟨a_50, v_51, a_52, a_53, a_54, a_55, v_56, a_57, a_58, a_59, a_60, a_61, v_62, a_63, a_64, a_65, hfo_49, ⟨ma_50, ka_50⟩, bv_51, ⟨ma_52, ka_52⟩, ⟨ma_53, ka_53⟩, ⟨ma_54, ka_54⟩, ⟨ma_55, ka_55⟩, bv_56, ⟨ma_57, ka_57⟩, ⟨ma_58, ka_58⟩, ⟨ma_59, ka_59⟩, ⟨ma_60, ka_60⟩, ⟨ma_61, ka_61⟩, bv_62, ⟨ma_63, ka_63⟩, ⟨ma_64, ka_64⟩, ⟨ma_65, ka_65⟩⟩ := un_7 (hG _ mo1) ko1
            refine tk_getP (D := (dC, dI)) (ci := 7) (v := .ref a_61) (C := RX7) (T := TX7) (N := 16) hx hb hU inlX7 hown hK hP mo1 hfo_49 rfl 11 (by decide) (hU _ wd_760) (fun _ h9 => h9) rfl dX8_step_52 ?_
            refine lv_iload hx hb dX8_step_55 (lv_at hl 0 rfl) ?_
            obtain ⟨g_67, hfo_66, hbg_67⟩ := un_35 (hG _ ma_61) ka_61
            obtain ⟨a_68, hga_68, ma_68, ka_68⟩ := hbg_67 (Int32.toNatClampNeg y_22) (in_lt (vp_in_iff.mpr (by constructor <;> omega)))
            refine tk_aldP hx hb hK hP 3 ma_61 hfo_66 rfl (vp_in_iff.mpr (by constructor <;> omega)) hga_68 dX8_step_57 ?_
            refine lv_astore (lv' := [(9, .ref a_68), (8, .int y_22), (7, .int x_12), (6, .int x_11), (5, .int y_23), (0, .ref o0), (1, .ref o1), (2, .int p2), (3, .int p3), (4, .int p4)]) hx hb dX8_step_58 hl (by decide) rfl (fun ls hl => ?_)
            refine lv_iload hx hb dX8_step_60 (lv_at hl 2 rfl) ?_
            refine lv_iload hx hb dX8_step_62 (lv_at hl 1 rfl) ?_
            refine lv_iadd hx hb dX8_step_64 ?_
            refine lv_topi (fun x_69 ex_69 => ?_)
            have hx_69 : x_69.toInt = x_12.toInt + y_22.toInt := by rw [ex_69, ad_I (by omega) (by omega)]
            have bx_69 : (0 ≤ x_69.toInt ∧ x_69.toInt ≤ 71) := by constructor <;> omega
            refine lv_bipush (v := 8) hx hb dX8_step_65 (by decide) ?_
            refine lv_iadd hx hb dX8_step_67 ?_
            refine lv_topi (fun x_70 ex_70 => ?_)
            have hx_70 : x_70.toInt = x_69.toInt + 8 := by rw [ex_70, ad_I (by rw [ti_8]; omega) (by rw [ti_8]; omega), ti_8]
            have bx_70 : (8 ≤ x_70.toInt ∧ x_70.toInt ≤ 79) := by constructor <;> omega
            refine lv_istore (lv' := [(10, .int x_70), (9, .ref a_68), (8, .int y_22), (7, .int x_12), (6, .int x_11), (5, .int y_23), (0, .ref o0), (1, .ref o1), (2, .int p2), (3, .int p3), (4, .int p4)]) hx hb dX8_step_68 hl (by decide) rfl (fun ls hl => ?_)
            refine lv_aload_n hx hb dX8_step_70 rfl (lv_at hl 6 rfl) ?_
            obtain ⟨a_72, a_73, a_74, a_75, a_76, hfo_71, ⟨ma_72, ka_72⟩, ⟨ma_73, ka_73⟩, ⟨ma_74, ka_74⟩, ⟨ma_75, ka_75⟩, ⟨ma_76, ka_76⟩⟩ := un_8 (hG _ mo0) ko0
            refine tk_getP (D := (dC, dI)) (ci := 8) (v := .ref a_72) (C := RX8) (T := TX8) (N := 5) hx hb hU inlX8 hown hK hP mo0 hfo_71 rfl 0 (by decide) (hU _ wd_120) (fun _ h9 => h9) rfl dX8_step_71 ?_
            refine lv_iload hx hb dX8_step_74 (lv_at hl 0 rfl) ?_
            refine lv_aload hx hb dX8_step_76 (lv_at hl 1 rfl) ?_
            obtain ⟨v_78, v_79, v_80, v_81, a_82, a_83, a_84, a_85, v_86, v_87, v_88, hfo_77, bv_78, bv_79, bv_80, bv_81, ⟨ma_82, ka_82⟩, ⟨ma_83, ka_83⟩, ⟨ma_84, ka_84⟩, ⟨ma_85, ka_85⟩⟩ := un_4 (hG _ ma_68) ka_68
            have bv_86 : ((-2147483648) ≤ v_86.toInt ∧ v_86.toInt ≤ 2147483647) := ⟨i32_lo _, i32_hi _⟩
            have bv_87 : ((-2147483648) ≤ v_87.toInt ∧ v_87.toInt ≤ 2147483647) := ⟨i32_lo _, i32_hi _⟩
            have bv_88 : ((-2147483648) ≤ v_88.toInt ∧ v_88.toInt ≤ 2147483647) := ⟨i32_lo _, i32_hi _⟩
            refine tk_getP (D := (dC, dI)) (ci := 4) (v := .ref a_82) (C := RX4) (T := TX4) (N := 11) hx hb hU inlX4 hown hK hP ma_68 hfo_77 rfl 4 (by decide) (hU _ wd_829) (fun _ h9 => h9) rfl dX8_step_78 ?_
            refine lv_aload_n hx hb dX8_step_81 rfl (lv_at hl 6 rfl) ?_
            refine tk_getP (D := (dC, dI)) (ci := 8) (v := .ref a_72) (C := RX8) (T := TX8) (N := 5) hx hb hU inlX8 hown hK hP mo0 hfo_71 rfl 0 (by decide) (hU _ wd_120) (fun _ h9 => h9) rfl dX8_step_82 ?_
            refine lv_iload hx hb dX8_step_85 (lv_at hl 3 rfl) ?_
            refine lv_iload hx hb dX8_step_87 (lv_at hl 2 rfl) ?_
            refine lv_iadd hx hb dX8_step_89 ?_
            refine lv_topi (fun x_89 ex_89 => ?_)
            have hx_89 : x_89.toInt = x_12.toInt + y_22.toInt := by rw [ex_89, ad_I (by omega) (by omega)]
            have bx_89 : (0 ≤ x_89.toInt ∧ x_89.toInt ≤ 71) := by constructor <;> omega
            obtain ⟨g_91, hfo_90, hbg_91⟩ := un_37 (hG _ ma_72) ka_72
            refine tk_ildP hx hb hK hP 0 ma_72 hfo_90 rfl (vp_in_iff.mpr (by constructor <;> omega)) dX8_step_90 ?_
            refine lv_topi (fun x_92 ex_92 => ?_)
            have bx_92 : ((-2147483648) ≤ x_92.toInt ∧ x_92.toInt ≤ 2147483647) := ⟨i32_lo _, i32_hi _⟩
            refine lv_iload hx hb dX8_step_91 (lv_at hl 10 rfl) ?_
            obtain ⟨a_94, a_95, a_96, v_97, v_98, v_99, hfo_93, ⟨ma_94, ka_94⟩, ⟨ma_95, ka_95⟩, ⟨ma_96, ka_96⟩⟩ := un_5 (hG _ ma_82) ka_82
            have bv_97 : ((-2147483648) ≤ v_97.toInt ∧ v_97.toInt ≤ 2147483647) := ⟨i32_lo _, i32_hi _⟩
            have bv_98 : ((-2147483648) ≤ v_98.toInt ∧ v_98.toInt ≤ 2147483647) := ⟨i32_lo _, i32_hi _⟩
            have bv_99 : ((-2147483648) ≤ v_99.toInt ∧ v_99.toInt ≤ 2147483647) := ⟨i32_lo _, i32_hi _⟩
            refine tk_ViP (As := [.int x_92, .int p4]) (rest := [.int x_70, .ref a_72]) (n := 2) hx hb hml hown hU hN (s_X5_step_k5 l (dC, dI) cI cL cZ cR kd L f_24 hG a_82 ma_82 ka_82 x_92 p4 (by constructor <;> omega)) wd_832 wd_833 wd_834 wd_102 wd_835 (by decide +kernel) ⟨Nat.le_of_ble_eq_true rfl, Nat.le_of_ble_eq_true rfl⟩ hK hP hD hS ma_82 hfo_93 5 rfl rfl rfl hl.1 rfl (Nat.le_of_ble_eq_true rfl) dX8_step_93 ⟨Nat.le_of_ble_eq_true rfl, Nat.le_of_ble_eq_true rfl⟩ (fun x_100 f_101 H locs hw hP hD hS => ?_)
            obtain ⟨hG, bx_100⟩ := hw
            refine lv_aload hx hb dX8_step_96 (lv_at hl 1 rfl) ?_
            obtain ⟨v_103, v_104, v_105, v_106, a_107, a_108, a_109, a_110, v_111, v_112, v_113, hfo_102, bv_103, bv_104, bv_105, bv_106, ⟨ma_107, ka_107⟩, ⟨ma_108, ka_108⟩, ⟨ma_109, ka_109⟩, ⟨ma_110, ka_110⟩⟩ := un_4 (hG _ ma_68) ka_68
            have bv_111 : ((-2147483648) ≤ v_111.toInt ∧ v_111.toInt ≤ 2147483647) := ⟨i32_lo _, i32_hi _⟩
            have bv_112 : ((-2147483648) ≤ v_112.toInt ∧ v_112.toInt ≤ 2147483647) := ⟨i32_lo _, i32_hi _⟩
            have bv_113 : ((-2147483648) ≤ v_113.toInt ∧ v_113.toInt ≤ 2147483647) := ⟨i32_lo _, i32_hi _⟩
            refine tk_getP (D := (dC, dI)) (ci := 4) (v := .int v_112) (C := RX4) (T := TX4) (N := 11) hx hb hU inlX4 hown hK hP ma_68 hfo_102 rfl 9 (by decide) (hU _ wd_830) (fun _ h9 => h9) rfl dX8_step_98 ?_
            refine lv_ior hx hb dX8_step_101 ?_
            refine lv_topi (fun x_114 ex_114 => ?_)
            have bx_114 : ((-2147483648) ≤ x_114.toInt ∧ x_114.toInt ≤ 2147483647) := ⟨i32_lo _, i32_hi _⟩
            obtain ⟨g_116, hfo_115, hbg_116⟩ := un_37 (hG _ ma_72) ka_72
            refine tk_istP hx hb hK hP hD hS 0 ma_72 hfo_115 rfl (vp_in_iff.mpr (by constructor <;> omega)) dX8_step_102 (fun H locs hP hD hS => ?_)
            obtain ⟨f_117, ef_117⟩ : ∃ y : Nat → va_E, y = va_up f_101 a_72 (.inl (cI, 80, .inl (upd g_116 (Int32.toNatClampNeg x_70) x_114))) := ⟨_, rfl⟩
            have hP : va_P (dC, dI) vwCl (va_pl L f_117) H := by rw [ef_117]; exact hP
            have hD : va_D (fun q => q ∈ L) (va_pl L f_117) := by rw [ef_117]; exact hD
            have hG : GI (okc cI cL cZ cR L kd) kd L f_117 := by rw [ef_117]; exact hG.set a_72 (mk_37 ka_72 ⟨_, rfl, okI_up hbg_116 ⟨i32_lo _, i32_hi _⟩ _⟩)
            have hfo_118 : f_117 a_68 = .inr (4, [.int v_103, .int v_104, .int v_105, .int v_106, .ref a_107, .ref a_108, .ref a_109, .ref a_110, .int v_111, .int v_112, .int v_113]) := by rw [ef_117, up_ne (kd_ne ka_72 ka_68 (by decide))]; exact hfo_102
            have hfo_119 : f_117 a_72 = .inl (cI, 80, .inl (upd g_116 (Int32.toNatClampNeg x_70) x_114)) := by rw [ef_117]; exact up_self
            refine lv_aload_n hx hb dX8_step_103 rfl (lv_at hl 6 rfl) ?_
            obtain ⟨a_121, a_122, a_123, a_124, a_125, hfo_120, ⟨ma_121, ka_121⟩, ⟨ma_122, ka_122⟩, ⟨ma_123, ka_123⟩, ⟨ma_124, ka_124⟩, ⟨ma_125, ka_125⟩⟩ := un_8 (hG _ mo0) ko0
            refine tk_getP (D := (dC, dI)) (ci := 8) (v := .ref a_122) (C := RX8) (T := TX8) (N := 5) hx hb hU inlX8 hown hK hP mo0 hfo_120 rfl 1 (by decide) (hU _ wd_121) (fun _ h9 => h9) rfl dX8_step_104 ?_
            refine lv_iload hx hb dX8_step_107 (lv_at hl 0 rfl) ?_
            refine lv_iconst (v := 0) hx hb dX8_step_109 (by decide) ?_
            obtain ⟨g_127, hfo_126, hbg_127⟩ := un_37 (hG _ ma_122) ka_122
            refine tk_istP hx hb hK hP hD hS 0 ma_122 hfo_126 rfl (vp_in_iff.mpr (by constructor <;> omega)) dX8_step_110 (fun H locs hP hD hS => ?_)
            obtain ⟨f_128, ef_128⟩ : ∃ y : Nat → va_E, y = va_up f_117 a_122 (.inl (cI, 80, .inl (upd g_127 (Int32.toNatClampNeg x_70) 0))) := ⟨_, rfl⟩
            have hP : va_P (dC, dI) vwCl (va_pl L f_128) H := by rw [ef_128]; exact hP
            have hD : va_D (fun q => q ∈ L) (va_pl L f_128) := by rw [ef_128]; exact hD
            have hG : GI (okc cI cL cZ cR L kd) kd L f_128 := by rw [ef_128]; exact hG.set a_122 (mk_37 ka_122 ⟨_, rfl, okI_up hbg_127 ⟨i32_lo _, i32_hi _⟩ _⟩)
            have hfo_129 : f_128 a_68 = .inr (4, [.int v_103, .int v_104, .int v_105, .int v_106, .ref a_107, .ref a_108, .ref a_109, .ref a_110, .int v_111, .int v_112, .int v_113]) := by rw [ef_128, up_ne (kd_ne ka_122 ka_68 (by decide))]; exact hfo_118
            have hfo_130 : f_128 o0 = .inr (8, [.ref a_121, .ref a_122, .ref a_123, .ref a_124, .ref a_125]) := by rw [ef_128, up_ne (kd_ne ka_122 ko0 (by decide))]; exact hfo_120
            have hfo_131 : f_128 a_122 = .inl (cI, 80, .inl (upd g_127 (Int32.toNatClampNeg x_70) 0)) := by rw [ef_128]; exact up_self
            refine lv_aload_n hx hb dX8_step_111 rfl (lv_at hl 6 rfl) ?_
            refine tk_getP (D := (dC, dI)) (ci := 8) (v := .ref a_123) (C := RX8) (T := TX8) (N := 5) hx hb hU inlX8 hown hK hP mo0 hfo_130 rfl 2 (by decide) (hU _ wd_122) (fun _ h9 => h9) rfl dX8_step_112 ?_
            refine lv_iload hx hb dX8_step_115 (lv_at hl 0 rfl) ?_
            refine lv_iconst (v := 0) hx hb dX8_step_117 (by decide) ?_
            obtain ⟨g_133, hfo_132, hbg_133⟩ := un_38 (hG _ ma_123) ka_123
            refine tk_istP hx hb hK hP hD hS 0 ma_123 hfo_132 rfl (vp_in_iff.mpr (by constructor <;> omega)) dX8_step_118 (fun H locs hP hD hS => ?_)
            obtain ⟨f_134, ef_134⟩ : ∃ y : Nat → va_E, y = va_up f_128 a_123 (.inl (cI, 80, .inl (upd g_133 (Int32.toNatClampNeg x_70) 0))) := ⟨_, rfl⟩
            have hP : va_P (dC, dI) vwCl (va_pl L f_134) H := by rw [ef_134]; exact hP
            have hD : va_D (fun q => q ∈ L) (va_pl L f_134) := by rw [ef_134]; exact hD
            have hG : GI (okc cI cL cZ cR L kd) kd L f_134 := by rw [ef_134]; exact hG.set a_123 (mk_38 ka_123 ⟨_, rfl, okI_up hbg_133 (by decide) _⟩)
            have hfo_135 : f_134 a_68 = .inr (4, [.int v_103, .int v_104, .int v_105, .int v_106, .ref a_107, .ref a_108, .ref a_109, .ref a_110, .int v_111, .int v_112, .int v_113]) := by rw [ef_134, up_ne (kd_ne ka_123 ka_68 (by decide))]; exact hfo_129
            have hfo_136 : f_134 o0 = .inr (8, [.ref a_121, .ref a_122, .ref a_123, .ref a_124, .ref a_125]) := by rw [ef_134, up_ne (kd_ne ka_123 ko0 (by decide))]; exact hfo_130
            have hfo_137 : f_134 a_123 = .inl (cI, 80, .inl (upd g_133 (Int32.toNatClampNeg x_70) 0)) := by rw [ef_134]; exact up_self
            refine lv_aload hx hb dX8_step_119 (lv_at hl 1 rfl) ?_
            refine tk_getP (D := (dC, dI)) (ci := 4) (v := .ref a_109) (C := RX4) (T := TX4) (N := 11) hx hb hU inlX4 hown hK hP ma_68 hfo_135 rfl 6 (by decide) (hU _ wd_831) (fun _ h9 => h9) rfl dX8_step_121 ?_
            refine lv_iload hx hb dX8_step_124 (lv_at hl 10 rfl) ?_
            obtain ⟨g_139, hfo_138, hbg_139⟩ := un_22 (hG _ ma_109) ka_109
            refine tk_ildP hx hb hK hP 0 ma_109 hfo_138 rfl (vp_in_iff.mpr (by constructor <;> omega)) dX8_step_126 ?_
            refine lv_topi (fun x_140 ex_140 => ?_)
            have bx_140 : (0 ≤ x_140.toInt ∧ x_140.toInt ≤ 2) := by rw [ex_140]; exact hbg_139 _
            refine lv_aload_n hx hb dX8_step_127 rfl (lv_at hl 6 rfl) ?_
            refine tk_getP (D := (dC, dI)) (ci := 8) (v := .ref a_122) (C := RX8) (T := TX8) (N := 5) hx hb hU inlX8 hown hK hP mo0 hfo_136 rfl 1 (by decide) (hU _ wd_121) (fun _ h9 => h9) rfl dX8_step_128 ?_
            refine lv_iload hx hb dX8_step_131 (lv_at hl 3 rfl) ?_
            refine lv_iload hx hb dX8_step_133 (lv_at hl 2 rfl) ?_
            refine lv_iadd hx hb dX8_step_135 ?_
            refine lv_topi (fun x_141 ex_141 => ?_)
            have hx_141 : x_141.toInt = x_12.toInt + y_22.toInt := by rw [ex_141, ad_I (by omega) (by omega)]
            have bx_141 : (0 ≤ x_141.toInt ∧ x_141.toInt ≤ 71) := by constructor <;> omega
            obtain ⟨g_143, hfo_142, hbg_143⟩ := un_37 (hG _ ma_122) ka_122
            refine tk_ildP hx hb hK hP 0 ma_122 hfo_142 rfl (vp_in_iff.mpr (by constructor <;> omega)) dX8_step_136 ?_
            refine lv_topi (fun x_144 ex_144 => ?_)
            have bx_144 : ((-2147483648) ≤ x_144.toInt ∧ x_144.toInt ≤ 2147483647) := ⟨i32_lo _, i32_hi _⟩
            refine lv_ior hx hb dX8_step_137 ?_
            refine lv_topi (fun x_145 ex_145 => ?_)
            have bx_145 : ((-2147483648) ≤ x_145.toInt ∧ x_145.toInt ≤ 2147483647) := ⟨i32_lo _, i32_hi _⟩
            refine lv_aload_n hx hb dX8_step_138 rfl (lv_at hl 6 rfl) ?_
            refine tk_getP (D := (dC, dI)) (ci := 8) (v := .ref a_123) (C := RX8) (T := TX8) (N := 5) hx hb hU inlX8 hown hK hP mo0 hfo_136 rfl 2 (by decide) (hU _ wd_122) (fun _ h9 => h9) rfl dX8_step_139 ?_
            refine lv_iload hx hb dX8_step_142 (lv_at hl 3 rfl) ?_
            refine lv_iload hx hb dX8_step_144 (lv_at hl 2 rfl) ?_
            refine lv_iadd hx hb dX8_step_146 ?_
            refine lv_topi (fun x_146 ex_146 => ?_)
            have hx_146 : x_146.toInt = x_12.toInt + y_22.toInt := by rw [ex_146, ad_I (by omega) (by omega)]
            have bx_146 : (0 ≤ x_146.toInt ∧ x_146.toInt ≤ 71) := by constructor <;> omega
            obtain ⟨g_148, hfo_147, hbg_148⟩ := un_38 (hG _ ma_123) ka_123
            refine tk_ildP hx hb hK hP 0 ma_123 hfo_147 rfl (vp_in_iff.mpr (by constructor <;> omega)) dX8_step_147 ?_
            refine lv_topi (fun x_149 ex_149 => ?_)
            have bx_149 : (0 ≤ x_149.toInt ∧ x_149.toInt ≤ 10) := by rw [ex_149]; exact hbg_148 _
            refine lv_ior hx hb dX8_step_148 ?_
            refine lv_topi (fun x_150 ex_150 => ?_)
            have bx_150 : ((-2147483648) ≤ x_150.toInt ∧ x_150.toInt ≤ 2147483647) := ⟨i32_lo _, i32_hi _⟩
            have hcut_152 : ∀ (y_151 : Int32), (0 ≤ y_151.toInt ∧ y_151.toInt ≤ 1) → ∀ (ls : Array Slot), lv_has ls 12 [(10, .int x_70), (9, .ref a_68), (8, .int y_22), (7, .int x_12), (6, .int x_11), (5, .int y_23), (0, .ref o0), (1, .ref o1), (2, .int p2), (3, .int p3), (4, .int p4)] → W p l e (headSpec (wU yX8_step cX8_step 12 (some .int)) { frames := 2, cells := 0, slots := 0, locals := 56 }).room s m [.ref o0, .ref o1, .int p2, .int p3, .int p4].toArray below meth c H locs 0 0 (MQ below (va_Qi (fun (r : Int32) (f9 : Nat → va_E) => GI (okc cI cL cZ cR L kd) kd L f9 ∧ (0 ≤ r.toInt ∧ r.toInt ≤ 255)) (qP (dC, dI) cI cL cZ cR L) (fun q => q ∈ L)) [.ref o0, .ref o1, .int p2, .int p3, .int p4].toArray s 0 0 (fun q => q ∈ L)) (F0 m 157 ls [.int y_151]) := by
              intro y_151 by_151 ls hl
              refine lv_istore (lv' := [(11, .int y_151), (10, .int x_70), (9, .ref a_68), (8, .int y_22), (7, .int x_12), (6, .int x_11), (5, .int y_23), (0, .ref o0), (1, .ref o1), (2, .int p2), (3, .int p3), (4, .int p4)]) hx hb dX8_step_157 hl (by decide) rfl (fun ls hl => ?_)
              refine lv_iload hx hb dX8_step_159 (lv_at hl 0 rfl) ?_
              refine lv_if_ne (tgt := 189) hx hb dX8_step_161 (by decide) (fun c_153 => ?_) (fun c_153 => ?_)
              · skip
                rw [← Int32.toInt_inj, ti_0] at c_153
                exact hcut_46 y_23 (by constructor <;> omega) f_134 hG _ _ hP hD hS ls (lv_sub hl [3, 4, 5, 6, 7, 8, 9, 10, 11] rfl)
              · skip
                rw [← Int32.toInt_inj, ti_0] at c_153
                refine lv_aload_n hx hb dX8_step_164 rfl (lv_at hl 7 rfl) ?_
                refine lv_aload hx hb dX8_step_165 (lv_at hl 2 rfl) ?_
                refine lv_iload hx hb dX8_step_167 (lv_at hl 4 rfl) ?_
                refine lv_iload hx hb dX8_step_169 (lv_at hl 3 rfl) ?_
                refine lv_iadd hx hb dX8_step_171 ?_
                refine lv_topi (fun x_154 ex_154 => ?_)
                have hx_154 : x_154.toInt = x_12.toInt + y_22.toInt := by rw [ex_154, ad_I (by omega) (by omega)]
                have bx_154 : (0 ≤ x_154.toInt ∧ x_154.toInt ≤ 71) := by constructor <;> omega
                refine lv_iload hx hb dX8_step_172 (lv_at hl 11 rfl) ?_
                refine tk_ViP (As := [.ref a_68, .int x_154, .int p4]) (rest := []) (n := 3) hx hb hml hown hU hN (s_X8_advance_k8_k4 l (dC, dI) cI cL cZ cR kd L f_134 hG o0 mo0 ko0 a_68 ma_68 ka_68 x_154 (by constructor <;> omega) p4 (by constructor <;> omega)) wd_836 wd_837 wd_838 wd_55 wd_839 (by decide +kernel) ⟨Nat.le_of_ble_eq_true rfl, Nat.le_of_ble_eq_true rfl⟩ hK hP hD hS mo0 hfo_136 8 rfl rfl rfl hl.1 rfl (Nat.le_of_ble_eq_true rfl) dX8_step_174 ⟨Nat.le_of_ble_eq_true rfl, Nat.le_of_ble_eq_true rfl⟩ (fun x_155 f_156 H locs hw hP hD hS => ?_)
                obtain ⟨hG, bx_155⟩ := hw
                refine lv_if_eq (tgt := 189) hx hb dX8_step_177 (by decide) (fun c_157 => ?_) (fun c_157 => ?_)
                · skip
                  rw [← Int32.toInt_inj, ti_0] at c_157
                  exact hcut_46 y_23 (by constructor <;> omega) f_156 hG _ _ hP hD hS ls (lv_sub hl [3, 4, 5, 6, 7, 8, 9, 10, 11] rfl)
                · skip
                  rw [← Int32.toInt_inj, ti_0] at c_157
                  refine lv_iload hx hb dX8_step_180 (lv_at hl 6 rfl) ?_
                  refine lv_iconst (v := 1) hx hb dX8_step_182 (by decide) ?_
                  refine lv_iload hx hb dX8_step_183 (lv_at hl 3 rfl) ?_
                  refine lv_ishl hx hb dX8_step_185 ?_
                  refine lv_topi (fun x_158 ex_158 => ?_)
                  have bx_158 : (1 ≤ x_158.toInt ∧ x_158.toInt ≤ 128) := by rw [ex_158]; exact sh_7 (by constructor <;> omega)
                  refine lv_ior hx hb dX8_step_186 ?_
                  refine lv_topi (fun x_159 ex_159 => ?_)
                  have bx_159 : (0 ≤ x_159.toInt ∧ x_159.toInt ≤ 255) := by rw [ex_159]; exact or_K 8 (by decide) (by constructor <;> omega) (by constructor <;> omega)
                  refine lv_istore (lv' := [(5, .int x_159), (11, .int y_151), (10, .int x_70), (9, .ref a_68), (8, .int y_22), (7, .int x_12), (6, .int x_11), (0, .ref o0), (1, .ref o1), (2, .int p2), (3, .int p3), (4, .int p4)]) hx hb dX8_step_187 hl (by decide) rfl (fun ls hl => ?_)
                  exact hcut_46 x_159 (by constructor <;> omega) f_156 hG _ _ hP hD hS ls (lv_sub hl [4, 5, 6, 0, 7, 8, 9, 10, 11] rfl)
            refine lv_if_ne (tgt := 156) hx hb dX8_step_149 (by decide) (fun c_160 => ?_) (fun c_160 => ?_)
            · skip
              rw [← Int32.toInt_inj, ti_0] at c_160
              refine lv_iconst (v := 0) hx hb dX8_step_156 (by decide) ?_
              exact hcut_152 0 (by decide) ls (lv_sub hl [0, 1, 2, 3, 4, 5, 6, 7, 8, 9, 10] rfl)
            · skip
              rw [← Int32.toInt_inj, ti_0] at c_160
              refine lv_iconst (v := 1) hx hb dX8_step_152 (by decide) ?_
              refine lv_goto (tgt := 157) hx hb dX8_step_153 (by decide) ?_
              exact hcut_152 1 (by decide) ls (lv_sub hl [0, 1, 2, 3, 4, 5, 6, 7, 8, 9, 10] rfl)
  exact hloop_25 9 0 (by decide) x_9 (by constructor <;> omega) f hG _ _ hP hD hS (by (try simp only [ti_0]); omega) ls hl
