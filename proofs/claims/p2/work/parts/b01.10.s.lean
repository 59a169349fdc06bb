set_option maxHeartbeats 8000000 in
set_option maxRecDepth 100000 in
theorem s_X5_couplesOf (l : Launch) (D : va_G) (cI cL cZ cR cG cH : ClassId) (Z : zT) (kd : Nat → Nat) (L : List Nat) (f : Nat → va_E) (hG : GI (okc cI cL cZ cR cG cH L kd) kd L f) (p0 : Int32) (p1 : Int32) : mPL l D cI cL cZ cR cG cH Z yX5_couplesOf cX5_couplesOf 5 (some .long) 0 0 [.int p0, .int p1] L f (fun (r : Int64) (f9 : Nat → va_E) => f = f9) := by
  obtain ⟨dC, dI⟩ := D
  refine Met.ofW (cc := cX5_couplesOf) (maxL := 5) (ret := (some .long)) (by decide) rfl ?_
  intro p e s m args below meth c s₁ B hml hv
  obtain ⟨rfl, hP, hK, hD0, hN, hZ⟩ := hv
  have hx := B.exec
  have hb := B.bytes
  have hr := B.returns
  have hU : ∀ w ∈ wsU, w.before _ s = true := fun w h => atoms_spec (ws := wU yX5_couplesOf cX5_couplesOf 5 (some .long)) B.pre w (List.mem_cons_of_mem _ h)
  have hown : s.vm.findClass RX5 = some m.cls := findClass_of_methodNamed B.named
  have hlocks := B.notSynchronized
  have hD := pl_in hD0
  have hS : va_S (fun q => q ∈ L) s.heap s.heap [] := va_S.rf
  have hl := lv_entry ([.int p0, .int p1]) (n := 5) (Nat.le_of_ble_eq_true rfl)
  rw [lg_entry_eq]
  generalize (lg_sl ([.int p0, .int p1]) ++ List.replicate (5 - (lg_sl ([.int p0, .int p1])).length) Slot.unset).toArray = ls at hl ⊢
  have hl : lv_has ls 5 [(0, .int p0), (1, .int p1)] := hl
  have bp0 : ((-2147483648) ≤ p0.toInt ∧ p0.toInt ≤ 2147483647) := ⟨i32_lo _, i32_hi _⟩
  have bp1 : ((-2147483648) ≤ p1.toInt ∧ p1.toInt ≤ 2147483647) := ⟨i32_lo _, i32_hi _⟩
  refine lv_lconst (v := 0) hx hb dX5_couplesOf_0 (by decide) ?_
  refine lv_lstore_n (lv' := [(2, .long 0), (0, .int p0), (1, .int p1)]) hx hb dX5_couplesOf_1 rfl hl (by decide) rfl (fun ls hl => ?_)
  refine lv_iconst (v := 0) hx hb dX5_couplesOf_2 (by decide) ?_
  refine lv_istore (lv' := [(4, .int 0), (2, .long 0), (0, .int p0), (1, .int p1)]) hx hb dX5_couplesOf_3 hl (by decide) rfl (fun ls hl => ?_)
  have hloop_10 : ∀ (n : Nat), ∀ (y_11 : Int32), (0 ≤ y_11.toInt ∧ y_11.toInt ≤ 6) → ∀ (y_12 : Int64), 6 - y_11.toInt < (n : Int) → ∀ (ls : Array Slot), lv_has ls 5 [(4, .int y_11), (2, .long y_12), (0, .int p0), (1, .int p1)] → W p l e (headSpec (wU yX5_couplesOf cX5_couplesOf 5 (some .long)) { frames := 0, cells := 0, slots := 0, locals := 0 }).room s m [.int p0, .int p1].toArray below meth c s.heap [] 0 0 (MQ below (va_Ql (fun (r : Int64) (f9 : Nat → va_E) => f = f9) (qP (dC, dI) cI cL cZ cR cG cH L) (fun q => q ∈ L)) [.int p0, .int p1].toArray s 0 0 (fun q => q ∈ L)) (F0 m 5 ls []) := by
    intro n
    induction n with
    | zero => intro y_11 by_11 y_12 hmuhloop_10 ls hl; exfalso; omega
    | succ n ih_hloop_10 =>
      intro y_11 by_11 y_12 hmuhloop_10 ls hl
      refine lv_iload hx hb dX5_couplesOf_5 (lv_at hl 0 rfl) ?_
      refine lv_bipush (v := 6) hx hb dX5_couplesOf_7 (by decide) ?_
      refine lv_icmp_ge (tgt := 39) hx hb dX5_couplesOf_9 (by decide) (fun c_13 => ?_) (fun c_13 => ?_)
      · skip
        rw [Int32.le_iff_toInt_le, ti_6] at c_13
        refine lv_lload_n hx hb dX5_couplesOf_39 rfl (lv_at hl 1 rfl) ?_
        exact W.lret (v := y_12) hx hb hr (fun t ht hW => ⟨⟨y_12, f, rfl, rfl, by rw [ht]; exact hP, va_K.moved hW.alike hK, pl_in hD⟩, hS.F ht⟩) hS.2.2 dX5_couplesOf_40
      · skip
        rw [Int32.le_iff_toInt_le, ti_6] at c_13
        refine lv_iload_n hx hb dX5_couplesOf_12 rfl (lv_at hl 2 rfl) ?_
        refine lv_iload hx hb dX5_couplesOf_13 (lv_at hl 0 rfl) ?_
        refine lv_ishr hx hb dX5_couplesOf_15 ?_
        refine lv_topi (fun x_14 ex_14 => ?_)
        have bx_14 : ((-2147483648) ≤ x_14.toInt ∧ x_14.toInt ≤ 2147483647) := ⟨i32_lo _, i32_hi _⟩
        refine lv_iconst (v := 1) hx hb dX5_couplesOf_16 (by decide) ?_
        refine lv_iand hx hb dX5_couplesOf_17 ?_
        refine lv_topi (fun x_15 ex_15 => ?_)
        have bx_15 : (0 ≤ x_15.toInt ∧ x_15.toInt ≤ 1) := by rw [ex_15]; have h8 := an_C x_14 (m := 1) (by decide); rw [ti_1] at h8; exact h8
        refine lv_iconst (v := 1) hx hb dX5_couplesOf_18 (by decide) ?_
        have hcut_17 : ∀ (y_16 : Int64), ∀ (ls : Array Slot), lv_has ls 5 [(4, .int y_11), (2, .long y_16), (0, .int p0), (1, .int p1)] → W p l e (headSpec (wU yX5_couplesOf cX5_couplesOf 5 (some .long)) { frames := 0, cells := 0, slots := 0, locals := 0 }).room s m [.int p0, .int p1].toArray below meth c s.heap [] 0 0 (MQ below (va_Ql (fun (r : Int64) (f9 : Nat → va_E) => f = f9) (qP (dC, dI) cI cL cZ cR cG cH L) (fun q => q ∈ L)) [.int p0, .int p1].toArray s 0 0 (fun q => q ∈ L)) (F0 m 33 ls []) := by
          intro y_16 ls hl
          obtain ⟨x_18, ex_18⟩ : ∃ y : Int32, y_11 + 1 = y := ⟨_, rfl⟩
          have hx_18 : x_18.toInt = y_11.toInt + 1 := by rw [← ex_18, ad_I (by rw [ti_1]; omega) (by rw [ti_1]; omega), ti_1]
          have bx_18 : (1 ≤ x_18.toInt ∧ x_18.toInt ≤ 6) := by constructor <;> omega
          refine lv_iinc (v := x_18) (lv' := [(4, .int x_18), (2, .long y_16), (0, .int p0), (1, .int p1)]) hx hb dX5_couplesOf_33 hl (k := 0) rfl ex_18 (by decide) rfl (fun ls hl => ?_)
          refine lv_goto (tgt := 5) hx hb dX5_couplesOf_36 (by decide) ?_
          exact ih_hloop_10 x_18 (by constructor <;> omega) (y_16) (by omega) ls (lv_sub hl [0, 1, 2, 3] rfl)
        refine lv_icmp_ne (tgt := 33) hx hb dX5_couplesOf_19 (by decide) (fun c_19 => ?_) (fun c_19 => ?_)
        · skip
          rw [← Int32.toInt_inj, ti_1] at c_19
          exact hcut_17 (y_12) ls (lv_sub hl [0, 1, 2, 3] rfl)
        · skip
          rw [← Int32.toInt_inj, ti_1] at c_19
          refine lv_lload_n hx hb dX5_couplesOf_22 rfl (lv_at hl 1 rfl) ?_
          refine lv_iload_n hx hb dX5_couplesOf_23 rfl (lv_at hl 3 rfl) ?_
          refine lv_i2l hx hb dX5_couplesOf_24 rfl ?_
          refine lv_topl (fun j_20 ej_20 => ?_)
          refine lv_iload hx hb dX5_couplesOf_25 (lv_at hl 0 rfl) ?_
          refine lv_bipush (v := 6) hx hb dX5_couplesOf_27 (by decide) ?_
          refine lv_imul hx hb dX5_couplesOf_29 ?_
          refine lv_topi (fun x_21 ex_21 => ?_)
          have hx_21 : x_21.toInt = y_11.toInt * 6 := by rw [ex_21, ml_I (by rw [ti_6]; omega) (by rw [ti_6]; omega), ti_6]
          have bx_21 : (0 ≤ x_21.toInt ∧ x_21.toInt ≤ 30) := by constructor <;> omega
          refine lv_lshl hx hb dX5_couplesOf_30 rfl ?_
          refine lv_topl (fun j_22 ej_22 => ?_)
          refine lv_lor hx hb dX5_couplesOf_31 ?_
          refine lv_topl (fun j_23 ej_23 => ?_)
          refine lv_lstore_n (lv' := [(2, .long j_23), (4, .int y_11), (0, .int p0), (1, .int p1)]) hx hb dX5_couplesOf_32 rfl hl (by decide) rfl (fun ls hl => ?_)
          exact hcut_17 (j_23) ls (lv_sub hl [1, 0, 2, 3] rfl)
  exact hloop_10 7 0 (by decide) (0) (by (try rw [ti_0]) <;> omega) ls hl
set_option maxHeartbeats 8000000 in
set_option maxRecDepth 100000 in
theorem s_X5_moveAlone_k5 (l : Launch) (D : va_G) (cI cL cZ cR cG cH : ClassId) (Z : zT) (kd : Nat → Nat) (L : List Nat) (f : Nat → va_E) (hG : GI (okc cI cL cZ cR cG cH L kd) kd L f) (o0 : Nat) (mo0 : o0 ∈ L) (ko0 : kd o0 = 5) (p1 : Int32) (bp1 : (0 ≤ p1.toInt ∧ p1.toInt ≤ 2)) (p2 : Int32) (p3 : Int32) (bp3 : (0 ≤ p3.toInt ∧ p3.toInt ≤ 19)) (p4 : Int32) (bp4 : (0 ≤ p4.toInt ∧ p4.toInt ≤ 1)) : mPI l D cI cL cZ cR cG cH Z yX5_moveAlone cX5_moveAlone 8 (some .int) 1 24 [.ref o0, .int p1, .int p2, .int p3, .int p4] L f (fun (r : Int32) (f9 : Nat → va_E) => f = f9 ∧ (0 ≤ r.toInt ∧ r.toInt ≤ 63)) := by
  obtain ⟨dC, dI⟩ := D
  refine Met.ofW (cc := cX5_moveAlone) (maxL := 8) (ret := (some .int)) (by decide) rfl ?_
  intro p e s m args below meth c s₁ B hml hv
  obtain ⟨rfl, hP, hK, hD0, hN, hZ⟩ := hv
  have hx := B.exec
  have hb := B.bytes
  have hr := B.returns
  have hU : ∀ w ∈ wsU, w.before _ s = true := fun w h => atoms_spec (ws := wU yX5_moveAlone cX5_moveAlone 8 (some .int)) B.pre w (List.mem_cons_of_mem _ h)
  have hown : s.vm.findClass RX5 = some m.cls := findClass_of_methodNamed B.named
  have hlocks := B.notSynchronized
  have hD := pl_in hD0
  have hS : va_S (fun q => q ∈ L) s.heap s.heap [] := va_S.rf
  have hl := lv_entry ([.ref o0, .int p1, .int p2, .int p3, .int p4]) (n := 8) (Nat.le_of_ble_eq_true rfl)
  rw [lg_entry_eq]
  generalize (lg_sl ([.ref o0, .int p1, .int p2, .int p3, .int p4]) ++ List.replicate (8 - (lg_sl ([.ref o0, .int p1, .int p2, .int p3, .int p4])).length) Slot.unset).toArray = ls at hl ⊢
  have hl : lv_has ls 8 [(0, .ref o0), (1, .int p1), (2, .int p2), (3, .int p3), (4, .int p4)] := hl
  have bp2 : ((-2147483648) ≤ p2.toInt ∧ p2.toInt ≤ 2147483647) := ⟨i32_lo _, i32_hi _⟩
  refine lv_iload_n hx hb dX5_moveAlone_0 rfl (lv_at hl 1 rfl) ?_
  refine lv_bipush (v := 6) hx hb dX5_moveAlone_1 (by decide) ?_
  refine lv_imul hx hb dX5_moveAlone_3 ?_
  refine lv_topi (fun x_1 ex_1 => ?_)
  have hx_1 : x_1.toInt = p1.toInt * 6 := by rw [ex_1, ml_I (by rw [ti_6]; omega) (by rw [ti_6]; omega), ti_6]
  have bx_1 : (0 ≤ x_1.toInt ∧ x_1.toInt ≤ 12) := by constructor <;> omega
  refine lv_istore (lv' := [(5, .int x_1), (0, .ref o0), (1, .int p1), (2, .int p2), (3, .int p3), (4, .int p4)]) hx hb dX5_moveAlone_4 hl (by decide) rfl (fun ls hl => ?_)
  refine lv_iload_n hx hb dX5_moveAlone_6 rfl (lv_at hl 3 rfl) ?_
  refine lv_iload hx hb dX5_moveAlone_7 (lv_at hl 0 rfl) ?_
  refine lv_ishl hx hb dX5_moveAlone_9 ?_
  refine lv_topi (fun x_2 ex_2 => ?_)
  have bx_2 : ((-2147483648) ≤ x_2.toInt ∧ x_2.toInt ≤ 2147483647) := ⟨i32_lo _, i32_hi _⟩
  refine lv_istore (lv' := [(6, .int x_2), (5, .int x_1), (0, .ref o0), (1, .int p1), (2, .int p2), (3, .int p3), (4, .int p4)]) hx hb dX5_moveAlone_10 hl (by decide) rfl (fun ls hl => ?_)
  refine lv_aload_n hx hb dX5_moveAlone_12 rfl (lv_at hl 2 rfl) ?_
  refine lv_iload hx hb dX5_moveAlone_13 (lv_at hl 0 rfl) ?_
  refine lv_iload_n hx hb dX5_moveAlone_15 rfl (lv_at hl 5 rfl) ?_
  obtain ⟨a_4, a_5, a_6, v_7, v_8, v_9, hfo_3, ⟨ma_4, ka_4⟩, ⟨ma_5, ka_5⟩, ⟨ma_6, ka_6⟩⟩ := un_5 (hG _ mo0) ko0
  have bv_7 : ((-2147483648) ≤ v_7.toInt ∧ v_7.toInt ≤ 2147483647) := ⟨i32_lo _, i32_hi _⟩
  have bv_8 : ((-2147483648) ≤ v_8.toInt ∧ v_8.toInt ≤ 2147483647) := ⟨i32_lo _, i32_hi _⟩
  have bv_9 : ((-2147483648) ≤ v_9.toInt ∧ v_9.toInt ≤ 2147483647) := ⟨i32_lo _, i32_hi _⟩
  refine tk_ViP (As := [.int x_2, .int p3]) (rest := []) (n := 2) hx hb hml hown hU hN hZ (s_X5_step_k5 l (dC, dI) cI cL cZ cR cG cH Z kd L f hG o0 mo0 ko0 x_2 p3 (by constructor <;> omega)) wd_1284 wd_833 wd_834 wd_102 wd_835 (by decide +kernel) ⟨Nat.le_of_ble_eq_true rfl, Nat.le_of_ble_eq_true rfl⟩ hK hP hD hS mo0 hfo_3 5 rfl rfl rfl hl.1 rfl (Nat.le_of_ble_eq_true rfl) dX5_moveAlone_16 ⟨Nat.le_of_ble_eq_true rfl, Nat.le_of_ble_eq_true rfl⟩ (fun x_10 f_11 H locs hw hP hD hS => ?_)
  obtain ⟨rfl, bx_10⟩ := hw
  refine lv_istore (lv' := [(7, .int x_10), (6, .int x_2), (5, .int x_1), (0, .ref o0), (1, .int p1), (2, .int p2), (3, .int p3), (4, .int p4)]) hx hb dX5_moveAlone_19 hl (by decide) rfl (fun ls hl => ?_)
  refine lv_aload_n hx hb dX5_moveAlone_21 rfl (lv_at hl 3 rfl) ?_
  refine tk_getP (D := (dC, dI)) (ci := 5) (v := .int v_9) (C := RX5) (T := TX5) (N := 6) hx hb hU inlX5 hown hK hP mo0 hfo_3 rfl 5 (by decide) (hU _ wd_417) (fun _ h9 => h9) rfl dX5_moveAlone_22 ?_
  refine lv_iload_n hx hb dX5_moveAlone_25 rfl (lv_at hl 4 rfl) ?_
  refine lv_ishr hx hb dX5_moveAlone_26 ?_
  refine lv_topi (fun x_13 ex_13 => ?_)
  have bx_13 : ((-2147483648) ≤ x_13.toInt ∧ x_13.toInt ≤ 2147483647) := ⟨i32_lo _, i32_hi _⟩
  refine lv_iconst (v := 1) hx hb dX5_moveAlone_27 (by decide) ?_
  refine lv_iand hx hb dX5_moveAlone_28 ?_
  refine lv_topi (fun x_14 ex_14 => ?_)
  have bx_14 : (0 ≤ x_14.toInt ∧ x_14.toInt ≤ 1) := by rw [ex_14]; have h8 := an_C x_13 (m := 1) (by decide); rw [ti_1] at h8; exact h8
  have hcut_17 : ∀ (y_15 : Int32), ((-2147483648) ≤ y_15.toInt ∧ y_15.toInt ≤ 2147483647) → ∀ (H : Heap) (locs : List Loc), va_P (dC, dI) vwCl (va_pl L f) H → va_S (fun q => q ∈ L) s.heap H locs → ∀ (ls : Array Slot), lv_has ls 8 [(7, .int y_15), (6, .int x_2), (5, .int x_1), (0, .ref o0), (1, .int p1), (2, .int p2), (3, .int p3), (4, .int p4)] → W p l e (headSpec (wU yX5_moveAlone cX5_moveAlone 8 (some .int)) { frames := 1, cells := 0, slots := 0, locals := 24 }).room s m [.ref o0, .int p1, .int p2, .int p3, .int p4].toArray below meth c H locs 0 0 (MQ below (va_Qi (fun (r : Int32) (f9 : Nat → va_E) => f = f9 ∧ (0 ≤ r.toInt ∧ r.toInt ≤ 63)) (qP (dC, dI) cI cL cZ cR cG cH L) (fun q => q ∈ L)) [.ref o0, .int p1, .int p2, .int p3, .int p4].toArray s 0 0 (fun q => q ∈ L)) (F0 m 61 ls []) := by
    intro y_15 by_15 H locs hP hS ls hl
    refine lv_iload hx hb dX5_moveAlone_61 (lv_at hl 0 rfl) ?_
    refine lv_iload hx hb dX5_moveAlone_63 (lv_at hl 2 rfl) ?_
    refine lv_ishr hx hb dX5_moveAlone_65 ?_
    refine lv_topi (fun x_18 ex_18 => ?_)
    have bx_18 : ((-2147483648) ≤ x_18.toInt ∧ x_18.toInt ≤ 2147483647) := ⟨i32_lo _, i32_hi _⟩
    refine lv_bipush (v := 63) hx hb dX5_moveAlone_66 (by decide) ?_
    refine lv_iand hx hb dX5_moveAlone_68 ?_
    refine lv_topi (fun x_19 ex_19 => ?_)
    have bx_19 : (0 ≤ x_19.toInt ∧ x_19.toInt ≤ 63) := by rw [ex_19]; have h8 := an_C x_18 (m := 63) (by decide); rw [ti_63] at h8; exact h8
    exact W.iret (v := x_19) hx hb hr (fun t ht hW => ⟨⟨x_19, f, rfl, ⟨rfl, (by constructor <;> omega)⟩, by rw [ht]; exact hP, va_K.moved hW.alike hK, pl_in hD⟩, hS.F ht⟩) hS.2.2 dX5_moveAlone_69
  refine lv_if_ne (tgt := 61) hx hb dX5_moveAlone_29 (by decide) (fun c_20 => ?_) (fun c_20 => ?_)
  · skip
    rw [← Int32.toInt_inj, ti_0] at c_20
    exact hcut_17 x_10 (by constructor <;> omega) _ _ hP hS ls (lv_sub hl [0, 1, 2, 3, 4, 5, 6, 7] rfl)
  · skip
    rw [← Int32.toInt_inj, ti_0] at c_20
    refine lv_iload hx hb dX5_moveAlone_32 (lv_at hl 0 rfl) ?_
    refine lv_iload hx hb dX5_moveAlone_34 (lv_at hl 7 rfl) ?_
    have hcut_23 : ∀ (y_21 : Int32), ((-2147483648) ≤ y_21.toInt ∧ y_21.toInt ≤ 2147483647) → ∀ (H : Heap) (locs : List Loc), va_P (dC, dI) vwCl (va_pl L f) H → va_S (fun q => q ∈ L) s.heap H locs → ∀ (ls : Array Slot), lv_has ls 8 [(7, .int x_10), (6, .int x_2), (5, .int x_1), (0, .ref o0), (1, .int p1), (2, .int p2), (3, .int p3), (4, .int p4)] → W p l e (headSpec (wU yX5_moveAlone cX5_moveAlone 8 (some .int)) { frames := 1, cells := 0, slots := 0, locals := 24 }).room s m [.ref o0, .int p1, .int p2, .int p3, .int p4].toArray below meth c H locs 0 0 (MQ below (va_Qi (fun (r : Int32) (f9 : Nat → va_E) => f = f9 ∧ (0 ≤ r.toInt ∧ r.toInt ≤ 63)) (qP (dC, dI) cI cL cZ cR cG cH L) (fun q => q ∈ L)) [.ref o0, .int p1, .int p2, .int p3, .int p4].toArray s 0 0 (fun q => q ∈ L)) (F0 m 58 ls [.int y_21, .int x_10]) := by
      intro y_21 by_21 H locs hP hS ls hl
      refine lv_ior hx hb dX5_moveAlone_58 ?_
      refine lv_topi (fun x_24 ex_24 => ?_)
      have bx_24 : ((-2147483648) ≤ x_24.toInt ∧ x_24.toInt ≤ 2147483647) := ⟨i32_lo _, i32_hi _⟩
      refine lv_istore (lv' := [(7, .int x_24), (6, .int x_2), (5, .int x_1), (0, .ref o0), (1, .int p1), (2, .int p2), (3, .int p3), (4, .int p4)]) hx hb dX5_moveAlone_59 hl (by decide) rfl (fun ls hl => ?_)
      exact hcut_17 x_24 (by constructor <;> omega) _ _ hP hS ls (lv_sub hl [0, 1, 2, 3, 4, 5, 6, 7] rfl)
    refine lv_if_eq (tgt := 53) hx hb dX5_moveAlone_36 (by decide) (fun c_25 => ?_) (fun c_25 => ?_)
    · skip
      rw [← Int32.toInt_inj, ti_0] at c_25
      refine lv_iload hx hb dX5_moveAlone_53 (lv_at hl 1 rfl) ?_
      refine lv_ldc (v := 133152) hx hb hown (hU _ wd_1283) dX5_moveAlone_55 ?_
      refine lv_iand hx hb dX5_moveAlone_57 ?_
      refine lv_topi (fun x_26 ex_26 => ?_)
      have bx_26 : (0 ≤ x_26.toInt ∧ x_26.toInt ≤ 133152) := by rw [ex_26]; have h8 := an_C x_2 (m := 133152) (by decide); rw [ti_133152] at h8; exact h8
      exact hcut_23 x_26 (by constructor <;> omega) _ _ hP hS ls (lv_sub hl [0, 1, 2, 3, 4, 5, 6, 7] rfl)
    · skip
      rw [← Int32.toInt_inj, ti_0] at c_25
      refine lv_aload_n hx hb dX5_moveAlone_39 rfl (lv_at hl 3 rfl) ?_
      refine lv_iload hx hb dX5_moveAlone_40 (lv_at hl 1 rfl) ?_
      refine lv_aload_n hx hb dX5_moveAlone_42 rfl (lv_at hl 3 rfl) ?_
      refine tk_getP (D := (dC, dI)) (ci := 5) (v := .int v_8) (C := RX5) (T := TX5) (N := 6) hx hb hU inlX5 hown hK hP mo0 hfo_3 rfl 4 (by decide) (hU _ wd_416) (fun _ h9 => h9) rfl dX5_moveAlone_43 ?_
      refine lv_iand hx hb dX5_moveAlone_46 ?_
      refine lv_topi (fun x_27 ex_27 => ?_)
      have bx_27 : ((-2147483648) ≤ x_27.toInt ∧ x_27.toInt ≤ 2147483647) := ⟨i32_lo _, i32_hi _⟩
      refine tk_ViP (As := [.int x_27]) (rest := [.int x_10]) (n := 1) hx hb hml hown hU hN hZ (s_X5_closure_k5 l (dC, dI) cI cL cZ cR cG cH Z kd L f hG o0 mo0 ko0 x_27) wd_516 wd_517 wd_518 wd_102 wd_519 (by decide +kernel) ⟨Nat.le_of_ble_eq_true rfl, Nat.le_of_ble_eq_true rfl⟩ hK hP hD hS mo0 hfo_3 5 rfl rfl rfl hl.1 rfl (Nat.le_of_ble_eq_true rfl) dX5_moveAlone_47 ⟨Nat.le_of_ble_eq_true rfl, Nat.le_of_ble_eq_true rfl⟩ (fun x_28 f_29 H locs hw hP hD hS => ?_)
      obtain ⟨rfl, bx_28⟩ := hw
      refine lv_goto (tgt := 58) hx hb dX5_moveAlone_50 (by decide) ?_
      exact hcut_23 x_28 (by constructor <;> omega) _ _ hP hS ls (lv_sub hl [0, 1, 2, 3, 4, 5, 6, 7] rfl)
set_option maxHeartbeats 8000000 in
set_option maxRecDepth 100000 in
theorem s_X5_moveCouples_k5_k5 (l : Launch) (D : va_G) (cI cL cZ cR cG cH : ClassId) (Z : zT) (kd : Nat → Nat) (L : List Nat) (f : Nat → va_E) (hG : GI (okc cI cL cZ cR cG cH L kd) kd L f) (o0 : Nat) (mo0 : o0 ∈ L) (ko0 : kd o0 = 5) (l1 : Int64) (p2 : Int32) (bp2 : (0 ≤ p2.toInt ∧ p2.toInt ≤ 2)) (o3 : Nat) (mo3 : o3 ∈ L) (ko3 : kd o3 = 5) (p4 : Int32) (bp4 : (0 ≤ p4.toInt ∧ p4.toInt ≤ 2)) (p5 : Int32) (bp5 : (0 ≤ p5.toInt ∧ p5.toInt ≤ 19)) (p6 : Int32) (bp6 : (0 ≤ p6.toInt ∧ p6.toInt ≤ 1)) : mPL l D cI cL cZ cR cG cH Z yX5_moveCouples cX5_moveCouples 12 (some .long) 2 51 [.ref o0, .long l1, .int p2, .ref o3, .int p4, .int p5, .int p6] L f (fun (r : Int64) (f9 : Nat → va_E) => f = f9) := by
  obtain ⟨dC, dI⟩ := D
  refine Met.ofW (cc := cX5_moveCouples) (maxL := 12) (ret := (some .long)) (by decide) rfl ?_
  intro p e s m args below meth c s₁ B hml hv
  obtain ⟨rfl, hP, hK, hD0, hN, hZ⟩ := hv
  have hx := B.exec
  have hb := B.bytes
  have hr := B.returns
  have hU : ∀ w ∈ wsU, w.before _ s = true := fun w h => atoms_spec (ws := wU yX5_moveCouples cX5_moveCouples 12 (some .long)) B.pre w (List.mem_cons_of_mem _ h)
  have hown : s.vm.findClass RX5 = some m.cls := findClass_of_methodNamed B.named
  have hlocks := B.notSynchronized
  have hD := pl_in hD0
  have hS : va_S (fun q => q ∈ L) s.heap s.heap [] := va_S.rf
  have hl := lv_entry ([.ref o0, .long l1, .int p2, .ref o3, .int p4, .int p5, .int p6]) (n := 12) (Nat.le_of_ble_eq_true rfl)
  rw [lg_entry_eq]
  generalize (lg_sl ([.ref o0, .long l1, .int p2, .ref o3, .int p4, .int p5, .int p6]) ++ List.replicate (12 - (lg_sl ([.ref o0, .long l1, .int p2, .ref o3, .int p4, .int p5, .int p6])).length) Slot.unset).toArray = ls at hl ⊢
  have hl : lv_has ls 12 [(0, .ref o0), (1, .long l1), (3, .int p2), (4, .ref o3), (5, .int p4), (6, .int p5), (7, .int p6)] := hl
  refine lv_lconst (v := 0) hx hb dX5_moveCouples_0 (by decide) ?_
  refine lv_lstore (lv' := [(8, .long 0), (0, .ref o0), (1, .long l1), (3, .int p2), (4, .ref o3), (5, .int p4), (6, .int p5), (7, .int p6)]) hx hb dX5_moveCouples_1 hl (by decide) rfl (fun ls hl => ?_)
  refine lv_iconst (v := 0) hx hb dX5_moveCouples_3 (by decide) ?_
  refine lv_istore (lv' := [(10, .int 0), (8, .long 0), (0, .ref o0), (1, .long l1), (3, .int p2), (4, .ref o3), (5, .int p4), (6, .int p5), (7, .int p6)]) hx hb dX5_moveCouples_4 hl (by decide) rfl (fun ls hl => ?_)
  have hloop_16 : ∀ (n : Nat), ∀ (y_17 : Int32), (0 ≤ y_17.toInt ∧ y_17.toInt ≤ 6) → ∀ (y_18 : Int64), ∀ (H : Heap) (locs : List Loc), va_P (dC, dI) vwCl (va_pl L f) H → va_S (fun q => q ∈ L) s.heap H locs → 6 - y_17.toInt < (n : Int) → ∀ (ls : Array Slot), lv_has ls 12 [(10, .int y_17), (8, .long y_18), (0, .ref o0), (1, .long l1), (3, .int p2), (4, .ref o3), (5, .int p4), (6, .int p5), (7, .int p6)] → W p l e (headSpec (wU yX5_moveCouples cX5_moveCouples 12 (some .long)) { frames := 2, cells := 0, slots := 0, locals := 51 }).room s m [.ref o0, .long l1, .int p2, .ref o3, .int p4, .int p5, .int p6].toArray below meth c H locs 0 0 (MQ below (va_Ql (fun (r : Int64) (f9 : Nat → va_E) => f = f9) (qP (dC, dI) cI cL cZ cR cG cH L) (fun q => q ∈ L)) [.ref o0, .long l1, .int p2, .ref o3, .int p4, .int p5, .int p6].toArray s 0 0 (fun q => q ∈ L)) (F0 m 6 ls []) := by
    intro n
    induction n with
    | zero => intro y_17 by_17 y_18 H locs hP hS hmuhloop_16 ls hl; exfalso; omega
    | succ n ih_hloop_16 =>
      intro y_17 by_17 y_18 H locs hP hS hmuhloop_16 ls hl
      refine lv_iload hx hb dX5_moveCouples_6 (lv_at hl 0 rfl) ?_
      refine lv_bipush (v := 6) hx hb dX5_moveCouples_8 (by decide) ?_
      refine lv_icmp_ge (tgt := 71) hx hb dX5_moveCouples_10 (by decide) (fun c_20 => ?_) (fun c_20 => ?_)
      · skip
        rw [Int32.le_iff_toInt_le, ti_6] at c_20
        refine lv_lload hx hb dX5_moveCouples_71 (lv_at hl 1 rfl) ?_
        exact W.lret (v := y_18) hx hb hr (fun t ht hW => ⟨⟨y_18, f, rfl, rfl, by rw [ht]; exact hP, va_K.moved hW.alike hK, pl_in hD⟩, hS.F ht⟩) hS.2.2 dX5_moveCouples_73
      · skip
        rw [Int32.le_iff_toInt_le, ti_6] at c_20
        refine lv_lload_n hx hb dX5_moveCouples_13 rfl (lv_at hl 3 rfl) ?_
        refine lv_iload hx hb dX5_moveCouples_14 (lv_at hl 0 rfl) ?_
        refine lv_bipush (v := 6) hx hb dX5_moveCouples_16 (by decide) ?_
        refine lv_imul hx hb dX5_moveCouples_18 ?_
        refine lv_topi (fun x_21 ex_21 => ?_)
        have hx_21 : x_21.toInt = y_17.toInt * 6 := by rw [ex_21, ml_I (by rw [ti_6]; omega) (by rw [ti_6]; omega), ti_6]
        have bx_21 : (0 ≤ x_21.toInt ∧ x_21.toInt ≤ 30) := by constructor <;> omega
        refine lv_lshr hx hb dX5_moveCouples_19 rfl ?_
        refine lv_topl (fun j_22 ej_22 => ?_)
        refine lv_l2i hx hb dX5_moveCouples_20 rfl ?_
        refine lv_topi (fun x_23 ex_23 => ?_)
        have bx_23 : ((-2147483648) ≤ x_23.toInt ∧ x_23.toInt ≤ 2147483647) := ⟨i32_lo _, i32_hi _⟩
        refine lv_bipush (v := 63) hx hb dX5_moveCouples_21 (by decide) ?_
        refine lv_iand hx hb dX5_moveCouples_23 ?_
        refine lv_topi (fun x_24 ex_24 => ?_)
        have bx_24 : (0 ≤ x_24.toInt ∧ x_24.toInt ≤ 63) := by rw [ex_24]; have h8 := an_C x_23 (m := 63) (by decide); rw [ti_63] at h8; exact h8
        refine lv_istore (lv' := [(11, .int x_24), (10, .int y_17), (8, .long y_18), (0, .ref o0), (1, .long l1), (3, .int p2), (4, .ref o3), (5, .int p4), (6, .int p5), (7, .int p6)]) hx hb dX5_moveCouples_24 hl (by decide) rfl (fun ls hl => ?_)
        refine lv_iload hx hb dX5_moveCouples_26 (lv_at hl 0 rfl) ?_
        have hcut_27 : ∀ (y_25 : Int64), ∀ (H : Heap) (locs : List Loc), va_P (dC, dI) vwCl (va_pl L f) H → va_S (fun q => q ∈ L) s.heap H locs → ∀ (ls : Array Slot), lv_has ls 12 [(11, .int x_24), (10, .int y_17), (8, .long y_25), (0, .ref o0), (1, .long l1), (3, .int p2), (4, .ref o3), (5, .int p4), (6, .int p5), (7, .int p6)] → W p l e (headSpec (wU yX5_moveCouples cX5_moveCouples 12 (some .long)) { frames := 2, cells := 0, slots := 0, locals := 51 }).room s m [.ref o0, .long l1, .int p2, .ref o3, .int p4, .int p5, .int p6].toArray below meth c H locs 0 0 (MQ below (va_Ql (fun (r : Int64) (f9 : Nat → va_E) => f = f9) (qP (dC, dI) cI cL cZ cR cG cH L) (fun q => q ∈ L)) [.ref o0, .long l1, .int p2, .ref o3, .int p4, .int p5, .int p6].toArray s 0 0 (fun q => q ∈ L)) (F0 m 65 ls []) := by
          intro y_25 H locs hP hS ls hl
          obtain ⟨x_28, ex_28⟩ : ∃ y : Int32, y_17 + 1 = y := ⟨_, rfl⟩
          have hx_28 : x_28.toInt = y_17.toInt + 1 := by rw [← ex_28, ad_I (by rw [ti_1]; omega) (by rw [ti_1]; omega), ti_1]
          have bx_28 : (1 ≤ x_28.toInt ∧ x_28.toInt ≤ 6) := by constructor <;> omega
          refine lv_iinc (v := x_28) (lv' := [(10, .int x_28), (11, .int x_24), (8, .long y_25), (0, .ref o0), (1, .long l1), (3, .int p2), (4, .ref o3), (5, .int p4), (6, .int p5), (7, .int p6)]) hx hb dX5_moveCouples_65 hl (k := 1) rfl ex_28 (by decide) rfl (fun ls hl => ?_)
          refine lv_goto (tgt := 6) hx hb dX5_moveCouples_68 (by decide) ?_
          exact ih_hloop_16 x_28 (by constructor <;> omega) (y_25) _ _ hP hS (by omega) ls (lv_sub hl [0, 2, 3, 4, 5, 6, 7, 8, 9] rfl)
        refine lv_if_eq (tgt := 65) hx hb dX5_moveCouples_28 (by decide) (fun c_29 => ?_) (fun c_29 => ?_)
        · skip
          rw [← Int32.toInt_inj, ti_0] at c_29
          exact hcut_27 (y_18) _ _ hP hS ls (lv_sub hl [0, 1, 2, 3, 4, 5, 6, 7, 8, 9] rfl)
        · skip
          rw [← Int32.toInt_inj, ti_0] at c_29
          refine lv_lload hx hb dX5_moveCouples_31 (lv_at hl 2 rfl) ?_
          refine lv_aload_n hx hb dX5_moveCouples_33 rfl (lv_at hl 3 rfl) ?_
          refine lv_iload_n hx hb dX5_moveCouples_34 rfl (lv_at hl 5 rfl) ?_
          refine lv_iconst (v := 1) hx hb dX5_moveCouples_35 (by decide) ?_
          refine lv_iload hx hb dX5_moveCouples_36 (lv_at hl 1 rfl) ?_
          refine lv_ishl hx hb dX5_moveCouples_38 ?_
          refine lv_topi (fun x_30 ex_30 => ?_)
          have bx_30 : (1 ≤ x_30.toInt ∧ x_30.toInt ≤ 128) := by rw [ex_30]; exact sh_7 (by constructor <;> omega)
          refine lv_iload hx hb dX5_moveCouples_39 (lv_at hl 8 rfl) ?_
          refine lv_iload hx hb dX5_moveCouples_41 (lv_at hl 9 rfl) ?_
          obtain ⟨a_32, a_33, a_34, v_35, v_36, v_37, hfo_31, ⟨ma_32, ka_32⟩, ⟨ma_33, ka_33⟩, ⟨ma_34, ka_34⟩⟩ := un_5 (hG _ mo0) ko0
          have bv_35 : ((-2147483648) ≤ v_35.toInt ∧ v_35.toInt ≤ 2147483647) := ⟨i32_lo _, i32_hi _⟩
          have bv_36 : ((-2147483648) ≤ v_36.toInt ∧ v_36.toInt ≤ 2147483647) := ⟨i32_lo _, i32_hi _⟩
          have bv_37 : ((-2147483648) ≤ v_37.toInt ∧ v_37.toInt ≤ 2147483647) := ⟨i32_lo _, i32_hi _⟩
          refine tk_ViP (As := [.int p2, .int x_30, .int p5, .int p6]) (rest := [.long y_18]) (n := 4) hx hb hml hown hU hN hZ (s_X5_moveAlone_k5 l (dC, dI) cI cL cZ cR cG cH Z kd L f hG o0 mo0 ko0 p2 (by constructor <;> omega) x_30 p5 (by constructor <;> omega) p6 (by constructor <;> omega)) wd_1279 wd_1280 wd_1281 wd_102 wd_1282 (by decide +kernel) ⟨Nat.le_of_ble_eq_true rfl, Nat.le_of_ble_eq_true rfl⟩ hK hP hD hS mo0 hfo_31 5 rfl rfl rfl hl.1 rfl (Nat.le_of_ble_eq_true rfl) dX5_moveCouples_43 ⟨Nat.le_of_ble_eq_true rfl, Nat.le_of_ble_eq_true rfl⟩ (fun x_38 f_39 H locs hw hP hD hS => ?_)
          obtain ⟨rfl, bx_38⟩ := hw
          refine lv_aload hx hb dX5_moveCouples_46 (lv_at hl 6 rfl) ?_
          refine lv_iload hx hb dX5_moveCouples_48 (lv_at hl 7 rfl) ?_
          refine lv_iload hx hb dX5_moveCouples_50 (lv_at hl 0 rfl) ?_
          refine lv_iload hx hb dX5_moveCouples_52 (lv_at hl 8 rfl) ?_
          refine lv_iload hx hb dX5_moveCouples_54 (lv_at hl 9 rfl) ?_
          obtain ⟨a_42, a_43, a_44, v_45, v_46, v_47, hfo_41, ⟨ma_42, ka_42⟩, ⟨ma_43, ka_43⟩, ⟨ma_44, ka_44⟩⟩ := un_5 (hG _ mo3) ko3
          have bv_45 : ((-2147483648) ≤ v_45.toInt ∧ v_45.toInt ≤ 2147483647) := ⟨i32_lo _, i32_hi _⟩
          have bv_46 : ((-2147483648) ≤ v_46.toInt ∧ v_46.toInt ≤ 2147483647) := ⟨i32_lo _, i32_hi _⟩
          have bv_47 : ((-2147483648) ≤ v_47.toInt ∧ v_47.toInt ≤ 2147483647) := ⟨i32_lo _, i32_hi _⟩
          refine tk_ViP (As := [.int p4, .int x_24, .int p5, .int p6]) (rest := [.int x_38, .long y_18]) (n := 4) hx hb hml hown hU hN hZ (s_X5_moveAlone_k5 l (dC, dI) cI cL cZ cR cG cH Z kd L f hG o3 mo3 ko3 p4 (by constructor <;> omega) x_24 p5 (by constructor <;> omega) p6 (by constructor <;> omega)) wd_1279 wd_1280 wd_1281 wd_102 wd_1282 (by decide +kernel) ⟨Nat.le_of_ble_eq_true rfl, Nat.le_of_ble_eq_true rfl⟩ hK hP hD hS mo3 hfo_41 5 rfl rfl rfl hl.1 rfl (Nat.le_of_ble_eq_true rfl) dX5_moveCouples_56 ⟨Nat.le_of_ble_eq_true rfl, Nat.le_of_ble_eq_true rfl⟩ (fun x_48 f_49 H locs hw hP hD hS => ?_)
          obtain ⟨rfl, bx_48⟩ := hw
          refine tk_SlP (As := [.int x_38, .int x_48]) (rest := [.long y_18]) (n := 2) hx hb hml hown hU hN hZ (s_X5_couplesOf l (dC, dI) cI cL cZ cR cG cH Z kd L f hG x_38 x_48) wd_1272 wd_1273 wd_102 wd_1274 (by decide +kernel) ⟨Nat.le_of_ble_eq_true rfl, Nat.le_of_ble_eq_true rfl⟩ hK hP hD hS rfl hl.1 rfl (Nat.le_of_ble_eq_true rfl) dX5_moveCouples_59 ⟨Nat.le_of_ble_eq_true rfl, Nat.le_of_ble_eq_true rfl⟩ (fun x_51 f_52 H locs hw hP hD hS => ?_)
          obtain rfl := hw
          refine lv_lor hx hb dX5_moveCouples_62 ?_
          refine lv_topl (fun j_54 ej_54 => ?_)
          refine lv_lstore (lv' := [(8, .long j_54), (11, .int x_24), (10, .int y_17), (0, .ref o0), (1, .long l1), (3, .int p2), (4, .ref o3), (5, .int p4), (6, .int p5), (7, .int p6)]) hx hb dX5_moveCouples_63 hl (by decide) rfl (fun ls hl => ?_)
          exact hcut_27 (j_54) _ _ hP hS ls (lv_sub hl [1, 2, 0, 3, 4, 5, 6, 7, 8, 9] rfl)
  exact hloop_16 7 0 (by decide) (0) _ _ hP hS (by (try rw [ti_0]) <;> omega) ls hl
set_option maxHeartbeats 8000000 in
set_option maxRecDepth 100000 in
theorem s_X5_shortestCommon_k5_k5 (l : Launch) (D : va_G) (cI cL cZ cR cG cH : ClassId) (Z : zT) (kd : Nat → Nat) (L : List Nat) (f : Nat → va_E) (hG : GI (okc cI cL cZ cR cG cH L kd) kd L f) (o0 : Nat) (mo0 : o0 ∈ L) (ko0 : kd o0 = 5) (p1 : Int32) (bp1 : (0 ≤ p1.toInt ∧ p1.toInt ≤ 2)) (o2 : Nat) (mo2 : o2 ∈ L) (ko2 : kd o2 = 5) (p3 : Int32) (bp3 : (0 ≤ p3.toInt ∧ p3.toInt ≤ 2)) (p4 : Int32) (bp4 : (0 ≤ p4.toInt ∧ p4.toInt ≤ 20)) (p5 : Int32) (bp5 : (0 ≤ p5.toInt ∧ p5.toInt ≤ 1)) : mPI l D cI cL cZ cR cG cH Z yX5_shortestCommon cX5_shortestCommon 14 (some .int) 3 82 [.ref o0, .int p1, .ref o2, .int p3, .int p4, .int p5] L f (fun (r : Int32) (f9 : Nat → va_E) => f = f9 ∧ ((-1) ≤ r.toInt ∧ r.toInt ≤ 4)) := by
  obtain ⟨dC, dI⟩ := D
  refine Met.ofW (cc := cX5_shortestCommon) (maxL := 14) (ret := (some .int)) (by decide) rfl ?_
  intro p e s m args below meth c s₁ B hml hv
  obtain ⟨rfl, hP, hK, hD0, hN, hZ⟩ := hv
  have hx := B.exec
  have hb := B.bytes
  have hr := B.returns
  have hU : ∀ w ∈ wsU, w.before _ s = true := fun w h => atoms_spec (ws := wU yX5_shortestCommon cX5_shortestCommon 14 (some .int)) B.pre w (List.mem_cons_of_mem _ h)
  have hown : s.vm.findClass RX5 = some m.cls := findClass_of_methodNamed B.named
  have hlocks := B.notSynchronized
  have hD := pl_in hD0
  have hS : va_S (fun q => q ∈ L) s.heap s.heap [] := va_S.rf
  have hl := lv_entry ([.ref o0, .int p1, .ref o2, .int p3, .int p4, .int p5]) (n := 14) (Nat.le_of_ble_eq_true rfl)
  rw [lg_entry_eq]
  generalize (lg_sl ([.ref o0, .int p1, .ref o2, .int p3, .int p4, .int p5]) ++ List.replicate (14 - (lg_sl ([.ref o0, .int p1, .ref o2, .int p3, .int p4, .int p5])).length) Slot.unset).toArray = ls at hl ⊢
  have hl : lv_has ls 14 [(0, .ref o0), (1, .int p1), (2, .ref o2), (3, .int p3), (4, .int p4), (5, .int p5)] := hl
  refine lv_aload_n hx hb dX5_shortestCommon_0 rfl (lv_at hl 0 rfl) ?_
  refine lv_iload_n hx hb dX5_shortestCommon_1 rfl (lv_at hl 1 rfl) ?_
  obtain ⟨a_2, a_3, a_4, v_5, v_6, v_7, hfo_1, ⟨ma_2, ka_2⟩, ⟨ma_3, ka_3⟩, ⟨ma_4, ka_4⟩⟩ := un_5 (hG _ mo0) ko0
  have bv_5 : ((-2147483648) ≤ v_5.toInt ∧ v_5.toInt ≤ 2147483647) := ⟨i32_lo _, i32_hi _⟩
  have bv_6 : ((-2147483648) ≤ v_6.toInt ∧ v_6.toInt ≤ 2147483647) := ⟨i32_lo _, i32_hi _⟩
  have bv_7 : ((-2147483648) ≤ v_7.toInt ∧ v_7.toInt ≤ 2147483647) := ⟨i32_lo _, i32_hi _⟩
  refine tk_ViP (As := [.int p1]) (rest := []) (n := 1) hx hb hml hown hU hN hZ (s_X5_startsOf_k5 l (dC, dI) cI cL cZ cR cG cH Z kd L f hG o0 mo0 ko0 p1) wd_525 wd_513 wd_514 wd_102 wd_515 (by decide +kernel) ⟨Nat.le_of_ble_eq_true rfl, Nat.le_of_ble_eq_true rfl⟩ hK hP hD hS mo0 hfo_1 5 rfl rfl rfl hl.1 rfl (Nat.le_of_ble_eq_true rfl) dX5_shortestCommon_2 ⟨Nat.le_of_ble_eq_true rfl, Nat.le_of_ble_eq_true rfl⟩ (fun x_8 f_9 H locs hw hP hD hS => ?_)
  obtain ⟨rfl, bx_8⟩ := hw
  refine lv_iload_n hx hb dX5_shortestCommon_5 rfl (lv_at hl 1 rfl) ?_
  refine lv_bipush (v := 6) hx hb dX5_shortestCommon_6 (by decide) ?_
  refine lv_imul hx hb dX5_shortestCommon_8 ?_
  refine lv_topi (fun x_11 ex_11 => ?_)
  have hx_11 : x_11.toInt = p1.toInt * 6 := by rw [ex_11, ml_I (by rw [ti_6]; omega) (by rw [ti_6]; omega), ti_6]
  have bx_11 : (0 ≤ x_11.toInt ∧ x_11.toInt ≤ 12) := by constructor <;> omega
  refine lv_ishr hx hb dX5_shortestCommon_9 ?_
  refine lv_topi (fun x_12 ex_12 => ?_)
  have bx_12 : ((-2147483648) ≤ x_12.toInt ∧ x_12.toInt ≤ 2147483647) := ⟨i32_lo _, i32_hi _⟩
  refine lv_bipush (v := 63) hx hb dX5_shortestCommon_10 (by decide) ?_
  refine lv_iand hx hb dX5_shortestCommon_12 ?_
  refine lv_topi (fun x_13 ex_13 => ?_)
  have bx_13 : (0 ≤ x_13.toInt ∧ x_13.toInt ≤ 63) := by rw [ex_13]; have h8 := an_C x_12 (m := 63) (by decide); rw [ti_63] at h8; exact h8
  refine lv_istore (lv' := [(6, .int x_13), (0, .ref o0), (1, .int p1), (2, .ref o2), (3, .int p3), (4, .int p4), (5, .int p5)]) hx hb dX5_shortestCommon_13 hl (by decide) rfl (fun ls hl => ?_)
  refine lv_aload_n hx hb dX5_shortestCommon_15 rfl (lv_at hl 3 rfl) ?_
  refine lv_iload_n hx hb dX5_shortestCommon_16 rfl (lv_at hl 4 rfl) ?_
  obtain ⟨a_15, a_16, a_17, v_18, v_19, v_20, hfo_14, ⟨ma_15, ka_15⟩, ⟨ma_16, ka_16⟩, ⟨ma_17, ka_17⟩⟩ := un_5 (hG _ mo2) ko2
  have bv_18 : ((-2147483648) ≤ v_18.toInt ∧ v_18.toInt ≤ 2147483647) := ⟨i32_lo _, i32_hi _⟩
  have bv_19 : ((-2147483648) ≤ v_19.toInt ∧ v_19.toInt ≤ 2147483647) := ⟨i32_lo _, i32_hi _⟩
  have bv_20 : ((-2147483648) ≤ v_20.toInt ∧ v_20.toInt ≤ 2147483647) := ⟨i32_lo _, i32_hi _⟩
  refine tk_ViP (As := [.int p3]) (rest := []) (n := 1) hx hb hml hown hU hN hZ (s_X5_startsOf_k5 l (dC, dI) cI cL cZ cR cG cH Z kd L f hG o2 mo2 ko2 p3) wd_525 wd_513 wd_514 wd_102 wd_515 (by decide +kernel) ⟨Nat.le_of_ble_eq_true rfl, Nat.le_of_ble_eq_true rfl⟩ hK hP hD hS mo2 hfo_14 5 rfl rfl rfl hl.1 rfl (Nat.le_of_ble_eq_true rfl) dX5_shortestCommon_17 ⟨Nat.le_of_ble_eq_true rfl, Nat.le_of_ble_eq_true rfl⟩ (fun x_21 f_22 H locs hw hP hD hS => ?_)
  obtain ⟨rfl, bx_21⟩ := hw
  refine lv_iload_n hx hb dX5_shortestCommon_20 rfl (lv_at hl 4 rfl) ?_
  refine lv_bipush (v := 6) hx hb dX5_shortestCommon_21 (by decide) ?_
  refine lv_imul hx hb dX5_shortestCommon_23 ?_
  refine lv_topi (fun x_24 ex_24 => ?_)
  have hx_24 : x_24.toInt = p3.toInt * 6 := by rw [ex_24, ml_I (by rw [ti_6]; omega) (by rw [ti_6]; omega), ti_6]
  have bx_24 : (0 ≤ x_24.toInt ∧ x_24.toInt ≤ 12) := by constructor <;> omega
  refine lv_ishr hx hb dX5_shortestCommon_24 ?_
  refine lv_topi (fun x_25 ex_25 => ?_)
  have bx_25 : ((-2147483648) ≤ x_25.toInt ∧ x_25.toInt ≤ 2147483647) := ⟨i32_lo _, i32_hi _⟩
  refine lv_bipush (v := 63) hx hb dX5_shortestCommon_25 (by decide) ?_
  refine lv_iand hx hb dX5_shortestCommon_27 ?_
  refine lv_topi (fun x_26 ex_26 => ?_)
  have bx_26 : (0 ≤ x_26.toInt ∧ x_26.toInt ≤ 63) := by rw [ex_26]; have h8 := an_C x_25 (m := 63) (by decide); rw [ti_63] at h8; exact h8
  refine lv_istore (lv' := [(7, .int x_26), (6, .int x_13), (0, .ref o0), (1, .int p1), (2, .ref o2), (3, .int p3), (4, .int p4), (5, .int p5)]) hx hb dX5_shortestCommon_28 hl (by decide) rfl (fun ls hl => ?_)
  refine lv_iload hx hb dX5_shortestCommon_30 (lv_at hl 1 rfl) ?_
  refine lv_iload hx hb dX5_shortestCommon_32 (lv_at hl 0 rfl) ?_
  refine tk_SlP (As := [.int x_13, .int x_26]) (rest := []) (n := 2) hx hb hml hown hU hN hZ (s_X5_couplesOf l (dC, dI) cI cL cZ cR cG cH Z kd L f hG x_13 x_26) wd_1272 wd_1273 wd_102 wd_1274 (by decide +kernel) ⟨Nat.le_of_ble_eq_true rfl, Nat.le_of_ble_eq_true rfl⟩ hK hP hD hS rfl hl.1 rfl (Nat.le_of_ble_eq_true rfl) dX5_shortestCommon_34 ⟨Nat.le_of_ble_eq_true rfl, Nat.le_of_ble_eq_true rfl⟩ (fun x_27 f_28 H locs hw hP hD hS => ?_)
  obtain rfl := hw
  refine lv_lstore (lv' := [(8, .long x_27), (7, .int x_26), (6, .int x_13), (0, .ref o0), (1, .int p1), (2, .ref o2), (3, .int p3), (4, .int p4), (5, .int p5)]) hx hb dX5_shortestCommon_37 hl (by decide) rfl (fun ls hl => ?_)
  refine lv_iconst (v := 0) hx hb dX5_shortestCommon_39 (by decide) ?_
  refine lv_istore (lv' := [(10, .int 0), (8, .long x_27), (7, .int x_26), (6, .int x_13), (0, .ref o0), (1, .int p1), (2, .ref o2), (3, .int p3), (4, .int p4), (5, .int p5)]) hx hb dX5_shortestCommon_40 hl (by decide) rfl (fun ls hl => ?_)
  have hloop_51 : ∀ (n : Nat), ∀ (y_52 : Int32), (0 ≤ y_52.toInt ∧ y_52.toInt ≤ 5) → ∀ (y_53 : Int64), ∀ (H : Heap) (locs : List Loc), va_P (dC, dI) vwCl (va_pl L f) H → va_S (fun q => q ∈ L) s.heap H locs → 5 - y_52.toInt < (n : Int) → ∀ (ls : Array Slot), lv_has ls 14 [(10, .int y_52), (8, .long y_53), (7, .int x_26), (6, .int x_13), (0, .ref o0), (1, .int p1), (2, .ref o2), (3, .int p3), (4, .int p4), (5, .int p5)] → W p l e (headSpec (wU yX5_shortestCommon cX5_shortestCommon 14 (some .int)) { frames := 3, cells := 0, slots := 0, locals := 82 }).room s m [.ref o0, .int p1, .ref o2, .int p3, .int p4, .int p5].toArray below meth c H locs 0 0 (MQ below (va_Qi (fun (r : Int32) (f9 : Nat → va_E) => f = f9 ∧ ((-1) ≤ r.toInt ∧ r.toInt ≤ 4)) (qP (dC, dI) cI cL cZ cR cG cH L) (fun q => q ∈ L)) [.ref o0, .int p1, .ref o2, .int p3, .int p4, .int p5].toArray s 0 0 (fun q => q ∈ L)) (F0 m 42 ls []) := by
    intro n
    induction n with
    | zero => intro y_52 by_52 y_53 H locs hP hS hmuhloop_51 ls hl; exfalso; omega
    | succ n ih_hloop_51 =>
      intro y_52 by_52 y_53 H locs hP hS hmuhloop_51 ls hl
      refine lv_iload hx hb dX5_shortestCommon_42 (lv_at hl 0 rfl) ?_
      refine lv_iconst (v := 4) hx hb dX5_shortestCommon_44 (by decide) ?_
      refine lv_icmp_gt (tgt := 110) hx hb dX5_shortestCommon_45 (by decide) (fun c_55 => ?_) (fun c_55 => ?_)
      · skip
        rw [Int32.lt_iff_toInt_lt, ti_4] at c_55
        refine lv_iconst (v := (-1)) hx hb dX5_shortestCommon_110 (by decide) ?_
        exact W.iret (v := (-1)) hx hb hr (fun t ht hW => ⟨⟨(-1), f, rfl, ⟨rfl, (by decide)⟩, by rw [ht]; exact hP, va_K.moved hW.alike hK, pl_in hD⟩, hS.F ht⟩) hS.2.2 dX5_shortestCommon_111
      · skip
        rw [Int32.lt_iff_toInt_lt, ti_4] at c_55
        refine lv_lload hx hb dX5_shortestCommon_48 (lv_at hl 1 rfl) ?_
        refine lv_bipush (v := 35) hx hb dX5_shortestCommon_50 (by decide) ?_
        refine lv_lshr hx hb dX5_shortestCommon_52 rfl ?_
        refine lv_topl (fun j_56 ej_56 => ?_)
        refine lv_lconst (v := 1) hx hb dX5_shortestCommon_53 (by decide) ?_
        refine lv_land hx hb dX5_shortestCommon_54 ?_
        refine lv_topl (fun j_57 ej_57 => ?_)
        refine lv_lconst (v := 1) hx hb dX5_shortestCommon_55 (by decide) ?_
        refine lv_lcmp hx hb dX5_shortestCommon_56 (fun x_58 bx_58 hx_58 => ?_)
        refine lv_if_ne (tgt := 63) hx hb dX5_shortestCommon_57 (by decide) (fun c_59 => ?_) (fun c_59 => ?_)
        · skip
          rw [← Int32.toInt_inj, ti_0] at c_59
          refine lv_lconst (v := 0) hx hb dX5_shortestCommon_63 (by decide) ?_
          refine lv_lstore (lv' := [(11, .long 0), (10, .int y_52), (8, .long y_53), (7, .int x_26), (6, .int x_13), (0, .ref o0), (1, .int p1), (2, .ref o2), (3, .int p3), (4, .int p4), (5, .int p5)]) hx hb dX5_shortestCommon_64 hl (by decide) rfl (fun ls hl => ?_)
          refine lv_iconst (v := 0) hx hb dX5_shortestCommon_66 (by decide) ?_
          refine lv_istore (lv' := [(13, .int 0), (11, .long 0), (10, .int y_52), (8, .long y_53), (7, .int x_26), (6, .int x_13), (0, .ref o0), (1, .int p1), (2, .ref o2), (3, .int p3), (4, .int p4), (5, .int p5)]) hx hb dX5_shortestCommon_67 hl (by decide) rfl (fun ls hl => ?_)
          have hloop_81 : ∀ (n : Nat), ∀ (y_82 : Int32), (0 ≤ y_82.toInt ∧ y_82.toInt ≤ 20) → ∀ (y_83 : Int64), ∀ (H : Heap) (locs : List Loc), va_P (dC, dI) vwCl (va_pl L f) H → va_S (fun q => q ∈ L) s.heap H locs → 20 - y_82.toInt < (n : Int) → ∀ (ls : Array Slot), lv_has ls 14 [(13, .int y_82), (11, .long y_83), (10, .int y_52), (8, .long y_53), (7, .int x_26), (6, .int x_13), (0, .ref o0), (1, .int p1), (2, .ref o2), (3, .int p3), (4, .int p4), (5, .int p5)] → W p l e (headSpec (wU yX5_shortestCommon cX5_shortestCommon 14 (some .int)) { frames := 3, cells := 0, slots := 0, locals := 82 }).room s m [.ref o0, .int p1, .ref o2, .int p3, .int p4, .int p5].toArray below meth c H locs 0 0 (MQ below (va_Qi (fun (r : Int32) (f9 : Nat → va_E) => f = f9 ∧ ((-1) ≤ r.toInt ∧ r.toInt ≤ 4)) (qP (dC, dI) cI cL cZ cR cG cH L) (fun q => q ∈ L)) [.ref o0, .int p1, .ref o2, .int p3, .int p4, .int p5].toArray s 0 0 (fun q => q ∈ L)) (F0 m 69 ls []) := by
            intro n
            induction n with
            | zero => intro y_82 by_82 y_83 H locs hP hS hmuhloop_81 ls hl; exfalso; omega
            | succ n ih_hloop_81 =>
              intro y_82 by_82 y_83 H locs hP hS hmuhloop_81 ls hl
              refine lv_iload hx hb dX5_shortestCommon_69 (lv_at hl 0 rfl) ?_
              refine lv_iload hx hb dX5_shortestCommon_71 (lv_at hl 10 rfl) ?_
              refine lv_icmp_ge (tgt := 100) hx hb dX5_shortestCommon_73 (by decide) (fun c_85 => ?_) (fun c_85 => ?_)
              · skip
                rw [Int32.le_iff_toInt_le] at c_85
                refine lv_lload hx hb dX5_shortestCommon_100 (lv_at hl 1 rfl) ?_
                refine lv_lstore (lv' := [(8, .long y_83), (13, .int y_82), (11, .long y_83), (10, .int y_52), (7, .int x_26), (6, .int x_13), (0, .ref o0), (1, .int p1), (2, .ref o2), (3, .int p3), (4, .int p4), (5, .int p5)]) hx hb dX5_shortestCommon_102 hl (by decide) rfl (fun ls hl => ?_)
                obtain ⟨x_86, ex_86⟩ : ∃ y : Int32, y_52 + 1 = y := ⟨_, rfl⟩
                have hx_86 : x_86.toInt = y_52.toInt + 1 := by rw [← ex_86, ad_I (by rw [ti_1]; omega) (by rw [ti_1]; omega), ti_1]
                have bx_86 : (1 ≤ x_86.toInt ∧ x_86.toInt ≤ 5) := by constructor <;> omega
                refine lv_iinc (v := x_86) (lv' := [(10, .int x_86), (8, .long y_83), (13, .int y_82), (11, .long y_83), (7, .int x_26), (6, .int x_13), (0, .ref o0), (1, .int p1), (2, .ref o2), (3, .int p3), (4, .int p4), (5, .int p5)]) hx hb dX5_shortestCommon_104 hl (k := 3) rfl ex_86 (by decide) rfl (fun ls hl => ?_)
                refine lv_goto (tgt := 42) hx hb dX5_shortestCommon_107 (by decide) ?_
                exact ih_hloop_51 x_86 (by constructor <;> omega) (y_83) _ _ hP hS (by omega) ls (lv_sub hl [0, 1, 4, 5, 6, 7, 8, 9, 10, 11] rfl)
              · skip
                rw [Int32.le_iff_toInt_le] at c_85
                refine lv_lload hx hb dX5_shortestCommon_76 (lv_at hl 1 rfl) ?_
                refine lv_aload_n hx hb dX5_shortestCommon_78 rfl (lv_at hl 6 rfl) ?_
                refine lv_lload hx hb dX5_shortestCommon_79 (lv_at hl 3 rfl) ?_
                refine lv_iload_n hx hb dX5_shortestCommon_81 rfl (lv_at hl 7 rfl) ?_
                refine lv_aload_n hx hb dX5_shortestCommon_82 rfl (lv_at hl 8 rfl) ?_
                refine lv_iload_n hx hb dX5_shortestCommon_83 rfl (lv_at hl 9 rfl) ?_
                refine lv_iload hx hb dX5_shortestCommon_84 (lv_at hl 0 rfl) ?_
                refine lv_iload hx hb dX5_shortestCommon_86 (lv_at hl 11 rfl) ?_
                refine tk_VlP (As := [.long y_53, .int p1, .ref o2, .int p3, .int y_82, .int p5]) (rest := [.long y_83]) (n := 6) hx hb hml hown hU hN hZ (s_X5_moveCouples_k5_k5 l (dC, dI) cI cL cZ cR cG cH Z kd L f hG o0 mo0 ko0 (y_53) p1 (by constructor <;> omega) o2 mo2 ko2 p3 (by constructor <;> omega) y_82 (by constructor <;> omega) p5 (by constructor <;> omega)) wd_1275 wd_1276 wd_1277 wd_102 wd_1278 (by decide +kernel) ⟨Nat.le_of_ble_eq_true rfl, Nat.le_of_ble_eq_true rfl⟩ hK hP hD hS mo0 hfo_1 5 rfl rfl rfl hl.1 rfl (Nat.le_of_ble_eq_true rfl) dX5_shortestCommon_88 ⟨Nat.le_of_ble_eq_true rfl, Nat.le_of_ble_eq_true rfl⟩ (fun x_87 f_88 H locs hw hP hD hS => ?_)
                obtain rfl := hw
                refine lv_lor hx hb dX5_shortestCommon_91 ?_
                refine lv_topl (fun j_90 ej_90 => ?_)
                refine lv_lstore (lv' := [(11, .long j_90), (13, .int y_82), (10, .int y_52), (8, .long y_53), (7, .int x_26), (6, .int x_13), (0, .ref o0), (1, .int p1), (2, .ref o2), (3, .int p3), (4, .int p4), (5, .int p5)]) hx hb dX5_shortestCommon_92 hl (by decide) rfl (fun ls hl => ?_)
                obtain ⟨x_91, ex_91⟩ : ∃ y : Int32, y_82 + 1 = y := ⟨_, rfl⟩
                have hx_91 : x_91.toInt = y_82.toInt + 1 := by rw [← ex_91, ad_I (by rw [ti_1]; omega) (by rw [ti_1]; omega), ti_1]
                have bx_91 : (1 ≤ x_91.toInt ∧ x_91.toInt ≤ 20) := by constructor <;> omega
                refine lv_iinc (v := x_91) (lv' := [(13, .int x_91), (11, .long j_90), (10, .int y_52), (8, .long y_53), (7, .int x_26), (6, .int x_13), (0, .ref o0), (1, .int p1), (2, .ref o2), (3, .int p3), (4, .int p4), (5, .int p5)]) hx hb dX5_shortestCommon_94 hl (k := 1) rfl ex_91 (by decide) rfl (fun ls hl => ?_)
                refine lv_goto (tgt := 69) hx hb dX5_shortestCommon_97 (by decide) ?_
                exact ih_hloop_81 x_91 (by constructor <;> omega) (j_90) _ _ hP hS (by omega) ls (lv_sub hl [0, 1, 2, 3, 4, 5, 6, 7, 8, 9, 10, 11] rfl)
          exact hloop_81 21 0 (by decide) (0) _ _ hP hS (by (try rw [ti_0]) <;> omega) ls hl
        · skip
          rw [← Int32.toInt_inj, ti_0] at c_59
          refine lv_iload hx hb dX5_shortestCommon_60 (lv_at hl 0 rfl) ?_
          exact W.iret (v := y_52) hx hb hr (fun t ht hW => ⟨⟨y_52, f, rfl, ⟨rfl, (by constructor <;> omega)⟩, by rw [ht]; exact hP, va_K.moved hW.alike hK, pl_in hD⟩, hS.F ht⟩) hS.2.2 dX5_shortestCommon_62
  exact hloop_51 6 0 (by decide) (x_27) _ _ hP hS (by (try rw [ti_0]) <;> omega) ls hl
set_option maxHeartbeats 8000000 in
set_option maxRecDepth 100000 in
theorem s_X4_shortestClash_k4_k4 (l : Launch) (D : va_G) (cI cL cZ cR cG cH : ClassId) (Z : zT) (kd : Nat → Nat) (L : List Nat) (f : Nat → va_E) (hG : GI (okc cI cL cZ cR cG cH L kd) kd L f) (o0 : Nat) (mo0 : o0 ∈ L) (ko0 : kd o0 = 4) (o1 : Nat) (mo1 : o1 ∈ L) (ko1 : kd o1 = 4) (p2 : Int32) (bp2 : (0 ≤ p2.toInt ∧ p2.toInt ≤ 20)) : mPI l D cI cL cZ cR cG cH Z yX4_shortestClash cX4_shortestClash 9 (some .int) 4 115 [.ref o0, .ref o1, .int p2] L f (fun (r : Int32) (f9 : Nat → va_E) => f = f9 ∧ ((-1) ≤ r.toInt ∧ r.toInt ≤ 9)) := by
  obtain ⟨dC, dI⟩ := D
  refine Met.ofW (cc := cX4_shortestClash) (maxL := 9) (ret := (some .int)) (by decide) rfl ?_
  intro p e s m args below meth c s₁ B hml hv
  obtain ⟨rfl, hP, hK, hD0, hN, hZ⟩ := hv
  have hx := B.exec
  have hb := B.bytes
  have hr := B.returns
  have hU : ∀ w ∈ wsU, w.before _ s = true := fun w h => atoms_spec (ws := wU yX4_shortestClash cX4_shortestClash 9 (some .int)) B.pre w (List.mem_cons_of_mem _ h)
  have hown : s.vm.findClass RX4 = some m.cls := findClass_of_methodNamed B.named
  have hlocks := B.notSynchronized
  have hD := pl_in hD0
  have hS : va_S (fun q => q ∈ L) s.heap s.heap [] := va_S.rf
  have hl := lv_entry ([.ref o0, .ref o1, .int p2]) (n := 9) (Nat.le_of_ble_eq_true rfl)
  rw [lg_entry_eq]
  generalize (lg_sl ([.ref o0, .ref o1, .int p2]) ++ List.replicate (9 - (lg_sl ([.ref o0, .ref o1, .int p2])).length) Slot.unset).toArray = ls at hl ⊢
  have hl : lv_has ls 9 [(0, .ref o0), (1, .ref o1), (2, .int p2)] := hl
  refine lv_iconst (v := (-1)) hx hb dX4_shortestClash_0 (by decide) ?_
  refine lv_istore_n (lv' := [(3, .int (-1)), (0, .ref o0), (1, .ref o1), (2, .int p2)]) hx hb dX4_shortestClash_1 rfl hl (by decide) rfl (fun ls hl => ?_)
  refine lv_iconst (v := 0) hx hb dX4_shortestClash_2 (by decide) ?_
  refine lv_istore (lv' := [(4, .int 0), (3, .int (-1)), (0, .ref o0), (1, .ref o1), (2, .int p2)]) hx hb dX4_shortestClash_3 hl (by decide) rfl (fun ls hl => ?_)
  have hloop_16 : ∀ (n : Nat), ∀ (y_17 : Int32), (0 ≤ y_17.toInt ∧ y_17.toInt ≤ 3) → ∀ (y_18 : Int32), ((-1) ≤ y_18.toInt ∧ y_18.toInt ≤ 9) → ∀ (H : Heap) (locs : List Loc), va_P (dC, dI) vwCl (va_pl L f) H → va_S (fun q => q ∈ L) s.heap H locs → 3 - y_17.toInt < (n : Int) → ∀ (ls : Array Slot), lv_has ls 9 [(4, .int y_17), (3, .int y_18), (0, .ref o0), (1, .ref o1), (2, .int p2)] → W p l e (headSpec (wU yX4_shortestClash cX4_shortestClash 9 (some .int)) { frames := 4, cells := 0, slots := 0, locals := 115 }).room s m [.ref o0, .ref o1, .int p2].toArray below meth c H locs 0 0 (MQ below (va_Qi (fun (r : Int32) (f9 : Nat → va_E) => f = f9 ∧ ((-1) ≤ r.toInt ∧ r.toInt ≤ 9)) (qP (dC, dI) cI cL cZ cR cG cH L) (fun q => q ∈ L)) [.ref o0, .ref o1, .int p2].toArray s 0 0 (fun q => q ∈ L)) (F0 m 5 ls []) := by
    intro n
    induction n with
    | zero => intro y_17 by_17 y_18 by_18 H locs hP hS hmuhloop_16 ls hl; exfalso; omega
    | succ n ih_hloop_16 =>
      intro y_17 by_17 y_18 by_18 H locs hP hS hmuhloop_16 ls hl
      refine lv_iload hx hb dX4_shortestClash_5 (lv_at hl 0 rfl) ?_
      refine lv_aload_n hx hb dX4_shortestClash_7 rfl (lv_at hl 2 rfl) ?_
      obtain ⟨v_21, v_22, v_23, v_24, a_25, a_26, a_27, a_28, v_29, v_30, v_31, hfo_20, bv_21, bv_22, bv_23, bv_24, ⟨ma_25, ka_25⟩, ⟨ma_26, ka_26⟩, ⟨ma_27, ka_27⟩, ⟨ma_28, ka_28⟩⟩ := un_4 (hG _ mo0) ko0
      have bv_29 : ((-2147483648) ≤ v_29.toInt ∧ v_29.toInt ≤ 2147483647) := ⟨i32_lo _, i32_hi _⟩
      have bv_30 : ((-2147483648) ≤ v_30.toInt ∧ v_30.toInt ≤ 2147483647) := ⟨i32_lo _, i32_hi _⟩
      have bv_31 : ((-2147483648) ≤ v_31.toInt ∧ v_31.toInt ≤ 2147483647) := ⟨i32_lo _, i32_hi _⟩
      refine tk_getP (D := (dC, dI)) (ci := 4) (v := .int v_24) (C := RX4) (T := TX4) (N := 11) hx hb hU inlX4 hown hK hP mo0 hfo_20 rfl 3 (by decide) (hU _ wd_410) (fun _ h9 => h9) rfl dX4_shortestClash_8 ?_
      refine lv_icmp_ge (tgt := 111) hx hb dX4_shortestClash_11 (by decide) (fun c_32 => ?_) (fun c_32 => ?_)
      · skip
        rw [Int32.le_iff_toInt_le] at c_32
        refine lv_iload_n hx hb dX4_shortestClash_111 rfl (lv_at hl 1 rfl) ?_
        exact W.iret (v := y_18) hx hb hr (fun t ht hW => ⟨⟨y_18, f, rfl, ⟨rfl, (by constructor <;> omega)⟩, by rw [ht]; exact hP, va_K.moved hW.alike hK, pl_in hD⟩, hS.F ht⟩) hS.2.2 dX4_shortestClash_112
      · skip
        rw [Int32.le_iff_toInt_le] at c_32
        refine lv_iconst (v := 0) hx hb dX4_shortestClash_14 (by decide) ?_
        refine lv_istore (lv' := [(5, .int 0), (4, .int y_17), (3, .int y_18), (0, .ref o0), (1, .ref o1), (2, .int p2)]) hx hb dX4_shortestClash_15 hl (by decide) rfl (fun ls hl => ?_)
        have hloop_51 : ∀ (n : Nat), ∀ (y_52 : Int32), (0 ≤ y_52.toInt ∧ y_52.toInt ≤ 3) → ∀ (y_53 : Int32), ((-1) ≤ y_53.toInt ∧ y_53.toInt ≤ 9) → ∀ (H : Heap) (locs : List Loc), va_P (dC, dI) vwCl (va_pl L f) H → va_S (fun q => q ∈ L) s.heap H locs → 3 - y_52.toInt < (n : Int) → ∀ (ls : Array Slot), lv_has ls 9 [(5, .int y_52), (4, .int y_17), (3, .int y_53), (0, .ref o0), (1, .ref o1), (2, .int p2)] → W p l e (headSpec (wU yX4_shortestClash cX4_shortestClash 9 (some .int)) { frames := 4, cells := 0, slots := 0, locals := 115 }).room s m [.ref o0, .ref o1, .int p2].toArray below meth c H locs 0 0 (MQ below (va_Qi (fun (r : Int32) (f9 : Nat → va_E) => f = f9 ∧ ((-1) ≤ r.toInt ∧ r.toInt ≤ 9)) (qP (dC, dI) cI cL cZ cR cG cH L) (fun q => q ∈ L)) [.ref o0, .ref o1, .int p2].toArray s 0 0 (fun q => q ∈ L)) (F0 m 17 ls []) := by
          intro n
          induction n with
          | zero => intro y_52 by_52 y_53 by_53 H locs hP hS hmuhloop_51 ls hl; exfalso; omega
          | succ n ih_hloop_51 =>
            intro y_52 by_52 y_53 by_53 H locs hP hS hmuhloop_51 ls hl
            refine lv_iload hx hb dX4_shortestClash_17 (lv_at hl 0 rfl) ?_
            refine lv_aload_n hx hb dX4_shortestClash_19 rfl (lv_at hl 4 rfl) ?_
            obtain ⟨v_56, v_57, v_58, v_59, a_60, a_61, a_62, a_63, v_64, v_65, v_66, hfo_55, bv_56, bv_57, bv_58, bv_59, ⟨ma_60, ka_60⟩, ⟨ma_61, ka_61⟩, ⟨ma_62, ka_62⟩, ⟨ma_63, ka_63⟩⟩ := un_4 (hG _ mo1) ko1
            have bv_64 : ((-2147483648) ≤ v_64.toInt ∧ v_64.toInt ≤ 2147483647) := ⟨i32_lo _, i32_hi _⟩
            have bv_65 : ((-2147483648) ≤ v_65.toInt ∧ v_65.toInt ≤ 2147483647) := ⟨i32_lo _, i32_hi _⟩
            have bv_66 : ((-2147483648) ≤ v_66.toInt ∧ v_66.toInt ≤ 2147483647) := ⟨i32_lo _, i32_hi _⟩
            refine tk_getP (D := (dC, dI)) (ci := 4) (v := .int v_59) (C := RX4) (T := TX4) (N := 11) hx hb hU inlX4 hown hK hP mo1 hfo_55 rfl 3 (by decide) (hU _ wd_410) (fun _ h9 => h9) rfl dX4_shortestClash_20 ?_
            refine lv_icmp_ge (tgt := 105) hx hb dX4_shortestClash_23 (by decide) (fun c_67 => ?_) (fun c_67 => ?_)
            · skip
              rw [Int32.le_iff_toInt_le] at c_67
              obtain ⟨x_68, ex_68⟩ : ∃ y : Int32, y_17 + 1 = y := ⟨_, rfl⟩
              have hx_68 : x_68.toInt = y_17.toInt + 1 := by rw [← ex_68, ad_I (by rw [ti_1]; omega) (by rw [ti_1]; omega), ti_1]
              have bx_68 : (1 ≤ x_68.toInt ∧ x_68.toInt ≤ 3) := by constructor <;> omega
              refine lv_iinc (v := x_68) (lv' := [(4, .int x_68), (5, .int y_52), (3, .int y_53), (0, .ref o0), (1, .ref o1), (2, .int p2)]) hx hb dX4_shortestClash_105 hl (k := 1) rfl ex_68 (by decide) rfl (fun ls hl => ?_)
              refine lv_goto (tgt := 5) hx hb dX4_shortestClash_108 (by decide) ?_
              exact ih_hloop_16 x_68 (by constructor <;> omega) y_53 (by constructor <;> omega) _ _ hP hS (by omega) ls (lv_sub hl [0, 2, 3, 4, 5] rfl)
            · skip
              rw [Int32.le_iff_toInt_le] at c_67
              refine lv_aload_n hx hb dX4_shortestClash_26 rfl (lv_at hl 3 rfl) ?_
              refine tk_getP (D := (dC, dI)) (ci := 4) (v := .ref a_25) (C := RX4) (T := TX4) (N := 11) hx hb hU inlX4 hown hK hP mo0 hfo_20 rfl 4 (by decide) (hU _ wd_103) (fun _ h9 => h9) rfl dX4_shortestClash_27 ?_
              refine lv_iload hx hb dX4_shortestClash_30 (lv_at hl 1 rfl) ?_
              refine lv_aload_n hx hb dX4_shortestClash_32 rfl (lv_at hl 4 rfl) ?_
              refine tk_getP (D := (dC, dI)) (ci := 4) (v := .ref a_60) (C := RX4) (T := TX4) (N := 11) hx hb hU inlX4 hown hK hP mo1 hfo_55 rfl 4 (by decide) (hU _ wd_103) (fun _ h9 => h9) rfl dX4_shortestClash_33 ?_
              refine lv_iload hx hb dX4_shortestClash_36 (lv_at hl 0 rfl) ?_
              refine lv_iload_n hx hb dX4_shortestClash_38 rfl (lv_at hl 5 rfl) ?_
              refine lv_iconst (v := 1) hx hb dX4_shortestClash_39 (by decide) ?_
              obtain ⟨a_70, a_71, a_72, v_73, v_74, v_75, hfo_69, ⟨ma_70, ka_70⟩, ⟨ma_71, ka_71⟩, ⟨ma_72, ka_72⟩⟩ := un_5 (hG _ ma_25) ka_25
              have bv_73 : ((-2147483648) ≤ v_73.toInt ∧ v_73.toInt ≤ 2147483647) := ⟨i32_lo _, i32_hi _⟩
              have bv_74 : ((-2147483648) ≤ v_74.toInt ∧ v_74.toInt ≤ 2147483647) := ⟨i32_lo _, i32_hi _⟩
              have bv_75 : ((-2147483648) ≤ v_75.toInt ∧ v_75.toInt ≤ 2147483647) := ⟨i32_lo _, i32_hi _⟩
              refine tk_ViP (As := [.int y_17, .ref a_60, .int y_52, .int p2, .int 1]) (rest := []) (n := 5) hx hb hml hown hU hN hZ (s_X5_shortestCommon_k5_k5 l (dC, dI) cI cL cZ cR cG cH Z kd L f hG a_25 ma_25 ka_25 y_17 (by constructor <;> omega) a_60 ma_60 ka_60 y_52 (by constructor <;> omega) p2 (by constructor <;> omega) 1 (by decide)) wd_1268 wd_1269 wd_1270 wd_102 wd_1271 (by decide +kernel) ⟨Nat.le_of_ble_eq_true rfl, Nat.le_of_ble_eq_true rfl⟩ hK hP hD hS ma_25 hfo_69 5 rfl rfl rfl hl.1 rfl (Nat.le_of_ble_eq_true rfl) dX4_shortestClash_40 ⟨Nat.le_of_ble_eq_true rfl, Nat.le_of_ble_eq_true rfl⟩ (fun x_76 f_77 H locs hw hP hD hS => ?_)
              obtain ⟨rfl, bx_76⟩ := hw
              refine lv_istore (lv' := [(6, .int x_76), (5, .int y_52), (4, .int y_17), (3, .int y_53), (0, .ref o0), (1, .ref o1), (2, .int p2)]) hx hb dX4_shortestClash_43 hl (by decide) rfl (fun ls hl => ?_)
              refine lv_aload_n hx hb dX4_shortestClash_45 rfl (lv_at hl 4 rfl) ?_
              refine tk_getP (D := (dC, dI)) (ci := 4) (v := .ref a_26) (C := RX4) (T := TX4) (N := 11) hx hb hU inlX4 hown hK hP mo0 hfo_20 rfl 5 (by decide) (hU _ wd_104) (fun _ h9 => h9) rfl dX4_shortestClash_46 ?_
              refine lv_iload hx hb dX4_shortestClash_49 (lv_at hl 2 rfl) ?_
              refine lv_aload_n hx hb dX4_shortestClash_51 rfl (lv_at hl 5 rfl) ?_
              refine tk_getP (D := (dC, dI)) (ci := 4) (v := .ref a_61) (C := RX4) (T := TX4) (N := 11) hx hb hU inlX4 hown hK hP mo1 hfo_55 rfl 5 (by decide) (hU _ wd_104) (fun _ h9 => h9) rfl dX4_shortestClash_52 ?_
              refine lv_iload hx hb dX4_shortestClash_55 (lv_at hl 1 rfl) ?_
              refine lv_iload_n hx hb dX4_shortestClash_57 rfl (lv_at hl 6 rfl) ?_
              refine lv_iconst (v := 0) hx hb dX4_shortestClash_58 (by decide) ?_
              obtain ⟨a_80, a_81, a_82, v_83, v_84, v_85, hfo_79, ⟨ma_80, ka_80⟩, ⟨ma_81, ka_81⟩, ⟨ma_82, ka_82⟩⟩ := un_5 (hG _ ma_26) ka_26
              have bv_83 : ((-2147483648) ≤ v_83.toInt ∧ v_83.toInt ≤ 2147483647) := ⟨i32_lo _, i32_hi _⟩
              have bv_84 : ((-2147483648) ≤ v_84.toInt ∧ v_84.toInt ≤ 2147483647) := ⟨i32_lo _, i32_hi _⟩
              have bv_85 : ((-2147483648) ≤ v_85.toInt ∧ v_85.toInt ≤ 2147483647) := ⟨i32_lo _, i32_hi _⟩
              refine tk_ViP (As := [.int y_17, .ref a_61, .int y_52, .int p2, .int 0]) (rest := []) (n := 5) hx hb hml hown hU hN hZ (s_X5_shortestCommon_k5_k5 l (dC, dI) cI cL cZ cR cG cH Z kd L f hG a_26 ma_26 ka_26 y_17 (by constructor <;> omega) a_61 ma_61 ka_61 y_52 (by constructor <;> omega) p2 (by constructor <;> omega) 0 (by decide)) wd_1268 wd_1269 wd_1270 wd_102 wd_1271 (by decide +kernel) ⟨Nat.le_of_ble_eq_true rfl, Nat.le_of_ble_eq_true rfl⟩ hK hP hD hS ma_26 hfo_79 5 rfl rfl rfl hl.1 rfl (Nat.le_of_ble_eq_true rfl) dX4_shortestClash_59 ⟨Nat.le_of_ble_eq_true rfl, Nat.le_of_ble_eq_true rfl⟩ (fun x_86 f_87 H locs hw hP hD hS => ?_)
              obtain ⟨rfl, bx_86⟩ := hw
              refine lv_istore (lv' := [(7, .int x_86), (6, .int x_76), (5, .int y_52), (4, .int y_17), (3, .int y_53), (0, .ref o0), (1, .ref o1), (2, .int p2)]) hx hb dX4_shortestClash_62 hl (by decide) rfl (fun ls hl => ?_)
              refine lv_iload hx hb dX4_shortestClash_64 (lv_at hl 1 rfl) ?_
              refine lv_iconst (v := 1) hx hb dX4_shortestClash_66 (by decide) ?_
              refine lv_iadd hx hb dX4_shortestClash_67 ?_
              refine lv_topi (fun x_89 ex_89 => ?_)
              have hx_89 : x_89.toInt = x_76.toInt + 1 := by rw [ex_89, ad_I (by rw [ti_1]; omega) (by rw [ti_1]; omega), ti_1]
              have bx_89 : (0 ≤ x_89.toInt ∧ x_89.toInt ≤ 5) := by constructor <;> omega
              refine lv_iload hx hb dX4_shortestClash_68 (lv_at hl 0 rfl) ?_
              refine lv_iadd hx hb dX4_shortestClash_70 ?_
              refine lv_topi (fun x_90 ex_90 => ?_)
              have hx_90 : x_90.toInt = x_89.toInt + x_86.toInt := by rw [ex_90, ad_I (by omega) (by omega)]
              have bx_90 : ((-1) ≤ x_90.toInt ∧ x_90.toInt ≤ 9) := by constructor <;> omega
              refine lv_istore (lv' := [(8, .int x_90), (7, .int x_86), (6, .int x_76), (5, .int y_52), (4, .int y_17), (3, .int y_53), (0, .ref o0), (1, .ref o1), (2, .int p2)]) hx hb dX4_shortestClash_71 hl (by decide) rfl (fun ls hl => ?_)
              refine lv_iload hx hb dX4_shortestClash_73 (lv_at hl 2 rfl) ?_
              refine lv_iconst (v := (-1)) hx hb dX4_shortestClash_75 (by decide) ?_
              have hcut_92 : ∀ (y_91 : Int32), ((-1) ≤ y_91.toInt ∧ y_91.toInt ≤ 9) → ∀ (ls : Array Slot), lv_has ls 9 [(8, .int x_90), (7, .int x_86), (6, .int x_76), (5, .int y_52), (4, .int y_17), (3, .int y_91), (0, .ref o0), (1, .ref o1), (2, .int p2)] → W p l e (headSpec (wU yX4_shortestClash cX4_shortestClash 9 (some .int)) { frames := 4, cells := 0, slots := 0, locals := 115 }).room s m [.ref o0, .ref o1, .int p2].toArray below meth c H locs 0 0 (MQ below (va_Qi (fun (r : Int32) (f9 : Nat → va_E) => f = f9 ∧ ((-1) ≤ r.toInt ∧ r.toInt ≤ 9)) (qP (dC, dI) cI cL cZ cR cG cH L) (fun q => q ∈ L)) [.ref o0, .ref o1, .int p2].toArray s 0 0 (fun q => q ∈ L)) (F0 m 99 ls []) := by
                intro y_91 by_91 ls hl
                obtain ⟨x_93, ex_93⟩ : ∃ y : Int32, y_52 + 1 = y := ⟨_, rfl⟩
                have hx_93 : x_93.toInt = y_52.toInt + 1 := by rw [← ex_93, ad_I (by rw [ti_1]; omega) (by rw [ti_1]; omega), ti_1]
                have bx_93 : (1 ≤ x_93.toInt ∧ x_93.toInt ≤ 3) := by constructor <;> omega
                refine lv_iinc (v := x_93) (lv' := [(5, .int x_93), (8, .int x_90), (7, .int x_86), (6, .int x_76), (4, .int y_17), (3, .int y_91), (0, .ref o0), (1, .ref o1), (2, .int p2)]) hx hb dX4_shortestClash_99 hl (k := 3) rfl ex_93 (by decide) rfl (fun ls hl => ?_)
                refine lv_goto (tgt := 17) hx hb dX4_shortestClash_102 (by decide) ?_
                exact ih_hloop_51 x_93 (by constructor <;> omega) y_91 (by constructor <;> omega) _ _ hP hS (by omega) ls (lv_sub hl [0, 4, 5, 6, 7, 8] rfl)
              refine lv_icmp_eq (tgt := 99) hx hb dX4_shortestClash_76 (by decide) (fun c_94 => ?_) (fun c_94 => ?_)
              · skip
                rw [← Int32.toInt_inj, ti_m1] at c_94
                exact hcut_92 y_53 (by constructor <;> omega) ls (lv_sub hl [0, 1, 2, 3, 4, 5, 6, 7, 8] rfl)
              · skip
                rw [← Int32.toInt_inj, ti_m1] at c_94
                refine lv_iload hx hb dX4_shortestClash_79 (lv_at hl 1 rfl) ?_
                refine lv_iconst (v := (-1)) hx hb dX4_shortestClash_81 (by decide) ?_
                refine lv_icmp_eq (tgt := 99) hx hb dX4_shortestClash_82 (by decide) (fun c_95 => ?_) (fun c_95 => ?_)
                · skip
                  rw [← Int32.toInt_inj, ti_m1] at c_95
                  exact hcut_92 y_53 (by constructor <;> omega) ls (lv_sub hl [0, 1, 2, 3, 4, 5, 6, 7, 8] rfl)
                · skip
                  rw [← Int32.toInt_inj, ti_m1] at c_95
                  refine lv_iload_n hx hb dX4_shortestClash_85 rfl (lv_at hl 5 rfl) ?_
                  refine lv_iconst (v := (-1)) hx hb dX4_shortestClash_86 (by decide) ?_
                  refine lv_icmp_eq (tgt := 96) hx hb dX4_shortestClash_87 (by decide) (fun c_96 => ?_) (fun c_96 => ?_)
                  · skip
                    rw [← Int32.toInt_inj, ti_m1] at c_96
                    refine lv_iload hx hb dX4_shortestClash_96 (lv_at hl 0 rfl) ?_
                    refine lv_istore_n (lv' := [(3, .int x_90), (8, .int x_90), (7, .int x_86), (6, .int x_76), (5, .int y_52), (4, .int y_17), (0, .ref o0), (1, .ref o1), (2, .int p2)]) hx hb dX4_shortestClash_98 rfl hl (by decide) rfl (fun ls hl => ?_)
                    exact hcut_92 x_90 (by constructor <;> omega) ls (lv_sub hl [1, 2, 3, 4, 5, 0, 6, 7, 8] rfl)
                  · skip
                    rw [← Int32.toInt_inj, ti_m1] at c_96
                    refine lv_iload hx hb dX4_shortestClash_90 (lv_at hl 0 rfl) ?_
                    refine lv_iload_n hx hb dX4_shortestClash_92 rfl (lv_at hl 5 rfl) ?_
                    refine lv_icmp_ge (tgt := 99) hx hb dX4_shortestClash_93 (by decide) (fun c_97 => ?_) (fun c_97 => ?_)
                    · skip
                      rw [Int32.le_iff_toInt_le] at c_97
                      exact hcut_92 y_53 (by constructor <;> omega) ls (lv_sub hl [0, 1, 2, 3, 4, 5, 6, 7, 8] rfl)
                    · skip
                      rw [Int32.le_iff_toInt_le] at c_97
                      refine lv_iload hx hb dX4_shortestClash_96 (lv_at hl 0 rfl) ?_
                      refine lv_istore_n (lv' := [(3, .int x_90), (8, .int x_90), (7, .int x_86), (6, .int x_76), (5, .int y_52), (4, .int y_17), (0, .ref o0), (1, .ref o1), (2, .int p2)]) hx hb dX4_shortestClash_98 rfl hl (by decide) rfl (fun ls hl => ?_)
                      exact hcut_92 x_90 (by constructor <;> omega) ls (lv_sub hl [1, 2, 3, 4, 5, 0, 6, 7, 8] rfl)
        exact hloop_51 4 0 (by decide) y_18 (by constructor <;> omega) _ _ hP hS (by (try rw [ti_0]) <;> omega) ls hl
  exact hloop_16 4 0 (by decide) (-1) (by decide) _ _ hP hS (by (try rw [ti_0]) <;> (try rw [ti_m1]) <;> omega) ls hl
