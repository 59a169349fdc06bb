set_option maxHeartbeats 8000000 in
set_option maxRecDepth 100000 in
theorem s_X12_letterIn_a576 (l : Launch) (D : va_G) (cI cL cZ cR cG cH : ClassId) (Z : zT) (kd : Nat → Nat) (L : List Nat) (f : Nat → va_E) (hG : GI (okc cI cL cZ cR cG cH L kd) kd L f) (o0 : Nat) (mo0 : o0 ∈ L) (ko0 : kd o0 = 576) (p1 : Int32) : mPI l D cI cL cZ cR cG cH Z yX12_letterIn cX12_letterIn 3 (some .int) 0 0 [.ref o0, .int p1] L f (fun (r : Int32) (f9 : Nat → va_E) => f = f9 ∧ (0 ≤ r.toInt ∧ r.toInt ≤ 8) ∧ (∀ g9, f o0 = .inl (cI, 1560, .inl g9) → r.toInt ≤ (g9 0).toInt)) := by
  obtain ⟨dC, dI⟩ := D
  refine Met.ofW (cc := cX12_letterIn) (maxL := 3) (ret := (some .int)) (by decide) rfl ?_
  intro p e s m args below meth c s₁ B hml hv
  obtain ⟨rfl, hP, hK, hD0, hN, hZ⟩ := hv
  have hx := B.exec
  have hb := B.bytes
  have hr := B.returns
  have hU : ∀ w ∈ wsU, w.before _ s = true := fun w h => atoms_spec (ws := wU yX12_letterIn cX12_letterIn 3 (some .int)) B.pre w (List.mem_cons_of_mem _ h)
  have hown : s.vm.findClass RX12 = some m.cls := findClass_of_methodNamed B.named
  have hlocks := B.notSynchronized
  have hD := pl_in hD0
  have hS : va_S (fun q => q ∈ L) s.heap s.heap [] := va_S.rf
  have hl := lv_entry ([.ref o0, .int p1]) (n := 3) (Nat.le_of_ble_eq_true rfl)
  rw [lg_entry_eq]
  generalize (lg_sl ([.ref o0, .int p1]) ++ List.replicate (3 - (lg_sl ([.ref o0, .int p1])).length) Slot.unset).toArray = ls at hl ⊢
  have hl : lv_has ls 3 [(0, .ref o0), (1, .int p1)] := hl
  have bp1 : ((-2147483648) ≤ p1.toInt ∧ p1.toInt ≤ 2147483647) := ⟨i32_lo _, i32_hi _⟩
  refine lv_iconst (v := 0) hx hb dX12_letterIn_0 (by decide) ?_
  refine lv_istore_n (lv' := [(2, .int 0), (0, .ref o0), (1, .int p1)]) hx hb dX12_letterIn_1 rfl hl (by decide) rfl (fun ls hl => ?_)
  have hloop_7 : ∀ (n : Nat), ∀ (y_8 : Int32), (0 ≤ y_8.toInt ∧ y_8.toInt ≤ 8) → 8 - y_8.toInt < (n : Int) → ∀ (ls : Array Slot), lv_has ls 3 [(2, .int y_8), (0, .ref o0), (1, .int p1)] → W p l e (headSpec (wU yX12_letterIn cX12_letterIn 3 (some .int)) { frames := 0, cells := 0, slots := 0, locals := 0 }).room s m [.ref o0, .int p1].toArray below meth c s.heap [] 0 0 (MQ below (va_Qi (fun (r : Int32) (f9 : Nat → va_E) => f = f9 ∧ (0 ≤ r.toInt ∧ r.toInt ≤ 8) ∧ (∀ g9, f o0 = .inl (cI, 1560, .inl g9) → r.toInt ≤ (g9 0).toInt)) (qP (dC, dI) cI cL cZ cR cG cH L) (fun q => q ∈ L)) [.ref o0, .int p1].toArray s 0 0 (fun q => q ∈ L)) (F0 m 2 ls []) := by
    intro n
    induction n with
    | zero => intro y_8 by_8 hmuhloop_7 ls hl; exfalso; omega
    | succ n ih_hloop_7 =>
      intro y_8 by_8 hmuhloop_7 ls hl
      refine lv_iload_n hx hb dX12_letterIn_2 rfl (lv_at hl 0 rfl) ?_
      refine lv_aload_n hx hb dX12_letterIn_3 rfl (lv_at hl 1 rfl) ?_
      refine lv_iconst (v := 0) hx hb dX12_letterIn_4 (by decide) ?_
      obtain ⟨g_10, hfo_9, hbg_10⟩ := un_576 (hG _ mo0) ko0
      refine tk_ildP hx hb hK hP 0 mo0 hfo_9 rfl (vp_in_nI (n := 0) (by decide) (by decide)) dX12_letterIn_5 ?_
      refine lv_topi (fun x_11 ex_11 => ?_)
      have bx_11 : (0 ≤ x_11.toInt ∧ x_11.toInt ≤ 8) := by rw [ex_11]; exact hbg_10.1 _ (by decide) (by decide) (by decide)
      refine lv_icmp_ge (tgt := 28) hx hb dX12_letterIn_6 (by decide) (fun c_12 => ?_) (fun c_12 => ?_)
      · skip
        rw [Int32.le_iff_toInt_le] at c_12
        refine lv_iconst (v := 0) hx hb dX12_letterIn_28 (by decide) ?_
        exact W.iret (v := 0) hx hb hr (fun t ht hW => ⟨⟨0, f, rfl, ⟨rfl, (by decide), (fun g9 h9 => by rw [hfo_9] at h9; cases h9; exact (by rw [show ((0 : Int32)).toInt = 0 from rfl]; exact (hbg_10.1 0 (by decide) (by decide) (by decide)).1))⟩, by rw [ht]; exact hP, va_K.moved hW.alike hK, pl_in hD⟩, hS.F ht⟩) hS.2.2 dX12_letterIn_29
      · skip
        rw [Int32.le_iff_toInt_le] at c_12
        refine lv_aload_n hx hb dX12_letterIn_9 rfl (lv_at hl 1 rfl) ?_
        refine lv_iconst (v := 1) hx hb dX12_letterIn_10 (by decide) ?_
        refine lv_iload_n hx hb dX12_letterIn_11 rfl (lv_at hl 0 rfl) ?_
        refine lv_iadd hx hb dX12_letterIn_12 ?_
        refine lv_topi (fun x_13 ex_13 => ?_)
        have hx_13 : x_13.toInt = 1 + y_8.toInt := by rw [ex_13, ad_I (by rw [ti_1]; omega) (by rw [ti_1]; omega), ti_1]
        have bx_13 : (1 ≤ x_13.toInt ∧ x_13.toInt ≤ 8) := by constructor <;> omega
        refine tk_ildP hx hb hK hP 0 mo0 hfo_9 rfl (vp_in_iff.mpr (by constructor <;> omega)) dX12_letterIn_13 ?_
        refine lv_topi (fun x_14 ex_14 => ?_)
        have bx_14 : ((-2147483648) ≤ x_14.toInt ∧ x_14.toInt ≤ 2147483647) := ⟨i32_lo _, i32_hi _⟩
        refine lv_iload_n hx hb dX12_letterIn_14 rfl (lv_at hl 2 rfl) ?_
        refine lv_icmp_ne (tgt := 22) hx hb dX12_letterIn_15 (by decide) (fun c_15 => ?_) (fun c_15 => ?_)
        · skip
          rw [← Int32.toInt_inj] at c_15
          obtain ⟨x_16, ex_16⟩ : ∃ y : Int32, y_8 + 1 = y := ⟨_, rfl⟩
          have hx_16 : x_16.toInt = y_8.toInt + 1 := by rw [← ex_16, ad_I (by rw [ti_1]; omega) (by rw [ti_1]; omega), ti_1]
          have bx_16 : (1 ≤ x_16.toInt ∧ x_16.toInt ≤ 8) := by constructor <;> omega
          refine lv_iinc (v := x_16) (lv' := [(2, .int x_16), (0, .ref o0), (1, .int p1)]) hx hb dX12_letterIn_22 hl (k := 0) rfl ex_16 (by decide) rfl (fun ls hl => ?_)
          refine lv_goto (tgt := 2) hx hb dX12_letterIn_25 (by decide) ?_
          exact ih_hloop_7 x_16 (by constructor <;> omega) (by omega) ls (lv_sub hl [0, 1, 2] rfl)
        · skip
          rw [← Int32.toInt_inj] at c_15
          refine lv_iload_n hx hb dX12_letterIn_18 rfl (lv_at hl 0 rfl) ?_
          refine lv_iconst (v := 1) hx hb dX12_letterIn_19 (by decide) ?_
          refine lv_iadd hx hb dX12_letterIn_20 ?_
          refine lv_topi (fun x_17 ex_17 => ?_)
          have hx_17 : x_17.toInt = y_8.toInt + 1 := by rw [ex_17, ad_I (by rw [ti_1]; omega) (by rw [ti_1]; omega), ti_1]
          have bx_17 : (1 ≤ x_17.toInt ∧ x_17.toInt ≤ 8) := by constructor <;> omega
          exact W.iret (v := x_17) hx hb hr (fun t ht hW => ⟨⟨x_17, f, rfl, ⟨rfl, (by constructor <;> omega), (fun g9 h9 => by rw [hfo_9] at h9; cases h9; exact (by have h7 : x_11.toInt = (g_10 0).toInt := (by rw [ex_11]; rfl); omega))⟩, by rw [ht]; exact hP, va_K.moved hW.alike hK, pl_in hD⟩, hS.F ht⟩) hS.2.2 dX12_letterIn_21
  exact hloop_7 9 0 (by decide) (by (try rw [ti_0]) <;> omega) ls hl
set_option maxHeartbeats 8000000 in
set_option maxRecDepth 100000 in
theorem s_X12_hasPair_a575 (l : Launch) (D : va_G) (cI cL cZ cR cG cH : ClassId) (Z : zT) (kd : Nat → Nat) (L : List Nat) (f : Nat → va_E) (hG : GI (okc cI cL cZ cR cG cH L kd) kd L f) (o0 : Nat) (mo0 : o0 ∈ L) (ko0 : kd o0 = 575) (p1 : Int32) (bp1 : (0 ≤ p1.toInt ∧ p1.toInt ≤ 8)) (p2 : Int32) (bp2 : (0 ≤ p2.toInt ∧ p2.toInt ≤ 8)) : mPI l D cI cL cZ cR cG cH Z yX12_hasPair cX12_hasPair 4 (some .boolean) 0 0 [.ref o0, .int p1, .int p2] L f (fun (r : Int32) (f9 : Nat → va_E) => f = f9 ∧ (0 ≤ r.toInt ∧ r.toInt ≤ 1)) := by
  obtain ⟨dC, dI⟩ := D
  refine Met.ofW (cc := cX12_hasPair) (maxL := 4) (ret := (some .boolean)) (by decide) rfl ?_
  intro p e s m args below meth c s₁ B hml hv
  obtain ⟨rfl, hP, hK, hD0, hN, hZ⟩ := hv
  have hx := B.exec
  have hb := B.bytes
  have hr := B.returns
  have hU : ∀ w ∈ wsU, w.before _ s = true := fun w h => atoms_spec (ws := wU yX12_hasPair cX12_hasPair 4 (some .boolean)) B.pre w (List.mem_cons_of_mem _ h)
  have hown : s.vm.findClass RX12 = some m.cls := findClass_of_methodNamed B.named
  have hlocks := B.notSynchronized
  have hD := pl_in hD0
  have hS : va_S (fun q => q ∈ L) s.heap s.heap [] := va_S.rf
  have hl := lv_entry ([.ref o0, .int p1, .int p2]) (n := 4) (Nat.le_of_ble_eq_true rfl)
  rw [lg_entry_eq]
  generalize (lg_sl ([.ref o0, .int p1, .int p2]) ++ List.replicate (4 - (lg_sl ([.ref o0, .int p1, .int p2])).length) Slot.unset).toArray = ls at hl ⊢
  have hl : lv_has ls 4 [(0, .ref o0), (1, .int p1), (2, .int p2)] := hl
  refine lv_iconst (v := 0) hx hb dX12_hasPair_0 (by decide) ?_
  refine lv_istore_n (lv' := [(3, .int 0), (0, .ref o0), (1, .int p1), (2, .int p2)]) hx hb dX12_hasPair_1 rfl hl (by decide) rfl (fun ls hl => ?_)
  have hloop_7 : ∀ (n : Nat), ∀ (y_8 : Int32), (0 ≤ y_8.toInt ∧ y_8.toInt ≤ 20) → 20 - y_8.toInt < (n : Int) → ∀ (ls : Array Slot), lv_has ls 4 [(3, .int y_8), (0, .ref o0), (1, .int p1), (2, .int p2)] → W p l e (headSpec (wU yX12_hasPair cX12_hasPair 4 (some .boolean)) { frames := 0, cells := 0, slots := 0, locals := 0 }).room s m [.ref o0, .int p1, .int p2].toArray below meth c s.heap [] 0 0 (MQ below (va_Qi (fun (r : Int32) (f9 : Nat → va_E) => f = f9 ∧ (0 ≤ r.toInt ∧ r.toInt ≤ 1)) (qP (dC, dI) cI cL cZ cR cG cH L) (fun q => q ∈ L)) [.ref o0, .int p1, .int p2].toArray s 0 0 (fun q => q ∈ L)) (F0 m 2 ls []) := by
    intro n
    induction n with
    | zero => intro y_8 by_8 hmuhloop_7 ls hl; exfalso; omega
    | succ n ih_hloop_7 =>
      intro y_8 by_8 hmuhloop_7 ls hl
      refine lv_iload_n hx hb dX12_hasPair_2 rfl (lv_at hl 0 rfl) ?_
      refine lv_aload_n hx hb dX12_hasPair_3 rfl (lv_at hl 1 rfl) ?_
      refine lv_bipush (v := 16) hx hb dX12_hasPair_4 (by decide) ?_
      obtain ⟨g_10, hfo_9, hbg_10⟩ := un_575 (hG _ mo0) ko0
      refine tk_ildP hx hb hK hP 0 mo0 hfo_9 rfl (vp_in_nI (n := 16) (by decide) (by decide)) dX12_hasPair_6 ?_
      refine lv_topi (fun x_11 ex_11 => ?_)
      have bx_11 : (0 ≤ x_11.toInt ∧ x_11.toInt ≤ 20) := by rw [ex_11]; exact hbg_10.2.1 _ (by decide) (by decide) (by decide)
      refine lv_icmp_ge (tgt := 33) hx hb dX12_hasPair_7 (by decide) (fun c_12 => ?_) (fun c_12 => ?_)
      · skip
        rw [Int32.le_iff_toInt_le] at c_12
        refine lv_iconst (v := 0) hx hb dX12_hasPair_33 (by decide) ?_
        exact W.zret (v := 0) (ty := .boolean) hx hb hr rfl (fun t ht hW => ⟨⟨0, f, rfl, ⟨rfl, (by decide)⟩, by rw [ht]; exact hP, va_K.moved hW.alike hK, pl_in hD⟩, hS.F ht⟩) hS.2.2 dX12_hasPair_34
      · skip
        rw [Int32.le_iff_toInt_le] at c_12
        refine lv_aload_n hx hb dX12_hasPair_10 rfl (lv_at hl 1 rfl) ?_
        refine lv_bipush (v := 20) hx hb dX12_hasPair_11 (by decide) ?_
        refine lv_iload_n hx hb dX12_hasPair_13 rfl (lv_at hl 0 rfl) ?_
        refine lv_iadd hx hb dX12_hasPair_14 ?_
        refine lv_topi (fun x_13 ex_13 => ?_)
        have hx_13 : x_13.toInt = 20 + y_8.toInt := by rw [ex_13, ad_I (by rw [ti_20]; omega) (by rw [ti_20]; omega), ti_20]
        have bx_13 : (20 ≤ x_13.toInt ∧ x_13.toInt ≤ 39) := by constructor <;> omega
        refine tk_ildP hx hb hK hP 0 mo0 hfo_9 rfl (vp_in_iff.mpr (by constructor <;> omega)) dX12_hasPair_15 ?_
        refine lv_topi (fun x_14 ex_14 => ?_)
        have bx_14 : (0 ≤ x_14.toInt ∧ x_14.toInt ≤ 80) := by have hc9 := cl_I (i := x_13) (by omega); rw [ex_14]; exact hbg_10.2.2.2.2.2.1 _ (by omega) (by omega) (by omega)
        refine lv_bipush (v := 9) hx hb dX12_hasPair_16 (by decide) ?_
        refine lv_iload_n hx hb dX12_hasPair_18 rfl (lv_at hl 2 rfl) ?_
        refine lv_imul hx hb dX12_hasPair_19 ?_
        refine lv_topi (fun x_15 ex_15 => ?_)
        have hx_15 : x_15.toInt = 9 * p1.toInt := by rw [ex_15, ml_I (by rw [ti_9]; omega) (by rw [ti_9]; omega), ti_9]
        have bx_15 : (0 ≤ x_15.toInt ∧ x_15.toInt ≤ 72) := by constructor <;> omega
        refine lv_iload_n hx hb dX12_hasPair_20 rfl (lv_at hl 3 rfl) ?_
        refine lv_iadd hx hb dX12_hasPair_21 ?_
        refine lv_topi (fun x_16 ex_16 => ?_)
        have hx_16 : x_16.toInt = x_15.toInt + p2.toInt := by rw [ex_16, ad_I (by omega) (by omega)]
        have bx_16 : (0 ≤ x_16.toInt ∧ x_16.toInt ≤ 80) := by constructor <;> omega
        refine lv_icmp_ne (tgt := 27) hx hb dX12_hasPair_22 (by decide) (fun c_17 => ?_) (fun c_17 => ?_)
        · skip
          rw [← Int32.toInt_inj] at c_17
          obtain ⟨x_18, ex_18⟩ : ∃ y : Int32, y_8 + 1 = y := ⟨_, rfl⟩
          have hx_18 : x_18.toInt = y_8.toInt + 1 := by rw [← ex_18, ad_I (by rw [ti_1]; omega) (by rw [ti_1]; omega), ti_1]
          have bx_18 : (1 ≤ x_18.toInt ∧ x_18.toInt ≤ 20) := by constructor <;> omega
          refine lv_iinc (v := x_18) (lv' := [(3, .int x_18), (0, .ref o0), (1, .int p1), (2, .int p2)]) hx hb dX12_hasPair_27 hl (k := 0) rfl ex_18 (by decide) rfl (fun ls hl => ?_)
          refine lv_goto (tgt := 2) hx hb dX12_hasPair_30 (by decide) ?_
          exact ih_hloop_7 x_18 (by constructor <;> omega) (by omega) ls (lv_sub hl [0, 1, 2, 3] rfl)
        · skip
          rw [← Int32.toInt_inj] at c_17
          refine lv_iconst (v := 1) hx hb dX12_hasPair_25 (by decide) ?_
          exact W.zret (v := 1) (ty := .boolean) hx hb hr rfl (fun t ht hW => ⟨⟨1, f, rfl, ⟨rfl, (by decide)⟩, by rw [ht]; exact hP, va_K.moved hW.alike hK, pl_in hD⟩, hS.F ht⟩) hS.2.2 dX12_hasPair_26
  exact hloop_7 21 0 (by decide) (by (try rw [ti_0]) <;> omega) ls hl
set_option maxHeartbeats 8000000 in
set_option maxRecDepth 100000 in
theorem s_X12_hasPair_a576 (l : Launch) (D : va_G) (cI cL cZ cR cG cH : ClassId) (Z : zT) (kd : Nat → Nat) (L : List Nat) (f : Nat → va_E) (hG : GI (okc cI cL cZ cR cG cH L kd) kd L f) (o0 : Nat) (mo0 : o0 ∈ L) (ko0 : kd o0 = 576) (p1 : Int32) (bp1 : (0 ≤ p1.toInt ∧ p1.toInt ≤ 8)) (p2 : Int32) (bp2 : (0 ≤ p2.toInt ∧ p2.toInt ≤ 8)) : mPI l D cI cL cZ cR cG cH Z yX12_hasPair cX12_hasPair 4 (some .boolean) 0 0 [.ref o0, .int p1, .int p2] L f (fun (r : Int32) (f9 : Nat → va_E) => f = f9 ∧ (0 ≤ r.toInt ∧ r.toInt ≤ 1) ∧ (∀ g9, f o0 = .inl (cI, 1560, .inl g9) → r.toInt = 1 ∨ ∀ j : Nat, (j : Int) < (g9 16).toInt → (g9 (20 + j)).toInt ≠ 9 * p1.toInt + p2.toInt)) := by
  obtain ⟨dC, dI⟩ := D
  refine Met.ofW (cc := cX12_hasPair) (maxL := 4) (ret := (some .boolean)) (by decide) rfl ?_
  intro p e s m args below meth c s₁ B hml hv
  obtain ⟨rfl, hP, hK, hD0, hN, hZ⟩ := hv
  have hx := B.exec
  have hb := B.bytes
  have hr := B.returns
  have hU : ∀ w ∈ wsU, w.before _ s = true := fun w h => atoms_spec (ws := wU yX12_hasPair cX12_hasPair 4 (some .boolean)) B.pre w (List.mem_cons_of_mem _ h)
  have hown : s.vm.findClass RX12 = some m.cls := findClass_of_methodNamed B.named
  have hlocks := B.notSynchronized
  have hD := pl_in hD0
  have hS : va_S (fun q => q ∈ L) s.heap s.heap [] := va_S.rf
  have hl := lv_entry ([.ref o0, .int p1, .int p2]) (n := 4) (Nat.le_of_ble_eq_true rfl)
  rw [lg_entry_eq]
  generalize (lg_sl ([.ref o0, .int p1, .int p2]) ++ List.replicate (4 - (lg_sl ([.ref o0, .int p1, .int p2])).length) Slot.unset).toArray = ls at hl ⊢
  have hl : lv_has ls 4 [(0, .ref o0), (1, .int p1), (2, .int p2)] := hl
  obtain ⟨g_2, hfo_1, hbg_2⟩ := un_576 (hG _ mo0) ko0
  refine lv_iconst (v := 0) hx hb dX12_hasPair_0 (by decide) ?_
  refine lv_istore_n (lv' := [(3, .int 0), (0, .ref o0), (1, .int p1), (2, .int p2)]) hx hb dX12_hasPair_1 rfl hl (by decide) rfl (fun ls hl => ?_)
  have hloop_9 : ∀ (n : Nat), ∀ (y_10 : Int32), (0 ≤ y_10.toInt ∧ y_10.toInt ≤ 20) → (∀ j : Nat, (j : Int) < y_10.toInt → (g_2 (20 + j)).toInt ≠ 9 * p1.toInt + p2.toInt) → 20 - y_10.toInt < (n : Int) → ∀ (ls : Array Slot), lv_has ls 4 [(3, .int y_10), (0, .ref o0), (1, .int p1), (2, .int p2)] → W p l e (headSpec (wU yX12_hasPair cX12_hasPair 4 (some .boolean)) { frames := 0, cells := 0, slots := 0, locals := 0 }).room s m [.ref o0, .int p1, .int p2].toArray below meth c s.heap [] 0 0 (MQ below (va_Qi (fun (r : Int32) (f9 : Nat → va_E) => f = f9 ∧ (0 ≤ r.toInt ∧ r.toInt ≤ 1) ∧ (∀ g9, f o0 = .inl (cI, 1560, .inl g9) → r.toInt = 1 ∨ ∀ j : Nat, (j : Int) < (g9 16).toInt → (g9 (20 + j)).toInt ≠ 9 * p1.toInt + p2.toInt)) (qP (dC, dI) cI cL cZ cR cG cH L) (fun q => q ∈ L)) [.ref o0, .int p1, .int p2].toArray s 0 0 (fun q => q ∈ L)) (F0 m 2 ls []) := by
    intro n
    induction n with
    | zero => intro y_10 by_10 hxh hmuhloop_9 ls hl; exfalso; omega
    | succ n ih_hloop_9 =>
      intro y_10 by_10 hxh hmuhloop_9 ls hl
      refine lv_iload_n hx hb dX12_hasPair_2 rfl (lv_at hl 0 rfl) ?_
      refine lv_aload_n hx hb dX12_hasPair_3 rfl (lv_at hl 1 rfl) ?_
      refine lv_bipush (v := 16) hx hb dX12_hasPair_4 (by decide) ?_
      refine tk_ildP hx hb hK hP 0 mo0 hfo_1 rfl (vp_in_nI (n := 16) (by decide) (by decide)) dX12_hasPair_6 ?_
      refine lv_topi (fun x_11 ex_11 => ?_)
      have bx_11 : (0 ≤ x_11.toInt ∧ x_11.toInt ≤ 20) := by rw [ex_11]; exact hbg_2.2.1 _ (by decide) (by decide) (by decide)
      refine lv_icmp_ge (tgt := 33) hx hb dX12_hasPair_7 (by decide) (fun c_12 => ?_) (fun c_12 => ?_)
      · skip
        rw [Int32.le_iff_toInt_le] at c_12
        refine lv_iconst (v := 0) hx hb dX12_hasPair_33 (by decide) ?_
        exact W.zret (v := 0) (ty := .boolean) hx hb hr rfl (fun t ht hW => ⟨⟨0, f, rfl, ⟨rfl, (by decide), (fun g9 h9 => by rw [hfo_1] at h9; cases h9; exact Or.inr (fun j hj => hxh j (by have h7 : x_11.toInt = (g_2 16).toInt := (by rw [ex_11]; rfl); omega)))⟩, by rw [ht]; exact hP, va_K.moved hW.alike hK, pl_in hD⟩, hS.F ht⟩) hS.2.2 dX12_hasPair_34
      · skip
        rw [Int32.le_iff_toInt_le] at c_12
        refine lv_aload_n hx hb dX12_hasPair_10 rfl (lv_at hl 1 rfl) ?_
        refine lv_bipush (v := 20) hx hb dX12_hasPair_11 (by decide) ?_
        refine lv_iload_n hx hb dX12_hasPair_13 rfl (lv_at hl 0 rfl) ?_
        refine lv_iadd hx hb dX12_hasPair_14 ?_
        refine lv_topi (fun x_13 ex_13 => ?_)
        have hx_13 : x_13.toInt = 20 + y_10.toInt := by rw [ex_13, ad_I (by rw [ti_20]; omega) (by rw [ti_20]; omega), ti_20]
        have bx_13 : (20 ≤ x_13.toInt ∧ x_13.toInt ≤ 39) := by constructor <;> omega
        refine tk_ildP hx hb hK hP 0 mo0 hfo_1 rfl (vp_in_iff.mpr (by constructor <;> omega)) dX12_hasPair_15 ?_
        refine lv_topi (fun x_14 ex_14 => ?_)
        have bx_14 : (0 ≤ x_14.toInt ∧ x_14.toInt ≤ 80) := by have hc9 := cl_I (i := x_13) (by omega); rw [ex_14]; exact hbg_2.2.2.2.2.2.1 _ (by omega) (by omega) (by omega)
        refine lv_bipush (v := 9) hx hb dX12_hasPair_16 (by decide) ?_
        refine lv_iload_n hx hb dX12_hasPair_18 rfl (lv_at hl 2 rfl) ?_
        refine lv_imul hx hb dX12_hasPair_19 ?_
        refine lv_topi (fun x_15 ex_15 => ?_)
        have hx_15 : x_15.toInt = 9 * p1.toInt := by rw [ex_15, ml_I (by rw [ti_9]; omega) (by rw [ti_9]; omega), ti_9]
        have bx_15 : (0 ≤ x_15.toInt ∧ x_15.toInt ≤ 72) := by constructor <;> omega
        refine lv_iload_n hx hb dX12_hasPair_20 rfl (lv_at hl 3 rfl) ?_
        refine lv_iadd hx hb dX12_hasPair_21 ?_
        refine lv_topi (fun x_16 ex_16 => ?_)
        have hx_16 : x_16.toInt = x_15.toInt + p2.toInt := by rw [ex_16, ad_I (by omega) (by omega)]
        have bx_16 : (0 ≤ x_16.toInt ∧ x_16.toInt ≤ 80) := by constructor <;> omega
        refine lv_icmp_ne (tgt := 27) hx hb dX12_hasPair_22 (by decide) (fun c_17 => ?_) (fun c_17 => ?_)
        · skip
          rw [← Int32.toInt_inj] at c_17
          obtain ⟨x_18, ex_18⟩ : ∃ y : Int32, y_10 + 1 = y := ⟨_, rfl⟩
          have hx_18 : x_18.toInt = y_10.toInt + 1 := by rw [← ex_18, ad_I (by rw [ti_1]; omega) (by rw [ti_1]; omega), ti_1]
          have bx_18 : (1 ≤ x_18.toInt ∧ x_18.toInt ≤ 20) := by constructor <;> omega
          refine lv_iinc (v := x_18) (lv' := [(3, .int x_18), (0, .ref o0), (1, .int p1), (2, .int p2)]) hx hb dX12_hasPair_27 hl (k := 0) rfl ex_18 (by decide) rfl (fun ls hl => ?_)
          refine lv_goto (tgt := 2) hx hb dX12_hasPair_30 (by decide) ?_
          exact ih_hloop_9 x_18 (by constructor <;> omega) (fun j hj => by by_cases hjk : (j : Int) = y_10.toInt; (· have hc9 := cl_I (i := x_13) (by omega); rw [show 20 + j = Int32.toNatClampNeg x_13 by omega, ← ex_14]; omega); (· exact hxh j (by omega))) (by omega) ls (lv_sub hl [0, 1, 2, 3] rfl)
        · skip
          rw [← Int32.toInt_inj] at c_17
          refine lv_iconst (v := 1) hx hb dX12_hasPair_25 (by decide) ?_
          exact W.zret (v := 1) (ty := .boolean) hx hb hr rfl (fun t ht hW => ⟨⟨1, f, rfl, ⟨rfl, (by decide), (fun _ _ => Or.inl (by decide))⟩, by rw [ht]; exact hP, va_K.moved hW.alike hK, pl_in hD⟩, hS.F ht⟩) hS.2.2 dX12_hasPair_26
  exact hloop_9 21 0 (by decide) (fun j hj => by exfalso; have h3 : ((0 : Int32)).toInt = 0 := rfl; omega) (by (try rw [ti_0]) <;> omega) ls hl
set_option maxHeartbeats 8000000 in
set_option maxRecDepth 100000 in
theorem s_X12_takesS_k12 (l : Launch) (D : va_G) (cI cL cZ cR cG cH : ClassId) (Z : zT) (kd : Nat → Nat) (L : List Nat) (f : Nat → va_E) (hG : GI (okc cI cL cZ cR cG cH L kd) kd L f) (o0 : Nat) (mo0 : o0 ∈ L) (ko0 : kd o0 = 12) : mPI l D cI cL cZ cR cG cH Z yX12_takesS cX12_takesS 2 (some .boolean) 3 61 [.ref o0] L f (fun (r : Int32) (f9 : Nat → va_E) => GI (okc cI cL cZ cR cG cH L kd) kd L f9 ∧ (0 ≤ r.toInt ∧ r.toInt ≤ 1) ∧ (∀ b, kd b ≠ 12 → f9 b = f b) ∧ (∀ b, kd b = 12 → ∀ j, fldR (f9 b) j = fldR (f b) j) ∧ (∀ b, kd b = 12 → ∀ j, j ≠ 6 → j ≠ 7 → j ≠ 8 → j ≠ 11 → fldI (f9 b) j = fldI (f b) j) ∧ (∀ (w6 z6 : Int32), fldI (f o0) 6 = some w6 → fldI (f9 o0) 6 = some z6 → w6.toInt ≤ z6.toInt) ∧ (∀ b9 g9 z9, fldR (f9 o0) 1 = some b9 → f9 b9 = .inl (cI, 1560, .inl g9) → fldI (f9 o0) 11 = some z9 → r.toInt = 0 ∨ z9.toInt ≤ (g9 0).toInt)) := by
  obtain ⟨dC, dI⟩ := D
  refine Met.ofW (cc := cX12_takesS) (maxL := 2) (ret := (some .boolean)) (by decide) rfl ?_
  intro p e s m args below meth c s₁ B hml hv
  obtain ⟨rfl, hP, hK, hD0, hN, hZ⟩ := hv
  have hx := B.exec
  have hb := B.bytes
  have hr := B.returns
  have hU : ∀ w ∈ wsU, w.before _ s = true := fun w h => atoms_spec (ws := wU yX12_takesS cX12_takesS 2 (some .boolean)) B.pre w (List.mem_cons_of_mem _ h)
  have hown : s.vm.findClass RX12 = some m.cls := findClass_of_methodNamed B.named
  have hlocks := B.notSynchronized
  have hD := pl_in hD0
  have hS : va_S (fun q => q ∈ L) s.heap s.heap [] := va_S.rf
  have hl := lv_entry ([.ref o0]) (n := 2) (Nat.le_of_ble_eq_true rfl)
  rw [lg_entry_eq]
  generalize (lg_sl ([.ref o0]) ++ List.replicate (2 - (lg_sl ([.ref o0])).length) Slot.unset).toArray = ls at hl ⊢
  have hl : lv_has ls 2 [(0, .ref o0)] := hl
  have hfr0 : ∀ b, kd b ≠ 12 → f b = f b := fun _ _ => rfl
  have hrA12 : ∀ b, kd b = 12 → ∀ j, fldR (f b) j = fldR (f b) j := fun _ _ _ => rfl
  have hfA12 : ∀ b, kd b = 12 → ∀ j, j ≠ 6 → j ≠ 7 → j ≠ 8 → j ≠ 11 → fldI (f b) j = fldI (f b) j := fun _ _ _ _ _ _ _ => rfl
  obtain ⟨a_2, a_3, a_4, v_5, a_6, v_7, v_8, v_9, v_10, v_11, v_12, v_13, v_14, v_15, v_16, a_17, a_18, a_19, a_20, a_21, a_22, a_23, a_24, v_25, v_26, v_27, v_28, v_29, a_30, v_31, a_32, a_33, v_34, v_35, a_36, v_37, a_38, a_39, v_40, v_41, a_42, a_43, a_44, v_45, a_46, a_47, a_48, a_49, a_50, a_51, a_52, a_53, a_54, v_55, v_56, a_57, hfo_1, ⟨ma_2, ka_2⟩, ⟨ma_3, ka_3⟩, ⟨ma_4, ka_4⟩, bv_5, ⟨ma_6, ka_6⟩, bv_7, bv_8, bv_13, bv_14, bv_15, ⟨ma_17, ka_17⟩, ⟨ma_18, ka_18⟩, ⟨ma_19, ka_19⟩, ⟨ma_20, ka_20⟩, ⟨ma_21, ka_21⟩, ⟨ma_22, ka_22⟩, ⟨ma_23, ka_23⟩, ⟨ma_24, ka_24⟩, bv_25, bv_27, bv_29, ⟨ma_30, ka_30⟩, bv_31, ⟨ma_32, ka_32⟩, ⟨ma_33, ka_33⟩, bv_34, ⟨ma_36, ka_36⟩, bv_37, ⟨ma_38, ka_38⟩, ⟨ma_39, ka_39⟩, bv_40, ⟨ma_42, ka_42⟩, ⟨ma_43, ka_43⟩, ⟨ma_44, ka_44⟩, bv_45, ⟨ma_46, ka_46⟩, ⟨ma_47, ka_47⟩, ⟨ma_48, ka_48⟩, ⟨ma_49, ka_49⟩, ⟨ma_50, ka_50⟩, ⟨ma_51, ka_51⟩, ⟨ma_52, ka_52⟩, ⟨ma_53, ka_53⟩, ⟨ma_54, ka_54⟩, bv_55, ⟨ma_57, ka_57⟩⟩ := un_12 (hG _ mo0) ko0
  have bv_9 : ((-2147483648) ≤ v_9.toInt ∧ v_9.toInt ≤ 2147483647) := ⟨i32_lo _, i32_hi _⟩
  have bv_10 : ((-2147483648) ≤ v_10.toInt ∧ v_10.toInt ≤ 2147483647) := ⟨i32_lo _, i32_hi _⟩
  have bv_11 : ((-2147483648) ≤ v_11.toInt ∧ v_11.toInt ≤ 2147483647) := ⟨i32_lo _, i32_hi _⟩
  have bv_12 : ((-2147483648) ≤ v_12.toInt ∧ v_12.toInt ≤ 2147483647) := ⟨i32_lo _, i32_hi _⟩
  have bv_16 : ((-2147483648) ≤ v_16.toInt ∧ v_16.toInt ≤ 2147483647) := ⟨i32_lo _, i32_hi _⟩
  have bv_26 : ((-2147483648) ≤ v_26.toInt ∧ v_26.toInt ≤ 2147483647) := ⟨i32_lo _, i32_hi _⟩
  have bv_28 : ((-2147483648) ≤ v_28.toInt ∧ v_28.toInt ≤ 2147483647) := ⟨i32_lo _, i32_hi _⟩
  have bv_35 : ((-2147483648) ≤ v_35.toInt ∧ v_35.toInt ≤ 2147483647) := ⟨i32_lo _, i32_hi _⟩
  have bv_41 : ((-2147483648) ≤ v_41.toInt ∧ v_41.toInt ≤ 2147483647) := ⟨i32_lo _, i32_hi _⟩
  have bv_56 : ((-2147483648) ≤ v_56.toInt ∧ v_56.toInt ≤ 2147483647) := ⟨i32_lo _, i32_hi _⟩
  refine lv_aload_n hx hb dX12_takesS_0 rfl (lv_at hl 0 rfl) ?_
  refine tk_ViP (As := []) (rest := []) (n := 0) hx hb hml hown hU hN hZ (s_X12_sign_k12 l (dC, dI) cI cL cZ cR cG cH Z kd L f hG o0 mo0 ko0) wd_573 wd_574 wd_575 wd_5 wd_576 (by decide +kernel) ⟨Nat.le_of_ble_eq_true rfl, Nat.le_of_ble_eq_true rfl⟩ hK hP hD hS mo0 hfo_1 12 rfl rfl rfl hl.1 rfl (Nat.le_of_ble_eq_true rfl) dX12_takesS_1 ⟨Nat.le_of_ble_eq_true rfl, Nat.le_of_ble_eq_true rfl⟩ (fun x_58 f_59 H locs hw hP hD hS => ?_)
  obtain ⟨hG, bx_58, hkc_60, hra_61, hfa_62, hpost_63⟩ := hw
  have hfr0 : ∀ b, kd b ≠ 12 → f_59 b = f b := fun b q12 => (hkc_60 b q12).trans (hfr0 b q12)
  have hrA12 : ∀ b, kd b = 12 → ∀ j, fldR (f_59 b) j = fldR (f b) j := fun b kb j => (hra_61 b kb j).trans (hrA12 b kb j)
  have hfA12 : ∀ b, kd b = 12 → ∀ j, j ≠ 6 → j ≠ 7 → j ≠ 8 → j ≠ 11 → fldI (f_59 b) j = fldI (f b) j := fun b kb j n6 n7 n8 n11 => (hfa_62 b kb j n6).trans (hfA12 b kb j n6 n7 n8 n11)
  obtain ⟨a_66, a_67, a_68, v_69, a_70, v_71, v_72, v_73, v_74, v_75, v_76, v_77, v_78, v_79, v_80, a_81, a_82, a_83, a_84, a_85, a_86, a_87, a_88, v_89, v_90, v_91, v_92, v_93, a_94, v_95, a_96, a_97, v_98, v_99, a_100, v_101, a_102, a_103, v_104, v_105, a_106, a_107, a_108, v_109, a_110, a_111, a_112, a_113, a_114, a_115, a_116, a_117, a_118, v_119, v_120, a_121, hfo_65, ⟨ma_66, ka_66⟩, ⟨ma_67, ka_67⟩, ⟨ma_68, ka_68⟩, bv_69, ⟨ma_70, ka_70⟩, bv_71, bv_72, bv_77, bv_78, bv_79, ⟨ma_81, ka_81⟩, ⟨ma_82, ka_82⟩, ⟨ma_83, ka_83⟩, ⟨ma_84, ka_84⟩, ⟨ma_85, ka_85⟩, ⟨ma_86, ka_86⟩, ⟨ma_87, ka_87⟩, ⟨ma_88, ka_88⟩, bv_89, bv_91, bv_93, ⟨ma_94, ka_94⟩, bv_95, ⟨ma_96, ka_96⟩, ⟨ma_97, ka_97⟩, bv_98, ⟨ma_100, ka_100⟩, bv_101, ⟨ma_102, ka_102⟩, ⟨ma_103, ka_103⟩, bv_104, ⟨ma_106, ka_106⟩, ⟨ma_107, ka_107⟩, ⟨ma_108, ka_108⟩, bv_109, ⟨ma_110, ka_110⟩, ⟨ma_111, ka_111⟩, ⟨ma_112, ka_112⟩, ⟨ma_113, ka_113⟩, ⟨ma_114, ka_114⟩, ⟨ma_115, ka_115⟩, ⟨ma_116, ka_116⟩, ⟨ma_117, ka_117⟩, ⟨ma_118, ka_118⟩, bv_119, ⟨ma_121, ka_121⟩⟩ := un_12 (hG _ mo0) ko0
  have bv_73 : ((-2147483648) ≤ v_73.toInt ∧ v_73.toInt ≤ 2147483647) := ⟨i32_lo _, i32_hi _⟩
  have bv_74 : ((-2147483648) ≤ v_74.toInt ∧ v_74.toInt ≤ 2147483647) := ⟨i32_lo _, i32_hi _⟩
  have bv_75 : ((-2147483648) ≤ v_75.toInt ∧ v_75.toInt ≤ 2147483647) := ⟨i32_lo _, i32_hi _⟩
  have bv_76 : ((-2147483648) ≤ v_76.toInt ∧ v_76.toInt ≤ 2147483647) := ⟨i32_lo _, i32_hi _⟩
  have bv_80 : ((-2147483648) ≤ v_80.toInt ∧ v_80.toInt ≤ 2147483647) := ⟨i32_lo _, i32_hi _⟩
  have bv_90 : ((-2147483648) ≤ v_90.toInt ∧ v_90.toInt ≤ 2147483647) := ⟨i32_lo _, i32_hi _⟩
  have bv_92 : ((-2147483648) ≤ v_92.toInt ∧ v_92.toInt ≤ 2147483647) := ⟨i32_lo _, i32_hi _⟩
  have bv_99 : ((-2147483648) ≤ v_99.toInt ∧ v_99.toInt ≤ 2147483647) := ⟨i32_lo _, i32_hi _⟩
  have bv_105 : ((-2147483648) ≤ v_105.toInt ∧ v_105.toInt ≤ 2147483647) := ⟨i32_lo _, i32_hi _⟩
  have bv_120 : ((-2147483648) ≤ v_120.toInt ∧ v_120.toInt ≤ 2147483647) := ⟨i32_lo _, i32_hi _⟩
  obtain ⟨rfl, rfl, rfl, rfl, rfl, rfl, rfl, rfl, rfl, rfl, rfl, rfl, rfl, rfl, rfl, rfl, rfl, rfl, rfl, rfl, rfl, rfl, rfl, rfl, rfl, rfl, rfl, rfl, rfl, rfl, rfl⟩ := re_12 hfo_1 hfo_65 (hrA12 o0 ko0)
  obtain rfl := ri_12_3 hfo_1 hfo_65 (hfA12 o0 ko0 3 (by decide) (by decide) (by decide) (by decide))
  obtain rfl := ri_12_5 hfo_1 hfo_65 (hfA12 o0 ko0 5 (by decide) (by decide) (by decide) (by decide))
  obtain rfl := ri_12_12 hfo_1 hfo_65 (hfA12 o0 ko0 12 (by decide) (by decide) (by decide) (by decide))
  obtain rfl := ri_12_13 hfo_1 hfo_65 (hfA12 o0 ko0 13 (by decide) (by decide) (by decide) (by decide))
  obtain rfl := ri_12_14 hfo_1 hfo_65 (hfA12 o0 ko0 14 (by decide) (by decide) (by decide) (by decide))
  obtain rfl := ri_12_23 hfo_1 hfo_65 (hfA12 o0 ko0 23 (by decide) (by decide) (by decide) (by decide))
  obtain rfl := ri_12_25 hfo_1 hfo_65 (hfA12 o0 ko0 25 (by decide) (by decide) (by decide) (by decide))
  obtain rfl := ri_12_27 hfo_1 hfo_65 (hfA12 o0 ko0 27 (by decide) (by decide) (by decide) (by decide))
  obtain rfl := ri_12_29 hfo_1 hfo_65 (hfA12 o0 ko0 29 (by decide) (by decide) (by decide) (by decide))
  obtain rfl := ri_12_32 hfo_1 hfo_65 (hfA12 o0 ko0 32 (by decide) (by decide) (by decide) (by decide))
  obtain rfl := ri_12_33 hfo_1 hfo_65 (hfA12 o0 ko0 33 (by decide) (by decide) (by decide) (by decide))
  obtain rfl := ri_12_35 hfo_1 hfo_65 (hfA12 o0 ko0 35 (by decide) (by decide) (by decide) (by decide))
  obtain rfl := ri_12_38 hfo_1 hfo_65 (hfA12 o0 ko0 38 (by decide) (by decide) (by decide) (by decide))
  obtain rfl := ri_12_43 hfo_1 hfo_65 (hfA12 o0 ko0 43 (by decide) (by decide) (by decide) (by decide))
  obtain rfl := ri_12_53 hfo_1 hfo_65 (hfA12 o0 ko0 53 (by decide) (by decide) (by decide) (by decide))
  obtain rfl := ri_12_11 hfo_1 hfo_65 (hfa_62 o0 ko0 11 (by decide))
  have hqhpost_63 := hpost_63 v_8 v_72 (by rw [hfo_1]; rfl) (by rw [hfo_65]; rfl)
  refine lv_istore_n (lv' := [(1, .int x_58), (0, .ref o0)]) hx hb dX12_takesS_4 rfl hl (by decide) rfl (fun ls hl => ?_)
  refine lv_iload_n hx hb dX12_takesS_5 rfl (lv_at hl 0 rfl) ?_
  refine lv_bipush (v := 48) hx hb dX12_takesS_6 (by decide) ?_
  refine lv_icmp_ne (tgt := 28) hx hb dX12_takesS_8 (by decide) (fun c_122 => ?_) (fun c_122 => ?_)
  · skip
    rw [← Int32.toInt_inj, ti_48] at c_122
    refine lv_iload_n hx hb dX12_takesS_28 rfl (lv_at hl 0 rfl) ?_
    refine tk_SiP (As := [.int x_58]) (rest := []) (n := 1) hx hb hml hown hU hN hZ (s_X12_isSmall l (dC, dI) cI cL cZ cR cG cH Z kd L f_59 hG x_58) wd_589 wd_590 wd_5 wd_591 (by decide +kernel) ⟨Nat.le_of_ble_eq_true rfl, Nat.le_of_ble_eq_true rfl⟩ hK hP hD hS rfl hl.1 rfl (Nat.le_of_ble_eq_true rfl) dX12_takesS_29 ⟨Nat.le_of_ble_eq_true rfl, Nat.le_of_ble_eq_true rfl⟩ (fun x_123 f_124 H locs hw hP hD hS => ?_)
    obtain ⟨rfl, bx_123, relx_123⟩ := hw
    refine lv_if_ne (tgt := 45) hx hb dX12_takesS_32 (by decide) (fun c_126 => ?_) (fun c_126 => ?_)
    · skip
      rw [← Int32.toInt_inj, ti_0] at c_126
      refine lv_aload_n hx hb dX12_takesS_45 rfl (lv_at hl 1 rfl) ?_
      refine lv_aload_n hx hb dX12_takesS_46 rfl (lv_at hl 1 rfl) ?_
      refine tk_getP (D := (dC, dI)) (ci := 12) (v := .ref a_3) (C := RX12) (T := TX12) (N := 56) hx hb hU inlX12 hown hK hP mo0 hfo_65 rfl 1 (by decide) (hU _ wd_170) (fun _ h9 => h9) rfl dX12_takesS_47 ?_
      refine lv_iload_n hx hb dX12_takesS_50 rfl (lv_at hl 0 rfl) ?_
      refine tk_SiP (As := [.ref a_3, .int x_58]) (rest := [.ref o0]) (n := 2) hx hb hml hown hU hN hZ (s_X12_letterIn_a576 l (dC, dI) cI cL cZ cR cG cH Z kd L f_59 hG a_3 ma_3 ka_3 x_58) wd_606 wd_607 wd_5 wd_608 (by decide +kernel) ⟨Nat.le_of_ble_eq_true rfl, Nat.le_of_ble_eq_true rfl⟩ hK hP hD hS rfl hl.1 rfl (Nat.le_of_ble_eq_true rfl) dX12_takesS_51 ⟨Nat.le_of_ble_eq_true rfl, Nat.le_of_ble_eq_true rfl⟩ (fun x_127 f_128 H locs hw hP hD hS => ?_)
      obtain ⟨rfl, bx_127, hxp_129⟩ := hw
      obtain ⟨g_132, hfo_131, hbg_132⟩ := un_576 (hG _ ma_3) ka_3
      have hlix_127 := hxp_129 g_132 hfo_131
      refine tk_putP (D := (dC, dI)) (ci := 12) (v := .int x_127) (ty := .int) (C := RX12) (T := TX12) (N := 56) hx hb hU inlX12 tyX12 tyX12_ok nmX12 hown hK hP hD hS mo0 hfo_65 rfl 11 (by decide) (hU _ wd_617) (fun _ h9 => h9) rfl (by decide +kernel) rfl rfl (Nat.le_of_ble_eq_true rfl) dX12_takesS_54 (fun H locs hP hD hS => ?_)
      obtain ⟨f_134, ef_134⟩ : ∃ y : Nat → va_E, y = va_up f_59 o0 (.inr (12, [.ref a_2, .ref a_3, .ref a_4, .int v_5, .ref a_6, .int v_7, .int v_72, .int v_73, .int v_74, .int v_75, .int v_76, .int x_127, .int v_14, .int v_15, .int v_16, .ref a_17, .ref a_18, .ref a_19, .ref a_20, .ref a_21, .ref a_22, .ref a_23, .ref a_24, .int v_25, .int v_90, .int v_27, .int v_92, .int v_29, .ref a_30, .int v_31, .ref a_32, .ref a_33, .int v_34, .int v_35, .ref a_36, .int v_37, .ref a_38, .ref a_39, .int v_40, .int v_105, .ref a_42, .ref a_43, .ref a_44, .int v_45, .ref a_46, .ref a_47, .ref a_48, .ref a_49, .ref a_50, .ref a_51, .ref a_52, .ref a_53, .ref a_54, .int v_55, .int v_120, .ref a_57])) := ⟨_, rfl⟩
      have hP : va_P (dC, dI) vwCl (va_pl L f_134) H := by rw [ef_134]; exact hP
      have hD : va_D (fun q => q ∈ L) (va_pl L f_134) := by rw [ef_134]; exact hD
      have hG : GI (okc cI cL cZ cR cG cH L kd) kd L f_134 := by rw [ef_134]; exact hG.set o0 (mk_12 ko0 ⟨a_2, a_3, a_4, v_5, a_6, v_7, v_72, v_73, v_74, v_75, v_76, x_127, v_14, v_15, v_16, a_17, a_18, a_19, a_20, a_21, a_22, a_23, a_24, v_25, v_90, v_27, v_92, v_29, a_30, v_31, a_32, a_33, v_34, v_35, a_36, v_37, a_38, a_39, v_40, v_105, a_42, a_43, a_44, v_45, a_46, a_47, a_48, a_49, a_50, a_51, a_52, a_53, a_54, v_55, v_120, a_57, rfl, ⟨ma_2, ka_2⟩, ⟨ma_3, ka_3⟩, ⟨ma_4, ka_4⟩, (by constructor <;> omega), ⟨ma_6, ka_6⟩, (by constructor <;> omega), (by constructor <;> omega), (by constructor <;> omega), (by constructor <;> omega), (by constructor <;> omega), ⟨ma_17, ka_17⟩, ⟨ma_18, ka_18⟩, ⟨ma_19, ka_19⟩, ⟨ma_20, ka_20⟩, ⟨ma_21, ka_21⟩, ⟨ma_22, ka_22⟩, ⟨ma_23, ka_23⟩, ⟨ma_24, ka_24⟩, (by constructor <;> omega), (by constructor <;> omega), (by constructor <;> omega), ⟨ma_30, ka_30⟩, (by constructor <;> omega), ⟨ma_32, ka_32⟩, ⟨ma_33, ka_33⟩, (by constructor <;> omega), ⟨ma_36, ka_36⟩, (by constructor <;> omega), ⟨ma_38, ka_38⟩, ⟨ma_39, ka_39⟩, (by constructor <;> omega), ⟨ma_42, ka_42⟩, ⟨ma_43, ka_43⟩, ⟨ma_44, ka_44⟩, (by constructor <;> omega), ⟨ma_46, ka_46⟩, ⟨ma_47, ka_47⟩, ⟨ma_48, ka_48⟩, ⟨ma_49, ka_49⟩, ⟨ma_50, ka_50⟩, ⟨ma_51, ka_51⟩, ⟨ma_52, ka_52⟩, ⟨ma_53, ka_53⟩, ⟨ma_54, ka_54⟩, (by constructor <;> omega), ⟨ma_57, ka_57⟩⟩)
      have hfo_135 : f_134 a_3 = .inl (cI, 1560, .inl g_132) := by rw [ef_134, up_ne (kd_ne ko0 ka_3 (by decide))]; exact hfo_131
      have hfr0 : ∀ b, kd b ≠ 12 → f_134 b = f b := fun b q12 => (congrFun ef_134 b).trans ((up_ne (fun e9 => q12 (by rw [e9]; exact ko0))).trans (hfr0 b q12))
      have hrA12 : ∀ b, kd b = 12 → ∀ j, fldR (f_134 b) j = fldR (f b) j := fun b kb j => ((congrArg (fun x => fldR x j) (congrFun ef_134 b)).trans (fra_up (fun j => by rw [hfo_65]; exact fr_set (k := 11) rfl rfl j) j b)).trans (hrA12 b kb j)
      have hfA12 : ∀ b, kd b = 12 → ∀ j, j ≠ 6 → j ≠ 7 → j ≠ 8 → j ≠ 11 → fldI (f_134 b) j = fldI (f b) j := fun b kb j n6 n7 n8 n11 => ((congrArg (fun x => fldI x j) (congrFun ef_134 b)).trans (fia_up (fun h9 => by rw [hfo_65]; exact fi_set (k := 11) rfl h9) n11 b)).trans (hfA12 b kb j n6 n7 n8 n11)
      have hfo_136 : f_134 o0 = .inr (12, [.ref a_2, .ref a_3, .ref a_4, .int v_5, .ref a_6, .int v_7, .int v_72, .int v_73, .int v_74, .int v_75, .int v_76, .int x_127, .int v_14, .int v_15, .int v_16, .ref a_17, .ref a_18, .ref a_19, .ref a_20, .ref a_21, .ref a_22, .ref a_23, .ref a_24, .int v_25, .int v_90, .int v_27, .int v_92, .int v_29, .ref a_30, .int v_31, .ref a_32, .ref a_33, .int v_34, .int v_35, .ref a_36, .int v_37, .ref a_38, .ref a_39, .int v_40, .int v_105, .ref a_42, .ref a_43, .ref a_44, .int v_45, .ref a_46, .ref a_47, .ref a_48, .ref a_49, .ref a_50, .ref a_51, .ref a_52, .ref a_53, .ref a_54, .int v_55, .int v_120, .ref a_57]) := by rw [ef_134]; exact up_self
      refine lv_aload_n hx hb dX12_takesS_57 rfl (lv_at hl 1 rfl) ?_
      refine tk_getP (D := (dC, dI)) (ci := 12) (v := .int x_127) (C := RX12) (T := TX12) (N := 56) hx hb hU inlX12 hown hK hP mo0 hfo_136 rfl 11 (by decide) (hU _ wd_617) (fun _ h9 => h9) rfl dX12_takesS_58 ?_
      refine lv_if_ne (tgt := 74) hx hb dX12_takesS_61 (by decide) (fun c_137 => ?_) (fun c_137 => ?_)
      · skip
        rw [← Int32.toInt_inj, ti_0] at c_137
        have hclc_138 : (0 ≤ v_72.toInt ∧ v_72.toInt ≤ 599) := by constructor <;> omega
        refine lv_aload_n hx hb dX12_takesS_74 rfl (lv_at hl 1 rfl) ?_
        refine lv_dup hx hb dX12_takesS_75 rfl ?_
        refine tk_getP (D := (dC, dI)) (ci := 12) (v := .int v_72) (C := RX12) (T := TX12) (N := 56) hx hb hU inlX12 hown hK hP mo0 hfo_136 rfl 6 (by decide) (hU _ wd_566) (fun _ h9 => h9) rfl dX12_takesS_76 ?_
        refine lv_iconst (v := 1) hx hb dX12_takesS_79 (by decide) ?_
        refine lv_iadd hx hb dX12_takesS_80 ?_
        refine lv_topi (fun x_139 ex_139 => ?_)
        have hx_139 : x_139.toInt = v_72.toInt + 1 := by rw [ex_139, ad_I (by rw [ti_1]; omega) (by rw [ti_1]; omega), ti_1]
        have bx_139 : (1 ≤ x_139.toInt ∧ x_139.toInt ≤ 600) := by constructor <;> omega
        refine tk_putP (D := (dC, dI)) (ci := 12) (v := .int x_139) (ty := .int) (C := RX12) (T := TX12) (N := 56) hx hb hU inlX12 tyX12 tyX12_ok nmX12 hown hK hP hD hS mo0 hfo_136 rfl 6 (by decide) (hU _ wd_566) (fun _ h9 => h9) rfl (by decide +kernel) rfl rfl (Nat.le_of_ble_eq_true rfl) dX12_takesS_81 (fun H locs hP hD hS => ?_)
        obtain ⟨f_141, ef_141⟩ : ∃ y : Nat → va_E, y = va_up f_134 o0 (.inr (12, [.ref a_2, .ref a_3, .ref a_4, .int v_5, .ref a_6, .int v_7, .int x_139, .int v_73, .int v_74, .int v_75, .int v_76, .int x_127, .int v_14, .int v_15, .int v_16, .ref a_17, .ref a_18, .ref a_19, .ref a_20, .ref a_21, .ref a_22, .ref a_23, .ref a_24, .int v_25, .int v_90, .int v_27, .int v_92, .int v_29, .ref a_30, .int v_31, .ref a_32, .ref a_33, .int v_34, .int v_35, .ref a_36, .int v_37, .ref a_38, .ref a_39, .int v_40, .int v_105, .ref a_42, .ref a_43, .ref a_44, .int v_45, .ref a_46, .ref a_47, .ref a_48, .ref a_49, .ref a_50, .ref a_51, .ref a_52, .ref a_53, .ref a_54, .int v_55, .int v_120, .ref a_57])) := ⟨_, rfl⟩
        have hP : va_P (dC, dI) vwCl (va_pl L f_141) H := by rw [ef_141]; exact hP
        have hD : va_D (fun q => q ∈ L) (va_pl L f_141) := by rw [ef_141]; exact hD
        have hG : GI (okc cI cL cZ cR cG cH L kd) kd L f_141 := by rw [ef_141]; exact hG.set o0 (mk_12 ko0 ⟨a_2, a_3, a_4, v_5, a_6, v_7, x_139, v_73, v_74, v_75, v_76, x_127, v_14, v_15, v_16, a_17, a_18, a_19, a_20, a_21, a_22, a_23, a_24, v_25, v_90, v_27, v_92, v_29, a_30, v_31, a_32, a_33, v_34, v_35, a_36, v_37, a_38, a_39, v_40, v_105, a_42, a_43, a_44, v_45, a_46, a_47, a_48, a_49, a_50, a_51, a_52, a_53, a_54, v_55, v_120, a_57, rfl, ⟨ma_2, ka_2⟩, ⟨ma_3, ka_3⟩, ⟨ma_4, ka_4⟩, (by constructor <;> omega), ⟨ma_6, ka_6⟩, (by constructor <;> omega), (by constructor <;> omega), (by constructor <;> omega), (by constructor <;> omega), (by constructor <;> omega), ⟨ma_17, ka_17⟩, ⟨ma_18, ka_18⟩, ⟨ma_19, ka_19⟩, ⟨ma_20, ka_20⟩, ⟨ma_21, ka_21⟩, ⟨ma_22, ka_22⟩, ⟨ma_23, ka_23⟩, ⟨ma_24, ka_24⟩, (by constructor <;> omega), (by constructor <;> omega), (by constructor <;> omega), ⟨ma_30, ka_30⟩, (by constructor <;> omega), ⟨ma_32, ka_32⟩, ⟨ma_33, ka_33⟩, (by constructor <;> omega), ⟨ma_36, ka_36⟩, (by constructor <;> omega), ⟨ma_38, ka_38⟩, ⟨ma_39, ka_39⟩, (by constructor <;> omega), ⟨ma_42, ka_42⟩, ⟨ma_43, ka_43⟩, ⟨ma_44, ka_44⟩, (by constructor <;> omega), ⟨ma_46, ka_46⟩, ⟨ma_47, ka_47⟩, ⟨ma_48, ka_48⟩, ⟨ma_49, ka_49⟩, ⟨ma_50, ka_50⟩, ⟨ma_51, ka_51⟩, ⟨ma_52, ka_52⟩, ⟨ma_53, ka_53⟩, ⟨ma_54, ka_54⟩, (by constructor <;> omega), ⟨ma_57, ka_57⟩⟩)
        have hfo_142 : f_141 a_3 = .inl (cI, 1560, .inl g_132) := by rw [ef_141, up_ne (kd_ne ko0 ka_3 (by decide))]; exact hfo_135
        have hfr0 : ∀ b, kd b ≠ 12 → f_141 b = f b := fun b q12 => (congrFun ef_141 b).trans ((up_ne (fun e9 => q12 (by rw [e9]; exact ko0))).trans (hfr0 b q12))
        have hrA12 : ∀ b, kd b = 12 → ∀ j, fldR (f_141 b) j = fldR (f b) j := fun b kb j => ((congrArg (fun x => fldR x j) (congrFun ef_141 b)).trans (fra_up (fun j => by rw [hfo_136]; exact fr_set (k := 6) rfl rfl j) j b)).trans (hrA12 b kb j)
        have hfA12 : ∀ b, kd b = 12 → ∀ j, j ≠ 6 → j ≠ 7 → j ≠ 8 → j ≠ 11 → fldI (f_141 b) j = fldI (f b) j := fun b kb j n6 n7 n8 n11 => ((congrArg (fun x => fldI x j) (congrFun ef_141 b)).trans (fia_up (fun h9 => by rw [hfo_136]; exact fi_set (k := 6) rfl h9) n6 b)).trans (hfA12 b kb j n6 n7 n8 n11)
        have hfo_143 : f_141 o0 = .inr (12, [.ref a_2, .ref a_3, .ref a_4, .int v_5, .ref a_6, .int v_7, .int x_139, .int v_73, .int v_74, .int v_75, .int v_76, .int x_127, .int v_14, .int v_15, .int v_16, .ref a_17, .ref a_18, .ref a_19, .ref a_20, .ref a_21, .ref a_22, .ref a_23, .ref a_24, .int v_25, .int v_90, .int v_27, .int v_92, .int v_29, .ref a_30, .int v_31, .ref a_32, .ref a_33, .int v_34, .int v_35, .ref a_36, .int v_37, .ref a_38, .ref a_39, .int v_40, .int v_105, .ref a_42, .ref a_43, .ref a_44, .int v_45, .ref a_46, .ref a_47, .ref a_48, .ref a_49, .ref a_50, .ref a_51, .ref a_52, .ref a_53, .ref a_54, .int v_55, .int v_120, .ref a_57]) := by rw [ef_141]; exact up_self
        refine lv_iconst (v := 1) hx hb dX12_takesS_84 (by decide) ?_
        exact W.zret (v := 1) (ty := .boolean) hx hb hr rfl (fun t ht hW => ⟨⟨1, f_141, rfl, ⟨hG, (by decide), hfr0, hrA12, hfA12, (by intro w6 z6 e6 d6; rw [hfo_1] at e6; rw [hfo_143] at d6; obtain rfl := Option.some.inj e6; obtain rfl := Option.some.inj d6; (try rw [ti_1]) <;> omega), (fun b9 g9 z9 h1 h2 h3 => Or.inr (by rw [hfo_143] at h1 h3; obtain rfl := Option.some.inj h1; obtain rfl := Option.some.inj h3; rw [hfo_142] at h2; cases h2; exact (hlix_127)))⟩, by rw [ht]; exact hP, va_K.moved hW.alike hK, pl_in hD⟩, hS.F ht⟩) hS.2.2 dX12_takesS_85
      · skip
        rw [← Int32.toInt_inj, ti_0] at c_137
        refine lv_aload_n hx hb dX12_takesS_64 rfl (lv_at hl 1 rfl) ?_
        refine lv_iconst (v := 2) hx hb dX12_takesS_65 (by decide) ?_
        refine lv_aload_n hx hb dX12_takesS_66 rfl (lv_at hl 1 rfl) ?_
        refine tk_getP (D := (dC, dI)) (ci := 12) (v := .int v_72) (C := RX12) (T := TX12) (N := 56) hx hb hU inlX12 hown hK hP mo0 hfo_136 rfl 6 (by decide) (hU _ wd_566) (fun _ h9 => h9) rfl dX12_takesS_67 ?_
        refine tk_ViP (As := [.int 2, .int v_72]) (rest := []) (n := 2) hx hb hml hown hU hN hZ (s_X12_bad_k12 l (dC, dI) cI cL cZ cR cG cH Z kd L f_134 hG o0 mo0 ko0 2 v_72) wd_602 wd_603 wd_604 wd_5 wd_605 (by decide +kernel) ⟨Nat.le_of_ble_eq_true rfl, Nat.le_of_ble_eq_true rfl⟩ hK hP hD hS mo0 hfo_136 12 rfl rfl rfl hl.1 rfl (Nat.le_of_ble_eq_true rfl) dX12_takesS_70 ⟨Nat.le_of_ble_eq_true rfl, Nat.le_of_ble_eq_true rfl⟩ (fun x_144 f_145 H locs hw hP hD hS => ?_)
        obtain ⟨hG, bx_144, hkc_146, hra_147, hfa_148⟩ := hw
        have hfo_150 : f_145 a_3 = .inl (cI, 1560, .inl g_132) := by rw [hkc_146 a_3 (by rw [ka_3]; decide)]; exact hfo_135
        have hfr0 : ∀ b, kd b ≠ 12 → f_145 b = f b := fun b q12 => (hkc_146 b q12).trans (hfr0 b q12)
        have hrA12 : ∀ b, kd b = 12 → ∀ j, fldR (f_145 b) j = fldR (f b) j := fun b kb j => (hra_147 b kb j).trans (hrA12 b kb j)
        have hfA12 : ∀ b, kd b = 12 → ∀ j, j ≠ 6 → j ≠ 7 → j ≠ 8 → j ≠ 11 → fldI (f_145 b) j = fldI (f b) j := fun b kb j n6 n7 n8 n11 => (hfa_148 b kb j n7 n8).trans (hfA12 b kb j n6 n7 n8 n11)
        obtain ⟨a_152, a_153, a_154, v_155, a_156, v_157, v_158, v_159, v_160, v_161, v_162, v_163, v_164, v_165, v_166, a_167, a_168, a_169, a_170, a_171, a_172, a_173, a_174, v_175, v_176, v_177, v_178, v_179, a_180, v_181, a_182, a_183, v_184, v_185, a_186, v_187, a_188, a_189, v_190, v_191, a_192, a_193, a_194, v_195, a_196, a_197, a_198, a_199, a_200, a_201, a_202, a_203, a_204, v_205, v_206, a_207, hfo_151, ⟨ma_152, ka_152⟩, ⟨ma_153, ka_153⟩, ⟨ma_154, ka_154⟩, bv_155, ⟨ma_156, ka_156⟩, bv_157, bv_158, bv_163, bv_164, bv_165, ⟨ma_167, ka_167⟩, ⟨ma_168, ka_168⟩, ⟨ma_169, ka_169⟩, ⟨ma_170, ka_170⟩, ⟨ma_171, ka_171⟩, ⟨ma_172, ka_172⟩, ⟨ma_173, ka_173⟩, ⟨ma_174, ka_174⟩, bv_175, bv_177, bv_179, ⟨ma_180, ka_180⟩, bv_181, ⟨ma_182, ka_182⟩, ⟨ma_183, ka_183⟩, bv_184, ⟨ma_186, ka_186⟩, bv_187, ⟨ma_188, ka_188⟩, ⟨ma_189, ka_189⟩, bv_190, ⟨ma_192, ka_192⟩, ⟨ma_193, ka_193⟩, ⟨ma_194, ka_194⟩, bv_195, ⟨ma_196, ka_196⟩, ⟨ma_197, ka_197⟩, ⟨ma_198, ka_198⟩, ⟨ma_199, ka_199⟩, ⟨ma_200, ka_200⟩, ⟨ma_201, ka_201⟩, ⟨ma_202, ka_202⟩, ⟨ma_203, ka_203⟩, ⟨ma_204, ka_204⟩, bv_205, ⟨ma_207, ka_207⟩⟩ := un_12 (hG _ mo0) ko0
        have bv_159 : ((-2147483648) ≤ v_159.toInt ∧ v_159.toInt ≤ 2147483647) := ⟨i32_lo _, i32_hi _⟩
        have bv_160 : ((-2147483648) ≤ v_160.toInt ∧ v_160.toInt ≤ 2147483647) := ⟨i32_lo _, i32_hi _⟩
        have bv_161 : ((-2147483648) ≤ v_161.toInt ∧ v_161.toInt ≤ 2147483647) := ⟨i32_lo _, i32_hi _⟩
        have bv_162 : ((-2147483648) ≤ v_162.toInt ∧ v_162.toInt ≤ 2147483647) := ⟨i32_lo _, i32_hi _⟩
        have bv_166 : ((-2147483648) ≤ v_166.toInt ∧ v_166.toInt ≤ 2147483647) := ⟨i32_lo _, i32_hi _⟩
        have bv_176 : ((-2147483648) ≤ v_176.toInt ∧ v_176.toInt ≤ 2147483647) := ⟨i32_lo _, i32_hi _⟩
        have bv_178 : ((-2147483648) ≤ v_178.toInt ∧ v_178.toInt ≤ 2147483647) := ⟨i32_lo _, i32_hi _⟩
        have bv_185 : ((-2147483648) ≤ v_185.toInt ∧ v_185.toInt ≤ 2147483647) := ⟨i32_lo _, i32_hi _⟩
        have bv_191 : ((-2147483648) ≤ v_191.toInt ∧ v_191.toInt ≤ 2147483647) := ⟨i32_lo _, i32_hi _⟩
        have bv_206 : ((-2147483648) ≤ v_206.toInt ∧ v_206.toInt ≤ 2147483647) := ⟨i32_lo _, i32_hi _⟩
        obtain ⟨rfl, rfl, rfl, rfl, rfl, rfl, rfl, rfl, rfl, rfl, rfl, rfl, rfl, rfl, rfl, rfl, rfl, rfl, rfl, rfl, rfl, rfl, rfl, rfl, rfl, rfl, rfl, rfl, rfl, rfl, rfl⟩ := re_12 hfo_1 hfo_151 (hrA12 o0 ko0)
        obtain rfl := ri_12_3 hfo_1 hfo_151 (hfA12 o0 ko0 3 (by decide) (by decide) (by decide) (by decide))
        obtain rfl := ri_12_5 hfo_1 hfo_151 (hfA12 o0 ko0 5 (by decide) (by decide) (by decide) (by decide))
        obtain rfl := ri_12_12 hfo_1 hfo_151 (hfA12 o0 ko0 12 (by decide) (by decide) (by decide) (by decide))
        obtain rfl := ri_12_13 hfo_1 hfo_151 (hfA12 o0 ko0 13 (by decide) (by decide) (by decide) (by decide))
        obtain rfl := ri_12_14 hfo_1 hfo_151 (hfA12 o0 ko0 14 (by decide) (by decide) (by decide) (by decide))
        obtain rfl := ri_12_23 hfo_1 hfo_151 (hfA12 o0 ko0 23 (by decide) (by decide) (by decide) (by decide))
        obtain rfl := ri_12_25 hfo_1 hfo_151 (hfA12 o0 ko0 25 (by decide) (by decide) (by decide) (by decide))
        obtain rfl := ri_12_27 hfo_1 hfo_151 (hfA12 o0 ko0 27 (by decide) (by decide) (by decide) (by decide))
        obtain rfl := ri_12_29 hfo_1 hfo_151 (hfA12 o0 ko0 29 (by decide) (by decide) (by decide) (by decide))
        obtain rfl := ri_12_32 hfo_1 hfo_151 (hfA12 o0 ko0 32 (by decide) (by decide) (by decide) (by decide))
        obtain rfl := ri_12_33 hfo_1 hfo_151 (hfA12 o0 ko0 33 (by decide) (by decide) (by decide) (by decide))
        obtain rfl := ri_12_35 hfo_1 hfo_151 (hfA12 o0 ko0 35 (by decide) (by decide) (by decide) (by decide))
        obtain rfl := ri_12_38 hfo_1 hfo_151 (hfA12 o0 ko0 38 (by decide) (by decide) (by decide) (by decide))
        obtain rfl := ri_12_43 hfo_1 hfo_151 (hfA12 o0 ko0 43 (by decide) (by decide) (by decide) (by decide))
        obtain rfl := ri_12_53 hfo_1 hfo_151 (hfA12 o0 ko0 53 (by decide) (by decide) (by decide) (by decide))
        obtain rfl := ri_12_6 hfo_136 hfo_151 (hfa_148 o0 ko0 6 (by decide) (by decide))
        obtain rfl := ri_12_11 hfo_136 hfo_151 (hfa_148 o0 ko0 11 (by decide) (by decide))
        exact W.zret (v := x_144) (ty := .boolean) hx hb hr (zb_n (by constructor <;> omega)) (fun t ht hW => ⟨⟨x_144, f_145, rfl, ⟨hG, (by constructor <;> omega), hfr0, hrA12, hfA12, (by intro w6 z6 e6 d6; rw [hfo_1] at e6; rw [hfo_151] at d6; obtain rfl := Option.some.inj e6; obtain rfl := Option.some.inj d6; omega), (fun _ _ _ _ _ _ => Or.inl (by omega))⟩, by rw [ht]; exact hP, va_K.moved hW.alike hK, pl_in hD⟩, hS.F ht⟩) hS.2.2 dX12_takesS_73
    · skip
      rw [← Int32.toInt_inj, ti_0] at c_126
      refine lv_aload_n hx hb dX12_takesS_35 rfl (lv_at hl 1 rfl) ?_
      refine lv_iconst (v := 1) hx hb dX12_takesS_36 (by decide) ?_
      refine lv_aload_n hx hb dX12_takesS_37 rfl (lv_at hl 1 rfl) ?_
      refine tk_getP (D := (dC, dI)) (ci := 12) (v := .int v_72) (C := RX12) (T := TX12) (N := 56) hx hb hU inlX12 hown hK hP mo0 hfo_65 rfl 6 (by decide) (hU _ wd_566) (fun _ h9 => h9) rfl dX12_takesS_38 ?_
      refine tk_ViP (As := [.int 1, .int v_72]) (rest := []) (n := 2) hx hb hml hown hU hN hZ (s_X12_bad_k12 l (dC, dI) cI cL cZ cR cG cH Z kd L f_59 hG o0 mo0 ko0 1 v_72) wd_602 wd_603 wd_604 wd_5 wd_605 (by decide +kernel) ⟨Nat.le_of_ble_eq_true rfl, Nat.le_of_ble_eq_true rfl⟩ hK hP hD hS mo0 hfo_65 12 rfl rfl rfl hl.1 rfl (Nat.le_of_ble_eq_true rfl) dX12_takesS_41 ⟨Nat.le_of_ble_eq_true rfl, Nat.le_of_ble_eq_true rfl⟩ (fun x_208 f_209 H locs hw hP hD hS => ?_)
      obtain ⟨hG, bx_208, hkc_210, hra_211, hfa_212⟩ := hw
      have hfr0 : ∀ b, kd b ≠ 12 → f_209 b = f b := fun b q12 => (hkc_210 b q12).trans (hfr0 b q12)
      have hrA12 : ∀ b, kd b = 12 → ∀ j, fldR (f_209 b) j = fldR (f b) j := fun b kb j => (hra_211 b kb j).trans (hrA12 b kb j)
      have hfA12 : ∀ b, kd b = 12 → ∀ j, j ≠ 6 → j ≠ 7 → j ≠ 8 → j ≠ 11 → fldI (f_209 b) j = fldI (f b) j := fun b kb j n6 n7 n8 n11 => (hfa_212 b kb j n7 n8).trans (hfA12 b kb j n6 n7 n8 n11)
      obtain ⟨a_215, a_216, a_217, v_218, a_219, v_220, v_221, v_222, v_223, v_224, v_225, v_226, v_227, v_228, v_229, a_230, a_231, a_232, a_233, a_234, a_235, a_236, a_237, v_238, v_239, v_240, v_241, v_242, a_243, v_244, a_245, a_246, v_247, v_248, a_249, v_250, a_251, a_252, v_253, v_254, a_255, a_256, a_257, v_258, a_259, a_260, a_261, a_262, a_263, a_264, a_265, a_266, a_267, v_268, v_269, a_270, hfo_214, ⟨ma_215, ka_215⟩, ⟨ma_216, ka_216⟩, ⟨ma_217, ka_217⟩, bv_218, ⟨ma_219, ka_219⟩, bv_220, bv_221, bv_226, bv_227, bv_228, ⟨ma_230, ka_230⟩, ⟨ma_231, ka_231⟩, ⟨ma_232, ka_232⟩, ⟨ma_233, ka_233⟩, ⟨ma_234, ka_234⟩, ⟨ma_235, ka_235⟩, ⟨ma_236, ka_236⟩, ⟨ma_237, ka_237⟩, bv_238, bv_240, bv_242, ⟨ma_243, ka_243⟩, bv_244, ⟨ma_245, ka_245⟩, ⟨ma_246, ka_246⟩, bv_247, ⟨ma_249, ka_249⟩, bv_250, ⟨ma_251, ka_251⟩, ⟨ma_252, ka_252⟩, bv_253, ⟨ma_255, ka_255⟩, ⟨ma_256, ka_256⟩, ⟨ma_257, ka_257⟩, bv_258, ⟨ma_259, ka_259⟩, ⟨ma_260, ka_260⟩, ⟨ma_261, ka_261⟩, ⟨ma_262, ka_262⟩, ⟨ma_263, ka_263⟩, ⟨ma_264, ka_264⟩, ⟨ma_265, ka_265⟩, ⟨ma_266, ka_266⟩, ⟨ma_267, ka_267⟩, bv_268, ⟨ma_270, ka_270⟩⟩ := un_12 (hG _ mo0) ko0
      have bv_222 : ((-2147483648) ≤ v_222.toInt ∧ v_222.toInt ≤ 2147483647) := ⟨i32_lo _, i32_hi _⟩
      have bv_223 : ((-2147483648) ≤ v_223.toInt ∧ v_223.toInt ≤ 2147483647) := ⟨i32_lo _, i32_hi _⟩
      have bv_224 : ((-2147483648) ≤ v_224.toInt ∧ v_224.toInt ≤ 2147483647) := ⟨i32_lo _, i32_hi _⟩
      have bv_225 : ((-2147483648) ≤ v_225.toInt ∧ v_225.toInt ≤ 2147483647) := ⟨i32_lo _, i32_hi _⟩
      have bv_229 : ((-2147483648) ≤ v_229.toInt ∧ v_229.toInt ≤ 2147483647) := ⟨i32_lo _, i32_hi _⟩
      have bv_239 : ((-2147483648) ≤ v_239.toInt ∧ v_239.toInt ≤ 2147483647) := ⟨i32_lo _, i32_hi _⟩
      have bv_241 : ((-2147483648) ≤ v_241.toInt ∧ v_241.toInt ≤ 2147483647) := ⟨i32_lo _, i32_hi _⟩
      have bv_248 : ((-2147483648) ≤ v_248.toInt ∧ v_248.toInt ≤ 2147483647) := ⟨i32_lo _, i32_hi _⟩
      have bv_254 : ((-2147483648) ≤ v_254.toInt ∧ v_254.toInt ≤ 2147483647) := ⟨i32_lo _, i32_hi _⟩
      have bv_269 : ((-2147483648) ≤ v_269.toInt ∧ v_269.toInt ≤ 2147483647) := ⟨i32_lo _, i32_hi _⟩
      obtain ⟨rfl, rfl, rfl, rfl, rfl, rfl, rfl, rfl, rfl, rfl, rfl, rfl, rfl, rfl, rfl, rfl, rfl, rfl, rfl, rfl, rfl, rfl, rfl, rfl, rfl, rfl, rfl, rfl, rfl, rfl, rfl⟩ := re_12 hfo_1 hfo_214 (hrA12 o0 ko0)
      obtain rfl := ri_12_3 hfo_1 hfo_214 (hfA12 o0 ko0 3 (by decide) (by decide) (by decide) (by decide))
      obtain rfl := ri_12_5 hfo_1 hfo_214 (hfA12 o0 ko0 5 (by decide) (by decide) (by decide) (by decide))
      obtain rfl := ri_12_12 hfo_1 hfo_214 (hfA12 o0 ko0 12 (by decide) (by decide) (by decide) (by decide))
      obtain rfl := ri_12_13 hfo_1 hfo_214 (hfA12 o0 ko0 13 (by decide) (by decide) (by decide) (by decide))
      obtain rfl := ri_12_14 hfo_1 hfo_214 (hfA12 o0 ko0 14 (by decide) (by decide) (by decide) (by decide))
      obtain rfl := ri_12_23 hfo_1 hfo_214 (hfA12 o0 ko0 23 (by decide) (by decide) (by decide) (by decide))
      obtain rfl := ri_12_25 hfo_1 hfo_214 (hfA12 o0 ko0 25 (by decide) (by decide) (by decide) (by decide))
      obtain rfl := ri_12_27 hfo_1 hfo_214 (hfA12 o0 ko0 27 (by decide) (by decide) (by decide) (by decide))
      obtain rfl := ri_12_29 hfo_1 hfo_214 (hfA12 o0 ko0 29 (by decide) (by decide) (by decide) (by decide))
      obtain rfl := ri_12_32 hfo_1 hfo_214 (hfA12 o0 ko0 32 (by decide) (by decide) (by decide) (by decide))
      obtain rfl := ri_12_33 hfo_1 hfo_214 (hfA12 o0 ko0 33 (by decide) (by decide) (by decide) (by decide))
      obtain rfl := ri_12_35 hfo_1 hfo_214 (hfA12 o0 ko0 35 (by decide) (by decide) (by decide) (by decide))
      obtain rfl := ri_12_38 hfo_1 hfo_214 (hfA12 o0 ko0 38 (by decide) (by decide) (by decide) (by decide))
      obtain rfl := ri_12_43 hfo_1 hfo_214 (hfA12 o0 ko0 43 (by decide) (by decide) (by decide) (by decide))
      obtain rfl := ri_12_53 hfo_1 hfo_214 (hfA12 o0 ko0 53 (by decide) (by decide) (by decide) (by decide))
      obtain rfl := ri_12_6 hfo_65 hfo_214 (hfa_212 o0 ko0 6 (by decide) (by decide))
      obtain rfl := ri_12_11 hfo_65 hfo_214 (hfa_212 o0 ko0 11 (by decide) (by decide))
      exact W.zret (v := x_208) (ty := .boolean) hx hb hr (zb_n (by constructor <;> omega)) (fun t ht hW => ⟨⟨x_208, f_209, rfl, ⟨hG, (by constructor <;> omega), hfr0, hrA12, hfA12, (by intro w6 z6 e6 d6; rw [hfo_1] at e6; rw [hfo_214] at d6; obtain rfl := Option.some.inj e6; obtain rfl := Option.some.inj d6; omega), (fun _ _ _ _ _ _ => Or.inl (by omega))⟩, by rw [ht]; exact hP, va_K.moved hW.alike hK, pl_in hD⟩, hS.F ht⟩) hS.2.2 dX12_takesS_44
  · skip
    rw [← Int32.toInt_inj, ti_48] at c_122
    refine lv_aload_n hx hb dX12_takesS_11 rfl (lv_at hl 1 rfl) ?_
    refine lv_iconst (v := 0) hx hb dX12_takesS_12 (by decide) ?_
    refine tk_putP (D := (dC, dI)) (ci := 12) (v := .int 0) (ty := .int) (C := RX12) (T := TX12) (N := 56) hx hb hU inlX12 tyX12 tyX12_ok nmX12 hown hK hP hD hS mo0 hfo_65 rfl 11 (by decide) (hU _ wd_617) (fun _ h9 => h9) rfl (by decide +kernel) rfl rfl (Nat.le_of_ble_eq_true rfl) dX12_takesS_13 (fun H locs hP hD hS => ?_)
    obtain ⟨f_272, ef_272⟩ : ∃ y : Nat → va_E, y = va_up f_59 o0 (.inr (12, [.ref a_2, .ref a_3, .ref a_4, .int v_5, .ref a_6, .int v_7, .int v_72, .int v_73, .int v_74, .int v_75, .int v_76, .int 0, .int v_14, .int v_15, .int v_16, .ref a_17, .ref a_18, .ref a_19, .ref a_20, .ref a_21, .ref a_22, .ref a_23, .ref a_24, .int v_25, .int v_90, .int v_27, .int v_92, .int v_29, .ref a_30, .int v_31, .ref a_32, .ref a_33, .int v_34, .int v_35, .ref a_36, .int v_37, .ref a_38, .ref a_39, .int v_40, .int v_105, .ref a_42, .ref a_43, .ref a_44, .int v_45, .ref a_46, .ref a_47, .ref a_48, .ref a_49, .ref a_50, .ref a_51, .ref a_52, .ref a_53, .ref a_54, .int v_55, .int v_120, .ref a_57])) := ⟨_, rfl⟩
    have hP : va_P (dC, dI) vwCl (va_pl L f_272) H := by rw [ef_272]; exact hP
    have hD : va_D (fun q => q ∈ L) (va_pl L f_272) := by rw [ef_272]; exact hD
    have hG : GI (okc cI cL cZ cR cG cH L kd) kd L f_272 := by rw [ef_272]; exact hG.set o0 (mk_12 ko0 ⟨a_2, a_3, a_4, v_5, a_6, v_7, v_72, v_73, v_74, v_75, v_76, 0, v_14, v_15, v_16, a_17, a_18, a_19, a_20, a_21, a_22, a_23, a_24, v_25, v_90, v_27, v_92, v_29, a_30, v_31, a_32, a_33, v_34, v_35, a_36, v_37, a_38, a_39, v_40, v_105, a_42, a_43, a_44, v_45, a_46, a_47, a_48, a_49, a_50, a_51, a_52, a_53, a_54, v_55, v_120, a_57, rfl, ⟨ma_2, ka_2⟩, ⟨ma_3, ka_3⟩, ⟨ma_4, ka_4⟩, (by constructor <;> omega), ⟨ma_6, ka_6⟩, (by constructor <;> omega), (by constructor <;> omega), (by decide), (by constructor <;> omega), (by constructor <;> omega), ⟨ma_17, ka_17⟩, ⟨ma_18, ka_18⟩, ⟨ma_19, ka_19⟩, ⟨ma_20, ka_20⟩, ⟨ma_21, ka_21⟩, ⟨ma_22, ka_22⟩, ⟨ma_23, ka_23⟩, ⟨ma_24, ka_24⟩, (by constructor <;> omega), (by constructor <;> omega), (by constructor <;> omega), ⟨ma_30, ka_30⟩, (by constructor <;> omega), ⟨ma_32, ka_32⟩, ⟨ma_33, ka_33⟩, (by constructor <;> omega), ⟨ma_36, ka_36⟩, (by constructor <;> omega), ⟨ma_38, ka_38⟩, ⟨ma_39, ka_39⟩, (by constructor <;> omega), ⟨ma_42, ka_42⟩, ⟨ma_43, ka_43⟩, ⟨ma_44, ka_44⟩, (by constructor <;> omega), ⟨ma_46, ka_46⟩, ⟨ma_47, ka_47⟩, ⟨ma_48, ka_48⟩, ⟨ma_49, ka_49⟩, ⟨ma_50, ka_50⟩, ⟨ma_51, ka_51⟩, ⟨ma_52, ka_52⟩, ⟨ma_53, ka_53⟩, ⟨ma_54, ka_54⟩, (by constructor <;> omega), ⟨ma_57, ka_57⟩⟩)
    have hfr0 : ∀ b, kd b ≠ 12 → f_272 b = f b := fun b q12 => (congrFun ef_272 b).trans ((up_ne (fun e9 => q12 (by rw [e9]; exact ko0))).trans (hfr0 b q12))
    have hrA12 : ∀ b, kd b = 12 → ∀ j, fldR (f_272 b) j = fldR (f b) j := fun b kb j => ((congrArg (fun x => fldR x j) (congrFun ef_272 b)).trans (fra_up (fun j => by rw [hfo_65]; exact fr_set (k := 11) rfl rfl j) j b)).trans (hrA12 b kb j)
    have hfA12 : ∀ b, kd b = 12 → ∀ j, j ≠ 6 → j ≠ 7 → j ≠ 8 → j ≠ 11 → fldI (f_272 b) j = fldI (f b) j := fun b kb j n6 n7 n8 n11 => ((congrArg (fun x => fldI x j) (congrFun ef_272 b)).trans (fia_up (fun h9 => by rw [hfo_65]; exact fi_set (k := 11) rfl h9) n11 b)).trans (hfA12 b kb j n6 n7 n8 n11)
    have hfo_273 : f_272 o0 = .inr (12, [.ref a_2, .ref a_3, .ref a_4, .int v_5, .ref a_6, .int v_7, .int v_72, .int v_73, .int v_74, .int v_75, .int v_76, .int 0, .int v_14, .int v_15, .int v_16, .ref a_17, .ref a_18, .ref a_19, .ref a_20, .ref a_21, .ref a_22, .ref a_23, .ref a_24, .int v_25, .int v_90, .int v_27, .int v_92, .int v_29, .ref a_30, .int v_31, .ref a_32, .ref a_33, .int v_34, .int v_35, .ref a_36, .int v_37, .ref a_38, .ref a_39, .int v_40, .int v_105, .ref a_42, .ref a_43, .ref a_44, .int v_45, .ref a_46, .ref a_47, .ref a_48, .ref a_49, .ref a_50, .ref a_51, .ref a_52, .ref a_53, .ref a_54, .int v_55, .int v_120, .ref a_57]) := by rw [ef_272]; exact up_self
    have hclc_274 : (0 ≤ v_72.toInt ∧ v_72.toInt ≤ 599) := by constructor <;> omega
    refine lv_aload_n hx hb dX12_takesS_16 rfl (lv_at hl 1 rfl) ?_
    refine lv_dup hx hb dX12_takesS_17 rfl ?_
    refine tk_getP (D := (dC, dI)) (ci := 12) (v := .int v_72) (C := RX12) (T := TX12) (N := 56) hx hb hU inlX12 hown hK hP mo0 hfo_273 rfl 6 (by decide) (hU _ wd_566) (fun _ h9 => h9) rfl dX12_takesS_18 ?_
    refine lv_iconst (v := 1) hx hb dX12_takesS_21 (by decide) ?_
    refine lv_iadd hx hb dX12_takesS_22 ?_
    refine lv_topi (fun x_275 ex_275 => ?_)
    have hx_275 : x_275.toInt = v_72.toInt + 1 := by rw [ex_275, ad_I (by rw [ti_1]; omega) (by rw [ti_1]; omega), ti_1]
    have bx_275 : (1 ≤ x_275.toInt ∧ x_275.toInt ≤ 600) := by constructor <;> omega
    refine tk_putP (D := (dC, dI)) (ci := 12) (v := .int x_275) (ty := .int) (C := RX12) (T := TX12) (N := 56) hx hb hU inlX12 tyX12 tyX12_ok nmX12 hown hK hP hD hS mo0 hfo_273 rfl 6 (by decide) (hU _ wd_566) (fun _ h9 => h9) rfl (by decide +kernel) rfl rfl (Nat.le_of_ble_eq_true rfl) dX12_takesS_23 (fun H locs hP hD hS => ?_)
    obtain ⟨f_277, ef_277⟩ : ∃ y : Nat → va_E, y = va_up f_272 o0 (.inr (12, [.ref a_2, .ref a_3, .ref a_4, .int v_5, .ref a_6, .int v_7, .int x_275, .int v_73, .int v_74, .int v_75, .int v_76, .int 0, .int v_14, .int v_15, .int v_16, .ref a_17, .ref a_18, .ref a_19, .ref a_20, .ref a_21, .ref a_22, .ref a_23, .ref a_24, .int v_25, .int v_90, .int v_27, .int v_92, .int v_29, .ref a_30, .int v_31, .ref a_32, .ref a_33, .int v_34, .int v_35, .ref a_36, .int v_37, .ref a_38, .ref a_39, .int v_40, .int v_105, .ref a_42, .ref a_43, .ref a_44, .int v_45, .ref a_46, .ref a_47, .ref a_48, .ref a_49, .ref a_50, .ref a_51, .ref a_52, .ref a_53, .ref a_54, .int v_55, .int v_120, .ref a_57])) := ⟨_, rfl⟩
    have hP : va_P (dC, dI) vwCl (va_pl L f_277) H := by rw [ef_277]; exact hP
    have hD : va_D (fun q => q ∈ L) (va_pl L f_277) := by rw [ef_277]; exact hD
    have hG : GI (okc cI cL cZ cR cG cH L kd) kd L f_277 := by rw [ef_277]; exact hG.set o0 (mk_12 ko0 ⟨a_2, a_3, a_4, v_5, a_6, v_7, x_275, v_73, v_74, v_75, v_76, 0, v_14, v_15, v_16, a_17, a_18, a_19, a_20, a_21, a_22, a_23, a_24, v_25, v_90, v_27, v_92, v_29, a_30, v_31, a_32, a_33, v_34, v_35, a_36, v_37, a_38, a_39, v_40, v_105, a_42, a_43, a_44, v_45, a_46, a_47, a_48, a_49, a_50, a_51, a_52, a_53, a_54, v_55, v_120, a_57, rfl, ⟨ma_2, ka_2⟩, ⟨ma_3, ka_3⟩, ⟨ma_4, ka_4⟩, (by constructor <;> omega), ⟨ma_6, ka_6⟩, (by constructor <;> omega), (by constructor <;> omega), (by decide), (by constructor <;> omega), (by constructor <;> omega), ⟨ma_17, ka_17⟩, ⟨ma_18, ka_18⟩, ⟨ma_19, ka_19⟩, ⟨ma_20, ka_20⟩, ⟨ma_21, ka_21⟩, ⟨ma_22, ka_22⟩, ⟨ma_23, ka_23⟩, ⟨ma_24, ka_24⟩, (by constructor <;> omega), (by constructor <;> omega), (by constructor <;> omega), ⟨ma_30, ka_30⟩, (by constructor <;> omega), ⟨ma_32, ka_32⟩, ⟨ma_33, ka_33⟩, (by constructor <;> omega), ⟨ma_36, ka_36⟩, (by constructor <;> omega), ⟨ma_38, ka_38⟩, ⟨ma_39, ka_39⟩, (by constructor <;> omega), ⟨ma_42, ka_42⟩, ⟨ma_43, ka_43⟩, ⟨ma_44, ka_44⟩, (by constructor <;> omega), ⟨ma_46, ka_46⟩, ⟨ma_47, ka_47⟩, ⟨ma_48, ka_48⟩, ⟨ma_49, ka_49⟩, ⟨ma_50, ka_50⟩, ⟨ma_51, ka_51⟩, ⟨ma_52, ka_52⟩, ⟨ma_53, ka_53⟩, ⟨ma_54, ka_54⟩, (by constructor <;> omega), ⟨ma_57, ka_57⟩⟩)
    have hfr0 : ∀ b, kd b ≠ 12 → f_277 b = f b := fun b q12 => (congrFun ef_277 b).trans ((up_ne (fun e9 => q12 (by rw [e9]; exact ko0))).trans (hfr0 b q12))
    have hrA12 : ∀ b, kd b = 12 → ∀ j, fldR (f_277 b) j = fldR (f b) j := fun b kb j => ((congrArg (fun x => fldR x j) (congrFun ef_277 b)).trans (fra_up (fun j => by rw [hfo_273]; exact fr_set (k := 6) rfl rfl j) j b)).trans (hrA12 b kb j)
    have hfA12 : ∀ b, kd b = 12 → ∀ j, j ≠ 6 → j ≠ 7 → j ≠ 8 → j ≠ 11 → fldI (f_277 b) j = fldI (f b) j := fun b kb j n6 n7 n8 n11 => ((congrArg (fun x => fldI x j) (congrFun ef_277 b)).trans (fia_up (fun h9 => by rw [hfo_273]; exact fi_set (k := 6) rfl h9) n6 b)).trans (hfA12 b kb j n6 n7 n8 n11)
    have hfo_278 : f_277 o0 = .inr (12, [.ref a_2, .ref a_3, .ref a_4, .int v_5, .ref a_6, .int v_7, .int x_275, .int v_73, .int v_74, .int v_75, .int v_76, .int 0, .int v_14, .int v_15, .int v_16, .ref a_17, .ref a_18, .ref a_19, .ref a_20, .ref a_21, .ref a_22, .ref a_23, .ref a_24, .int v_25, .int v_90, .int v_27, .int v_92, .int v_29, .ref a_30, .int v_31, .ref a_32, .ref a_33, .int v_34, .int v_35, .ref a_36, .int v_37, .ref a_38, .ref a_39, .int v_40, .int v_105, .ref a_42, .ref a_43, .ref a_44, .int v_45, .ref a_46, .ref a_47, .ref a_48, .ref a_49, .ref a_50, .ref a_51, .ref a_52, .ref a_53, .ref a_54, .int v_55, .int v_120, .ref a_57]) := by rw [ef_277]; exact up_self
    refine lv_iconst (v := 1) hx hb dX12_takesS_26 (by decide) ?_
    obtain ⟨g_280, hfo_279, hbg_280⟩ := un_576 (hG _ ma_3) ka_3
    exact W.zret (v := 1) (ty := .boolean) hx hb hr rfl (fun t ht hW => ⟨⟨1, f_277, rfl, ⟨hG, (by decide), hfr0, hrA12, hfA12, (by intro w6 z6 e6 d6; rw [hfo_1] at e6; rw [hfo_278] at d6; obtain rfl := Option.some.inj e6; obtain rfl := Option.some.inj d6; (try rw [ti_1]) <;> omega), (fun b9 g9 z9 h1 h2 h3 => Or.inr (by rw [hfo_278] at h1 h3; obtain rfl := Option.some.inj h1; obtain rfl := Option.some.inj h3; rw [hfo_279] at h2; cases h2; exact (by rw [show ((0 : Int32)).toInt = 0 from rfl]; exact (hbg_280.1 0 (by decide) (by decide) (by decide)).1)))⟩, by rw [ht]; exact hP, va_K.moved hW.alike hK, pl_in hD⟩, hS.F ht⟩) hS.2.2 dX12_takesS_27
