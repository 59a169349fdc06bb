set_option maxHeartbeats 8000000 in
set_option maxRecDepth 100000 in
theorem s_X12_isIn (l : Launch) (D : va_G) (cI cL cZ cR cG cH : ClassId) (Z : zT) (kd : Nat → Nat) (L : List Nat) (f : Nat → va_E) (hG : GI (okc cI cL cZ cR cG cH L kd) kd L f) (p0 : Int32) (p1 : Int32) (p2 : Int32) : mPI l D cI cL cZ cR cG cH Z yX12_isIn cX12_isIn 3 (some .boolean) 0 0 [.int p0, .int p1, .int p2] L f (fun (r : Int32) (f9 : Nat → va_E) => f = f9 ∧ (0 ≤ r.toInt ∧ r.toInt ≤ 1) ∧ ((r.toInt = 0 ∧ (p0.toInt < p1.toInt ∨ p2.toInt < p0.toInt)) ∨ (r.toInt = 1 ∧ p1.toInt ≤ p0.toInt ∧ p0.toInt ≤ p2.toInt))) := by
  obtain ⟨dC, dI⟩ := D
  refine Met.ofW (cc := cX12_isIn) (maxL := 3) (ret := (some .boolean)) (by decide) rfl ?_
  intro p e s m args below meth c s₁ B hml hv
  obtain ⟨rfl, hP, hK, hD0, hN, hZ⟩ := hv
  have hx := B.exec
  have hb := B.bytes
  have hr := B.returns
  have hU : ∀ w ∈ wsU, w.before _ s = true := fun w h => atoms_spec (ws := wU yX12_isIn cX12_isIn 3 (some .boolean)) B.pre w (List.mem_cons_of_mem _ h)
  have hown : s.vm.findClass RX12 = some m.cls := findClass_of_methodNamed B.named
  have hlocks := B.notSynchronized
  have hD := pl_in hD0
  have hS : va_S (fun q => q ∈ L) s.heap s.heap [] := va_S.rf
  have hl := lv_entry ([.int p0, .int p1, .int p2]) (n := 3) (Nat.le_of_ble_eq_true rfl)
  rw [lg_entry_eq]
  generalize (lg_sl ([.int p0, .int p1, .int p2]) ++ List.replicate (3 - (lg_sl ([.int p0, .int p1, .int p2])).length) Slot.unset).toArray = ls at hl ⊢
  have hl : lv_has ls 3 [(0, .int p0), (1, .int p1), (2, .int p2)] := hl
  have bp0 : ((-2147483648) ≤ p0.toInt ∧ p0.toInt ≤ 2147483647) := ⟨i32_lo _, i32_hi _⟩
  have bp1 : ((-2147483648) ≤ p1.toInt ∧ p1.toInt ≤ 2147483647) := ⟨i32_lo _, i32_hi _⟩
  have bp2 : ((-2147483648) ≤ p2.toInt ∧ p2.toInt ≤ 2147483647) := ⟨i32_lo _, i32_hi _⟩
  refine lv_iload_n hx hb dX12_isIn_0 rfl (lv_at hl 0 rfl) ?_
  refine lv_iload_n hx hb dX12_isIn_1 rfl (lv_at hl 1 rfl) ?_
  refine lv_icmp_lt (tgt := 14) hx hb dX12_isIn_2 (by decide) (fun c_1 => ?_) (fun c_1 => ?_)
  · skip
    rw [Int32.lt_iff_toInt_lt] at c_1
    refine lv_iconst (v := 0) hx hb dX12_isIn_14 (by decide) ?_
    exact W.zret (v := 0) (ty := .boolean) hx hb hr rfl (fun t ht hW => ⟨⟨0, f, rfl, ⟨rfl, (by decide), (by (try rw [ti_0]) <;> omega)⟩, by rw [ht]; exact hP, va_K.moved hW.alike hK, pl_in hD⟩, hS.F ht⟩) hS.2.2 dX12_isIn_15
  · skip
    rw [Int32.lt_iff_toInt_lt] at c_1
    refine lv_iload_n hx hb dX12_isIn_5 rfl (lv_at hl 0 rfl) ?_
    refine lv_iload_n hx hb dX12_isIn_6 rfl (lv_at hl 2 rfl) ?_
    refine lv_icmp_gt (tgt := 14) hx hb dX12_isIn_7 (by decide) (fun c_2 => ?_) (fun c_2 => ?_)
    · skip
      rw [Int32.lt_iff_toInt_lt] at c_2
      refine lv_iconst (v := 0) hx hb dX12_isIn_14 (by decide) ?_
      exact W.zret (v := 0) (ty := .boolean) hx hb hr rfl (fun t ht hW => ⟨⟨0, f, rfl, ⟨rfl, (by decide), (by (try rw [ti_0]) <;> omega)⟩, by rw [ht]; exact hP, va_K.moved hW.alike hK, pl_in hD⟩, hS.F ht⟩) hS.2.2 dX12_isIn_15
    · skip
      rw [Int32.lt_iff_toInt_lt] at c_2
      refine lv_iconst (v := 1) hx hb dX12_isIn_10 (by decide) ?_
      refine lv_goto (tgt := 15) hx hb dX12_isIn_11 (by decide) ?_
      exact W.zret (v := 1) (ty := .boolean) hx hb hr rfl (fun t ht hW => ⟨⟨1, f, rfl, ⟨rfl, (by decide), (by (try rw [ti_1]) <;> omega)⟩, by rw [ht]; exact hP, va_K.moved hW.alike hK, pl_in hD⟩, hS.F ht⟩) hS.2.2 dX12_isIn_15
set_option maxHeartbeats 8000000 in
set_option maxRecDepth 100000 in
theorem s_X12_count (l : Launch) (D : va_G) (cI cL cZ cR cG cH : ClassId) (Z : zT) (kd : Nat → Nat) (L : List Nat) (f : Nat → va_E) (hG : GI (okc cI cL cZ cR cG cH L kd) kd L f) (p0 : Int32) : mPI l D cI cL cZ cR cG cH Z yX12_count cX12_count 3 (some .int) 0 0 [.int p0] L f (fun (r : Int32) (f9 : Nat → va_E) => f = f9 ∧ ((-2147483648) ≤ r.toInt ∧ r.toInt ≤ 2147483647)) := by
  obtain ⟨dC, dI⟩ := D
  refine Met.ofW (cc := cX12_count) (maxL := 3) (ret := (some .int)) (by decide) rfl ?_
  intro p e s m args below meth c s₁ B hml hv
  obtain ⟨rfl, hP, hK, hD0, hN, hZ⟩ := hv
  have hx := B.exec
  have hb := B.bytes
  have hr := B.returns
  have hU : ∀ w ∈ wsU, w.before _ s = true := fun w h => atoms_spec (ws := wU yX12_count cX12_count 3 (some .int)) B.pre w (List.mem_cons_of_mem _ h)
  have hown : s.vm.findClass RX12 = some m.cls := findClass_of_methodNamed B.named
  have hlocks := B.notSynchronized
  have hD := pl_in hD0
  have hS : va_S (fun q => q ∈ L) s.heap s.heap [] := va_S.rf
  have hl := lv_entry ([.int p0]) (n := 3) (Nat.le_of_ble_eq_true rfl)
  rw [lg_entry_eq]
  generalize (lg_sl ([.int p0]) ++ List.replicate (3 - (lg_sl ([.int p0])).length) Slot.unset).toArray = ls at hl ⊢
  have hl : lv_has ls 3 [(0, .int p0)] := hl
  have bp0 : ((-2147483648) ≤ p0.toInt ∧ p0.toInt ≤ 2147483647) := ⟨i32_lo _, i32_hi _⟩
  refine lv_iconst (v := 0) hx hb dX12_count_0 (by decide) ?_
  refine lv_istore_n (lv' := [(1, .int 0), (0, .int p0)]) hx hb dX12_count_1 rfl hl (by decide) rfl (fun ls hl => ?_)
  refine lv_iconst (v := 0) hx hb dX12_count_2 (by decide) ?_
  refine lv_istore_n (lv' := [(2, .int 0), (1, .int 0), (0, .int p0)]) hx hb dX12_count_3 rfl hl (by decide) rfl (fun ls hl => ?_)
  have hloop_10 : ∀ (n : Nat), ∀ (y_11 : Int32), (0 ≤ y_11.toInt ∧ y_11.toInt ≤ 10) → ∀ (y_12 : Int32), ((-2147483648) ≤ y_12.toInt ∧ y_12.toInt ≤ 2147483647) → 10 - y_11.toInt < (n : Int) → ∀ (ls : Array Slot), lv_has ls 3 [(2, .int y_11), (1, .int y_12), (0, .int p0)] → W p l e (headSpec (wU yX12_count cX12_count 3 (some .int)) { frames := 0, cells := 0, slots := 0, locals := 0 }).room s m [.int p0].toArray below meth c s.heap [] 0 0 (MQ below (va_Qi (fun (r : Int32) (f9 : Nat → va_E) => f = f9 ∧ ((-2147483648) ≤ r.toInt ∧ r.toInt ≤ 2147483647)) (qP (dC, dI) cI cL cZ cR cG cH L) (fun q => q ∈ L)) [.int p0].toArray s 0 0 (fun q => q ∈ L)) (F0 m 4 ls []) := by
    intro n
    induction n with
    | zero => intro y_11 by_11 y_12 by_12 hmuhloop_10 ls hl; exfalso; omega
    | succ n ih_hloop_10 =>
      intro y_11 by_11 y_12 by_12 hmuhloop_10 ls hl
      refine lv_iload_n hx hb dX12_count_4 rfl (lv_at hl 0 rfl) ?_
      refine lv_bipush (v := 10) hx hb dX12_count_5 (by decide) ?_
      refine lv_icmp_ge (tgt := 24) hx hb dX12_count_7 (by decide) (fun c_13 => ?_) (fun c_13 => ?_)
      · skip
        rw [Int32.le_iff_toInt_le, ti_10] at c_13
        refine lv_iload_n hx hb dX12_count_24 rfl (lv_at hl 1 rfl) ?_
        exact W.iret (v := y_12) hx hb hr (fun t ht hW => ⟨⟨y_12, f, rfl, ⟨rfl, (by constructor <;> omega)⟩, by rw [ht]; exact hP, va_K.moved hW.alike hK, pl_in hD⟩, hS.F ht⟩) hS.2.2 dX12_count_25
      · skip
        rw [Int32.le_iff_toInt_le, ti_10] at c_13
        refine lv_iload_n hx hb dX12_count_10 rfl (lv_at hl 1 rfl) ?_
        refine lv_iload_n hx hb dX12_count_11 rfl (lv_at hl 2 rfl) ?_
        refine lv_iload_n hx hb dX12_count_12 rfl (lv_at hl 0 rfl) ?_
        refine lv_ishr hx hb dX12_count_13 ?_
        refine lv_topi (fun x_14 ex_14 => ?_)
        have bx_14 : ((-2147483648) ≤ x_14.toInt ∧ x_14.toInt ≤ 2147483647) := ⟨i32_lo _, i32_hi _⟩
        refine lv_iconst (v := 1) hx hb dX12_count_14 (by decide) ?_
        refine lv_iand hx hb dX12_count_15 ?_
        refine lv_topi (fun x_15 ex_15 => ?_)
        have bx_15 : (0 ≤ x_15.toInt ∧ x_15.toInt ≤ 1) := by rw [ex_15]; have h8 := an_C x_14 (m := 1) (by decide); rw [ti_1] at h8; exact h8
        refine lv_iadd hx hb dX12_count_16 ?_
        refine lv_topi (fun x_16 ex_16 => ?_)
        have bx_16 : ((-2147483648) ≤ x_16.toInt ∧ x_16.toInt ≤ 2147483647) := ⟨i32_lo _, i32_hi _⟩
        refine lv_istore_n (lv' := [(1, .int x_16), (2, .int y_11), (0, .int p0)]) hx hb dX12_count_17 rfl hl (by decide) rfl (fun ls hl => ?_)
        obtain ⟨x_17, ex_17⟩ : ∃ y : Int32, y_11 + 1 = y := ⟨_, rfl⟩
        have hx_17 : x_17.toInt = y_11.toInt + 1 := by rw [← ex_17, ad_I (by rw [ti_1]; omega) (by rw [ti_1]; omega), ti_1]
        have bx_17 : (1 ≤ x_17.toInt ∧ x_17.toInt ≤ 10) := by constructor <;> omega
        refine lv_iinc (v := x_17) (lv' := [(2, .int x_17), (1, .int x_16), (0, .int p0)]) hx hb dX12_count_18 hl (k := 1) rfl ex_17 (by decide) rfl (fun ls hl => ?_)
        refine lv_goto (tgt := 4) hx hb dX12_count_21 (by decide) ?_
        exact ih_hloop_10 x_17 (by constructor <;> omega) x_16 (by constructor <;> omega) (by omega) ls (lv_sub hl [0, 1, 2] rfl)
  exact hloop_10 11 0 (by decide) 0 (by decide) (by (try rw [ti_0]) <;> omega) ls hl
set_option maxHeartbeats 8000000 in
set_option maxRecDepth 100000 in
theorem s_X12_feed_k12 (l : Launch) (D : va_G) (cI cL cZ cR cG cH : ClassId) (Z : zT) (kd : Nat → Nat) (L : List Nat) (f : Nat → va_E) (hG : GI (okc cI cL cZ cR cG cH L kd) kd L f) (o0 : Nat) (mo0 : o0 ∈ L) (ko0 : kd o0 = 12) (p1 : Int32) (p2 : Int32) (p3 : Int32) (p4 : Int32) (p5 : Int32) : mPI l D cI cL cZ cR cG cH Z yX12_feed cX12_feed 8 (some .int) 0 0 [.ref o0, .int p1, .int p2, .int p3, .int p4, .int p5] L f (fun (r : Int32) (f9 : Nat → va_E) => GI (okc cI cL cZ cR cG cH L kd) kd L f9 ∧ ((-1) ≤ r.toInt ∧ r.toInt ≤ 600) ∧ (∀ b, kd b ≠ 12 → kd b ≠ 578 → f9 b = f b) ∧ (∀ b, kd b = 12 → ∀ j, fldR (f9 b) j = fldR (f b) j) ∧ (∀ b, kd b = 12 → ∀ j, j ≠ 5 → fldI (f9 b) j = fldI (f b) j) ∧ (∀ (w5 z5 : Int32), fldI (f o0) 5 = some w5 → fldI (f9 o0) 5 = some z5 → (w5.toInt + 20 ≤ 600 ∧ r.toInt = w5.toInt + 20 ∧ z5.toInt = w5.toInt + 20) ∨ (600 < w5.toInt + 20 ∧ r.toInt = -1 ∧ z5.toInt = w5.toInt))) := by
  obtain ⟨dC, dI⟩ := D
  refine Met.ofW (cc := cX12_feed) (maxL := 8) (ret := (some .int)) (by decide) rfl ?_
  intro p e s m args below meth c s₁ B hml hv
  obtain ⟨rfl, hP, hK, hD0, hN, hZ⟩ := hv
  have hx := B.exec
  have hb := B.bytes
  have hr := B.returns
  have hU : ∀ w ∈ wsU, w.before _ s = true := fun w h => atoms_spec (ws := wU yX12_feed cX12_feed 8 (some .int)) B.pre w (List.mem_cons_of_mem _ h)
  have hown : s.vm.findClass RX12 = some m.cls := findClass_of_methodNamed B.named
  have hlocks := B.notSynchronized
  have hD := pl_in hD0
  have hS : va_S (fun q => q ∈ L) s.heap s.heap [] := va_S.rf
  have hl := lv_entry ([.ref o0, .int p1, .int p2, .int p3, .int p4, .int p5]) (n := 8) (Nat.le_of_ble_eq_true rfl)
  rw [lg_entry_eq]
  generalize (lg_sl ([.ref o0, .int p1, .int p2, .int p3, .int p4, .int p5]) ++ List.replicate (8 - (lg_sl ([.ref o0, .int p1, .int p2, .int p3, .int p4, .int p5])).length) Slot.unset).toArray = ls at hl ⊢
  have hl : lv_has ls 8 [(0, .ref o0), (1, .int p1), (2, .int p2), (3, .int p3), (4, .int p4), (5, .int p5)] := hl
  have bp1 : ((-2147483648) ≤ p1.toInt ∧ p1.toInt ≤ 2147483647) := ⟨i32_lo _, i32_hi _⟩
  have bp2 : ((-2147483648) ≤ p2.toInt ∧ p2.toInt ≤ 2147483647) := ⟨i32_lo _, i32_hi _⟩
  have bp3 : ((-2147483648) ≤ p3.toInt ∧ p3.toInt ≤ 2147483647) := ⟨i32_lo _, i32_hi _⟩
  have bp4 : ((-2147483648) ≤ p4.toInt ∧ p4.toInt ≤ 2147483647) := ⟨i32_lo _, i32_hi _⟩
  have bp5 : ((-2147483648) ≤ p5.toInt ∧ p5.toInt ≤ 2147483647) := ⟨i32_lo _, i32_hi _⟩
  have hfr0 : ∀ b, kd b ≠ 12 → kd b ≠ 578 → f b = f b := fun _ _ _ => rfl
  have hrA12 : ∀ b, kd b = 12 → ∀ j, fldR (f b) j = fldR (f b) j := fun _ _ _ => rfl
  have hfA12 : ∀ b, kd b = 12 → ∀ j, j ≠ 5 → fldI (f b) j = fldI (f b) j := fun _ _ _ _ => rfl
  obtain ⟨a_1, a_2, a_3, v_4, a_5, v_6, v_7, v_8, v_9, v_10, v_11, v_12, v_13, v_14, v_15, a_16, a_17, a_18, a_19, a_20, a_21, a_22, a_23, v_24, v_25, v_26, v_27, v_28, a_29, v_30, a_31, a_32, v_33, v_34, a_35, v_36, a_37, a_38, v_39, v_40, a_41, a_42, a_43, v_44, a_45, a_46, a_47, a_48, a_49, a_50, a_51, a_52, a_53, v_54, v_55, a_56, hfo_57, fa_58⟩ := un12 (hG _ mo0) ko0
  obtain ⟨ma_5, ka_5⟩ := fa12_4 fa_58
  have bv_6 : (0 ≤ v_6.toInt ∧ v_6.toInt ≤ 600) := fa12_5 fa_58
  refine lv_aload_n hx hb dX12_feed_0 rfl (lv_at hl 0 rfl) ?_
  refine tk_getP (D := (dC, dI)) (ci := 12) (v := .int v_6) (C := RX12) (T := TX12) (N := 56) hx hb hU inlX12 hown hK hP mo0 hfo_57 rfl 5 (by decide) (hU _ wd_218) (fun _ h9 => h9) rfl dX12_feed_1 ?_
  refine lv_bipush (v := 20) hx hb dX12_feed_4 (by decide) ?_
  refine lv_iadd hx hb dX12_feed_6 ?_
  refine lv_topi (fun x_59 ex_59 => ?_)
  have hx_59 : x_59.toInt = v_6.toInt + 20 := by rw [ex_59, ad_I (by rw [ti_20]; omega) (by rw [ti_20]; omega), ti_20]
  have bx_59 : (20 ≤ x_59.toInt ∧ x_59.toInt ≤ 620) := by constructor <;> omega
  refine lv_sipush (v := 600) hx hb dX12_feed_7 (by decide) ?_
  refine lv_icmp_le (tgt := 15) hx hb dX12_feed_10 (by decide) (fun c_60 => ?_) (fun c_60 => ?_)
  · skip
    rw [Int32.le_iff_toInt_le, ti_600] at c_60
    refine lv_iconst (v := 0) hx hb dX12_feed_15 (by decide) ?_
    refine lv_istore (lv' := [(6, .int 0), (0, .ref o0), (1, .int p1), (2, .int p2), (3, .int p3), (4, .int p4), (5, .int p5)]) hx hb dX12_feed_16 hl (by decide) rfl (fun ls hl => ?_)
    have hloop_66 : ∀ (n : Nat), ∀ (y_67 : Int32), (0 ≤ y_67.toInt ∧ y_67.toInt ≤ 20) → ∀ (f_69 : Nat → va_E), GI (okc cI cL cZ cR cG cH L kd) kd L f_69 → ∀ (H : Heap) (locs : List Loc), va_P (dC, dI) vwCl (va_pl L f_69) H → va_S (fun q => q ∈ L) s.heap H locs → va_D (fun q => q ∈ L) (va_pl L f_69) → (∀ b, kd b ≠ 12 → kd b ≠ 578 → f_69 b = f b) → (∀ b, kd b = 12 → ∀ j, fldR (f_69 b) j = fldR (f b) j) → (∀ b, kd b = 12 → ∀ j, j ≠ 5 → fldI (f_69 b) j = fldI (f b) j) → ∀ (whloop_66_0_5 : Int32), fldI (f_69 o0) 5 = some whloop_66_0_5 → (whloop_66_0_5.toInt = v_6.toInt + y_67.toInt) → (0 ≤ whloop_66_0_5.toInt ∧ whloop_66_0_5.toInt ≤ 600) → 20 - y_67.toInt < (n : Int) → ∀ (ls : Array Slot), lv_has ls 8 [(6, .int y_67), (0, .ref o0), (1, .int p1), (2, .int p2), (3, .int p3), (4, .int p4), (5, .int p5)] → W p l e (headSpec (wU yX12_feed cX12_feed 8 (some .int)) { frames := 0, cells := 0, slots := 0, locals := 0 }).room s m [.ref o0, .int p1, .int p2, .int p3, .int p4, .int p5].toArray below meth c H locs 0 0 (MQ below (va_Qi (fun (r : Int32) (f9 : Nat → va_E) => GI (okc cI cL cZ cR cG cH L kd) kd L f9 ∧ ((-1) ≤ r.toInt ∧ r.toInt ≤ 600) ∧ (∀ b, kd b ≠ 12 → kd b ≠ 578 → f9 b = f b) ∧ (∀ b, kd b = 12 → ∀ j, fldR (f9 b) j = fldR (f b) j) ∧ (∀ b, kd b = 12 → ∀ j, j ≠ 5 → fldI (f9 b) j = fldI (f b) j) ∧ (∀ (w5 z5 : Int32), fldI (f o0) 5 = some w5 → fldI (f9 o0) 5 = some z5 → (w5.toInt + 20 ≤ 600 ∧ r.toInt = w5.toInt + 20 ∧ z5.toInt = w5.toInt + 20) ∨ (600 < w5.toInt + 20 ∧ r.toInt = -1 ∧ z5.toInt = w5.toInt))) (qP (dC, dI) cI cL cZ cR cG cH L) (fun q => q ∈ L)) [.ref o0, .int p1, .int p2, .int p3, .int p4, .int p5].toArray s 0 0 (fun q => q ∈ L)) (F0 m 18 ls []) := by
      intro n
      induction n with
      | zero => intro y_67 by_67 f_69 hG H locs hP hS hD hfr0 hrA12 hfA12 whloop_66_0_5 hghloop_66_0_5 hrelhloop_66_0 hrelhloop_66_1 hmuhloop_66 ls hl; exfalso; omega
      | succ n ih_hloop_66 =>
        intro y_67 by_67 f_69 hG H locs hP hS hD hfr0 hrA12 hfA12 whloop_66_0_5 hghloop_66_0_5 hrelhloop_66_0 hrelhloop_66_1 hmuhloop_66 ls hl
        obtain ⟨v_70, hfo_71, fa_72⟩ := op12_5 hfo_57 (hG _ mo0) ko0 (hrA12 o0 ko0) (hfA12 o0 ko0)
        have bv_70 : (0 ≤ v_70.toInt ∧ v_70.toInt ≤ 600) := fa12_5 fa_72
        obtain rfl : v_70 = whloop_66_0_5 := by rw [hfo_71] at hghloop_66_0_5; exact Option.some.inj hghloop_66_0_5
        refine lv_iload hx hb dX12_feed_18 (lv_at hl 0 rfl) ?_
        refine lv_bipush (v := 20) hx hb dX12_feed_20 (by decide) ?_
        refine lv_icmp_ge (tgt := 115) hx hb dX12_feed_22 (by decide) (fun c_73 => ?_) (fun c_73 => ?_)
        · skip
          rw [Int32.le_iff_toInt_le, ti_20] at c_73
          refine lv_aload_n hx hb dX12_feed_115 rfl (lv_at hl 1 rfl) ?_
          refine tk_getP (D := (dC, dI)) (ci := 12) (v := .int v_70) (C := RX12) (T := TX12) (N := 56) hx hb hU inlX12 hown hK hP mo0 hfo_71 rfl 5 (by decide) (hU _ wd_218) (fun _ h9 => h9) rfl dX12_feed_116 ?_
          exact W.iret (v := v_70) hx hb hr (fun t ht hW => ⟨⟨v_70, f_69, rfl, ⟨hG, (by constructor <;> omega), hfr0, hrA12, hfA12, (by intro w5 z5 e5 d5; rw [hfo_57] at e5; rw [hfo_71] at d5; obtain rfl := Option.some.inj e5; obtain rfl := Option.some.inj d5; omega)⟩, by rw [ht]; exact hP, va_K.moved hW.alike hK, pl_in hD⟩, hS.F ht⟩) hS.2.2 dX12_feed_119
        · skip
          rw [Int32.le_iff_toInt_le, ti_20] at c_73
          have hclc_74 : (0 ≤ v_70.toInt ∧ v_70.toInt ≤ 599) := by constructor <;> omega
          refine lv_iload hx hb dX12_feed_25 (lv_at hl 0 rfl) ?_
          refine lv_iconst (v := 4) hx hb dX12_feed_27 (by decide) ?_
          have hcut_76 : ∀ (y_75 : Int32), ((-2147483648) ≤ y_75.toInt ∧ y_75.toInt ≤ 2147483647) → ∀ (ls : Array Slot), lv_has ls 8 [(6, .int y_67), (0, .ref o0), (1, .int p1), (2, .int p2), (3, .int p3), (4, .int p4), (5, .int p5)] → W p l e (headSpec (wU yX12_feed cX12_feed 8 (some .int)) { frames := 0, cells := 0, slots := 0, locals := 0 }).room s m [.ref o0, .int p1, .int p2, .int p3, .int p4, .int p5].toArray below meth c H locs 0 0 (MQ below (va_Qi (fun (r : Int32) (f9 : Nat → va_E) => GI (okc cI cL cZ cR cG cH L kd) kd L f9 ∧ ((-1) ≤ r.toInt ∧ r.toInt ≤ 600) ∧ (∀ b, kd b ≠ 12 → kd b ≠ 578 → f9 b = f b) ∧ (∀ b, kd b = 12 → ∀ j, fldR (f9 b) j = fldR (f b) j) ∧ (∀ b, kd b = 12 → ∀ j, j ≠ 5 → fldI (f9 b) j = fldI (f b) j) ∧ (∀ (w5 z5 : Int32), fldI (f o0) 5 = some w5 → fldI (f9 o0) 5 = some z5 → (w5.toInt + 20 ≤ 600 ∧ r.toInt = w5.toInt + 20 ∧ z5.toInt = w5.toInt + 20) ∨ (600 < w5.toInt + 20 ∧ r.toInt = -1 ∧ z5.toInt = w5.toInt))) (qP (dC, dI) cI cL cZ cR cG cH L) (fun q => q ∈ L)) [.ref o0, .int p1, .int p2, .int p3, .int p4, .int p5].toArray s 0 0 (fun q => q ∈ L)) (F0 m 71 ls [.int y_75]) := by
            intro y_75 by_75 ls hl
            refine lv_istore (lv' := [(7, .int y_75), (6, .int y_67), (0, .ref o0), (1, .int p1), (2, .int p2), (3, .int p3), (4, .int p4), (5, .int p5)]) hx hb dX12_feed_71 hl (by decide) rfl (fun ls hl => ?_)
            refine lv_aload_n hx hb dX12_feed_73 rfl (lv_at hl 2 rfl) ?_
            refine tk_getP (D := (dC, dI)) (ci := 12) (v := .ref a_5) (C := RX12) (T := TX12) (N := 56) hx hb hU inlX12 hown hK hP mo0 hfo_71 rfl 4 (by decide) (hU _ wd_172) (fun _ h9 => h9) rfl dX12_feed_74 ?_
            refine lv_aload_n hx hb dX12_feed_77 rfl (lv_at hl 2 rfl) ?_
            refine tk_getP (D := (dC, dI)) (ci := 12) (v := .int v_70) (C := RX12) (T := TX12) (N := 56) hx hb hU inlX12 hown hK hP mo0 hfo_71 rfl 5 (by decide) (hU _ wd_218) (fun _ h9 => h9) rfl dX12_feed_78 ?_
            refine lv_iload hx hb dX12_feed_81 (lv_at hl 0 rfl) ?_
            refine lv_bipush (v := 24) hx hb dX12_feed_83 (by decide) ?_
            refine lv_bipush (v := 8) hx hb dX12_feed_85 (by decide) ?_
            refine lv_iload hx hb dX12_feed_87 (lv_at hl 1 rfl) ?_
            refine lv_iconst (v := 4) hx hb dX12_feed_89 (by decide) ?_
            refine lv_irem hx hb dX12_feed_90 (by decide) ?_
            refine lv_topi (fun x_77 ex_77 => ?_)
            have hx_77 : x_77.toInt = y_67.toInt % 4 := by rw [ex_77, rm_I (by omega) (by rw [ti_4]; omega), ti_4]
            have bx_77 : (0 ≤ x_77.toInt ∧ x_77.toInt ≤ 3) := by constructor <;> omega
            refine lv_imul hx hb dX12_feed_91 ?_
            refine lv_topi (fun x_78 ex_78 => ?_)
            have hx_78 : x_78.toInt = 8 * x_77.toInt := by rw [ex_78, ml_I (by rw [ti_8]; omega) (by rw [ti_8]; omega), ti_8]
            have bx_78 : (0 ≤ x_78.toInt ∧ x_78.toInt ≤ 24) := by constructor <;> omega
            refine lv_isub hx hb dX12_feed_92 ?_
            refine lv_topi (fun x_79 ex_79 => ?_)
            have hx_79 : x_79.toInt = 24 - x_78.toInt := by rw [ex_79, sb_I (by rw [ti_24]; omega) (by rw [ti_24]; omega), ti_24]
            have bx_79 : (0 ≤ x_79.toInt ∧ x_79.toInt ≤ 24) := by constructor <;> omega
            refine lv_ishr hx hb dX12_feed_93 ?_
            refine lv_topi (fun x_80 ex_80 => ?_)
            have bx_80 : ((-2147483648) ≤ x_80.toInt ∧ x_80.toInt ≤ 2147483647) := ⟨i32_lo _, i32_hi _⟩
            refine lv_sipush (v := 255) hx hb dX12_feed_94 (by decide) ?_
            refine lv_iand hx hb dX12_feed_97 ?_
            refine lv_topi (fun x_81 ex_81 => ?_)
            have bx_81 : (0 ≤ x_81.toInt ∧ x_81.toInt ≤ 255) := by rw [ex_81]; have h8 := an_C x_80 (m := 255) (by decide); rw [ti_255] at h8; exact h8
            obtain ⟨g_83, hfo_82, hbg_83⟩ := un_578 (hG _ ma_5) ka_5
            refine tk_istP hx hb hK hP hD hS 0 ma_5 hfo_82 rfl (vp_in_iff.mpr (by constructor <;> omega)) dX12_feed_98 (fun H locs hP hD hS => ?_)
            obtain ⟨f_85, ef_85⟩ : ∃ y : Nat → va_E, y = va_up f_69 a_5 (.inl (cI, 600, .inl (upd g_83 (Int32.toNatClampNeg v_70) x_81))) := ⟨_, rfl⟩
            have hP : va_P (dC, dI) vwCl (va_pl L f_85) H := by rw [ef_85]; exact hP
            have hD : va_D (fun q => q ∈ L) (va_pl L f_85) := by rw [ef_85]; exact hD
            have hG : GI (okc cI cL cZ cR cG cH L kd) kd L f_85 := by rw [ef_85]; exact hG.set a_5 (mk_578 ka_5 ⟨_, rfl, okI_up hbg_83 (by constructor <;> omega) _⟩)
            have hfo_86 : f_85 o0 = .inr (12, [.ref a_1, .ref a_2, .ref a_3, .int v_4, .ref a_5, .int v_70, .int v_7, .int v_8, .int v_9, .int v_10, .int v_11, .int v_12, .int v_13, .int v_14, .int v_15, .ref a_16, .ref a_17, .ref a_18, .ref a_19, .ref a_20, .ref a_21, .ref a_22, .ref a_23, .int v_24, .int v_25, .int v_26, .int v_27, .int v_28, .ref a_29, .int v_30, .ref a_31, .ref a_32, .int v_33, .int v_34, .ref a_35, .int v_36, .ref a_37, .ref a_38, .int v_39, .int v_40, .ref a_41, .ref a_42, .ref a_43, .int v_44, .ref a_45, .ref a_46, .ref a_47, .ref a_48, .ref a_49, .ref a_50, .ref a_51, .ref a_52, .ref a_53, .int v_54, .int v_55, .ref a_56]) := by rw [ef_85, up_ne (kd_ne ka_5 ko0 (by decide))]; exact hfo_71
            have hfr0 : ∀ b, kd b ≠ 12 → kd b ≠ 578 → f_85 b = f b := fun b q12 q578 => (congrFun ef_85 b).trans ((up_ne (fun e9 => q578 (by rw [e9]; exact ka_5))).trans (hfr0 b q12 q578))
            have hrA12 : ∀ b, kd b = 12 → ∀ j, fldR (f_85 b) j = fldR (f b) j := fun b kb j => (congrArg (fun x => fldR x j) ((congrFun ef_85 b).trans (up_ne (kd_ne ka_5 kb (by decide))))).trans (hrA12 b kb j)
            have hfA12 : ∀ b, kd b = 12 → ∀ j, j ≠ 5 → fldI (f_85 b) j = fldI (f b) j := fun b kb j n5 => (congrArg (fun x => fldI x j) ((congrFun ef_85 b).trans (up_ne (kd_ne ka_5 kb (by decide))))).trans (hfA12 b kb j n5)
            have hfo_87 : f_85 a_5 = .inl (cI, 600, .inl (upd g_83 (Int32.toNatClampNeg v_70) x_81)) := by rw [ef_85]; exact up_self
            refine lv_aload_n hx hb dX12_feed_99 rfl (lv_at hl 2 rfl) ?_
            refine lv_dup hx hb dX12_feed_100 rfl ?_
            refine tk_getP (D := (dC, dI)) (ci := 12) (v := .int v_70) (C := RX12) (T := TX12) (N := 56) hx hb hU inlX12 hown hK hP mo0 hfo_86 rfl 5 (by decide) (hU _ wd_218) (fun _ h9 => h9) rfl dX12_feed_101 ?_
            refine lv_iconst (v := 1) hx hb dX12_feed_104 (by decide) ?_
            refine lv_iadd hx hb dX12_feed_105 ?_
            refine lv_topi (fun x_88 ex_88 => ?_)
            have hx_88 : x_88.toInt = v_70.toInt + 1 := by rw [ex_88, ad_I (by rw [ti_1]; omega) (by rw [ti_1]; omega), ti_1]
            have bx_88 : (1 ≤ x_88.toInt ∧ x_88.toInt ≤ 600) := by constructor <;> omega
            refine tk_putP (D := (dC, dI)) (ci := 12) (v := .int x_88) (ty := .int) (C := RX12) (T := TX12) (N := 56) hx hb hU inlX12 tyX12 tyX12_ok nmX12 hown hK hP hD hS mo0 hfo_86 rfl 5 (by decide) (hU _ wd_218) (fun _ h9 => h9) rfl (by decide +kernel) rfl rfl (Nat.le_of_ble_eq_true rfl) dX12_feed_106 (fun H locs hP hD hS => ?_)
            have fa_89 := fu12_5 (y := x_88) fa_72 (by constructor <;> omega)
            obtain ⟨f_91, ef_91⟩ : ∃ y : Nat → va_E, y = va_up f_85 o0 (.inr (12, [.ref a_1, .ref a_2, .ref a_3, .int v_4, .ref a_5, .int x_88, .int v_7, .int v_8, .int v_9, .int v_10, .int v_11, .int v_12, .int v_13, .int v_14, .int v_15, .ref a_16, .ref a_17, .ref a_18, .ref a_19, .ref a_20, .ref a_21, .ref a_22, .ref a_23, .int v_24, .int v_25, .int v_26, .int v_27, .int v_28, .ref a_29, .int v_30, .ref a_31, .ref a_32, .int v_33, .int v_34, .ref a_35, .int v_36, .ref a_37, .ref a_38, .int v_39, .int v_40, .ref a_41, .ref a_42, .ref a_43, .int v_44, .ref a_45, .ref a_46, .ref a_47, .ref a_48, .ref a_49, .ref a_50, .ref a_51, .ref a_52, .ref a_53, .int v_54, .int v_55, .ref a_56])) := ⟨_, rfl⟩
            have hP : va_P (dC, dI) vwCl (va_pl L f_91) H := by rw [ef_91]; exact hP
            have hD : va_D (fun q => q ∈ L) (va_pl L f_91) := by rw [ef_91]; exact hD
            have hG : GI (okc cI cL cZ cR cG cH L kd) kd L f_91 := by rw [ef_91]; exact hG.set o0 (mk_12 ko0 (fo12 fa_89))
            have hfr0 : ∀ b, kd b ≠ 12 → kd b ≠ 578 → f_91 b = f b := fun b q12 q578 => (congrFun ef_91 b).trans ((up_ne (fun e9 => q12 (by rw [e9]; exact ko0))).trans (hfr0 b q12 q578))
            have hrA12 : ∀ b, kd b = 12 → ∀ j, fldR (f_91 b) j = fldR (f b) j := fun b kb j => ((congrArg (fun x => fldR x j) (congrFun ef_91 b)).trans (fra_up (fun j => by rw [hfo_86]; exact fr_set (k := 5) rfl rfl) j b)).trans (hrA12 b kb j)
            have hfA12 : ∀ b, kd b = 12 → ∀ j, j ≠ 5 → fldI (f_91 b) j = fldI (f b) j := fun b kb j n5 => ((congrArg (fun x => fldI x j) (congrFun ef_91 b)).trans (fia_up (fun h9 => by rw [hfo_86]; exact fi_set (k := 5) rfl h9) n5 b)).trans (hfA12 b kb j n5)
            have hfo_92 : f_91 o0 = .inr (12, [.ref a_1, .ref a_2, .ref a_3, .int v_4, .ref a_5, .int x_88, .int v_7, .int v_8, .int v_9, .int v_10, .int v_11, .int v_12, .int v_13, .int v_14, .int v_15, .ref a_16, .ref a_17, .ref a_18, .ref a_19, .ref a_20, .ref a_21, .ref a_22, .ref a_23, .int v_24, .int v_25, .int v_26, .int v_27, .int v_28, .ref a_29, .int v_30, .ref a_31, .ref a_32, .int v_33, .int v_34, .ref a_35, .int v_36, .ref a_37, .ref a_38, .int v_39, .int v_40, .ref a_41, .ref a_42, .ref a_43, .int v_44, .ref a_45, .ref a_46, .ref a_47, .ref a_48, .ref a_49, .ref a_50, .ref a_51, .ref a_52, .ref a_53, .int v_54, .int v_55, .ref a_56]) := by rw [ef_91]; exact up_self
            obtain ⟨x_93, ex_93⟩ : ∃ y : Int32, y_67 + 1 = y := ⟨_, rfl⟩
            have hx_93 : x_93.toInt = y_67.toInt + 1 := by rw [← ex_93, ad_I (by rw [ti_1]; omega) (by rw [ti_1]; omega), ti_1]
            have bx_93 : (1 ≤ x_93.toInt ∧ x_93.toInt ≤ 20) := by constructor <;> omega
            refine lv_iinc (v := x_93) (lv' := [(6, .int x_93), (7, .int y_75), (0, .ref o0), (1, .int p1), (2, .int p2), (3, .int p3), (4, .int p4), (5, .int p5)]) hx hb dX12_feed_109 hl (k := 1) rfl ex_93 (by decide) rfl (fun ls hl => ?_)
            refine lv_goto (tgt := 18) hx hb dX12_feed_112 (by decide) ?_
            exact ih_hloop_66 x_93 (by constructor <;> omega) f_91 hG _ _ hP hS hD hfr0 hrA12 hfA12 x_88 (by rw [hfo_92]; rfl) (by omega) (by omega) (by omega) ls (lv_sub hl [0, 2, 3, 4, 5, 6, 7] rfl)
          refine lv_icmp_ge (tgt := 35) hx hb dX12_feed_28 (by decide) (fun c_94 => ?_) (fun c_94 => ?_)
          · skip
            rw [Int32.le_iff_toInt_le, ti_4] at c_94
            refine lv_iload hx hb dX12_feed_35 (lv_at hl 0 rfl) ?_
            refine lv_bipush (v := 8) hx hb dX12_feed_37 (by decide) ?_
            refine lv_icmp_ge (tgt := 46) hx hb dX12_feed_39 (by decide) (fun c_95 => ?_) (fun c_95 => ?_)
            · skip
              rw [Int32.le_iff_toInt_le, ti_8] at c_95
              refine lv_iload hx hb dX12_feed_46 (lv_at hl 0 rfl) ?_
              refine lv_bipush (v := 12) hx hb dX12_feed_48 (by decide) ?_
              refine lv_icmp_ge (tgt := 57) hx hb dX12_feed_50 (by decide) (fun c_96 => ?_) (fun c_96 => ?_)
              · skip
                rw [Int32.le_iff_toInt_le, ti_12] at c_96
                refine lv_iload hx hb dX12_feed_57 (lv_at hl 0 rfl) ?_
                refine lv_bipush (v := 16) hx hb dX12_feed_59 (by decide) ?_
                refine lv_icmp_ge (tgt := 69) hx hb dX12_feed_61 (by decide) (fun c_97 => ?_) (fun c_97 => ?_)
                · skip
                  rw [Int32.le_iff_toInt_le, ti_16] at c_97
                  refine lv_iload hx hb dX12_feed_69 (lv_at hl 6 rfl) ?_
                  exact hcut_76 p5 (by constructor <;> omega) ls (lv_sub hl [0, 1, 2, 3, 4, 5, 6] rfl)
                · skip
                  rw [Int32.le_iff_toInt_le, ti_16] at c_97
                  refine lv_iload hx hb dX12_feed_64 (lv_at hl 5 rfl) ?_
                  refine lv_goto (tgt := 71) hx hb dX12_feed_66 (by decide) ?_
                  exact hcut_76 p4 (by constructor <;> omega) ls (lv_sub hl [0, 1, 2, 3, 4, 5, 6] rfl)
              · skip
                rw [Int32.le_iff_toInt_le, ti_12] at c_96
                refine lv_iload_n hx hb dX12_feed_53 rfl (lv_at hl 4 rfl) ?_
                refine lv_goto (tgt := 71) hx hb dX12_feed_54 (by decide) ?_
                exact hcut_76 p3 (by constructor <;> omega) ls (lv_sub hl [0, 1, 2, 3, 4, 5, 6] rfl)
            · skip
              rw [Int32.le_iff_toInt_le, ti_8] at c_95
              refine lv_iload_n hx hb dX12_feed_42 rfl (lv_at hl 3 rfl) ?_
              refine lv_goto (tgt := 71) hx hb dX12_feed_43 (by decide) ?_
              exact hcut_76 p2 (by constructor <;> omega) ls (lv_sub hl [0, 1, 2, 3, 4, 5, 6] rfl)
          · skip
            rw [Int32.le_iff_toInt_le, ti_4] at c_94
            refine lv_iload_n hx hb dX12_feed_31 rfl (lv_at hl 2 rfl) ?_
            refine lv_goto (tgt := 71) hx hb dX12_feed_32 (by decide) ?_
            exact hcut_76 p1 (by constructor <;> omega) ls (lv_sub hl [0, 1, 2, 3, 4, 5, 6] rfl)
    exact hloop_66 21 0 (by decide) f hG _ _ hP hS hD hfr0 hrA12 hfA12 v_6 (by rw [hfo_57]; rfl) (by (try rw [ti_0]) <;> omega) (by (try rw [ti_0]) <;> omega) (by (try rw [ti_0]) <;> omega) ls hl
  · skip
    rw [Int32.le_iff_toInt_le, ti_600] at c_60
    refine lv_iconst (v := (-1)) hx hb dX12_feed_13 (by decide) ?_
    exact W.iret (v := (-1)) hx hb hr (fun t ht hW => ⟨⟨(-1), f, rfl, ⟨hG, (by decide), hfr0, hrA12, hfA12, (by intro w5 z5 e5 d5; rw [hfo_57] at e5; rw [hfo_57] at d5; obtain rfl := Option.some.inj e5; obtain rfl := Option.some.inj d5; (try rw [ti_m1]) <;> omega)⟩, by rw [ht]; exact hP, va_K.moved hW.alike hK, pl_in hD⟩, hS.F ht⟩) hS.2.2 dX12_feed_14
set_option maxHeartbeats 8000000 in
set_option maxRecDepth 100000 in
theorem s_X12_end_k12 (l : Launch) (D : va_G) (cI cL cZ cR cG cH : ClassId) (Z : zT) (kd : Nat → Nat) (L : List Nat) (f : Nat → va_E) (hG : GI (okc cI cL cZ cR cG cH L kd) kd L f) (o0 : Nat) (mo0 : o0 ∈ L) (ko0 : kd o0 = 12) (p1 : Int32) : mPI l D cI cL cZ cR cG cH Z yX12_end cX12_end 2 (some .boolean) 1 22 [.ref o0, .int p1] L f (fun (r : Int32) (f9 : Nat → va_E) => GI (okc cI cL cZ cR cG cH L kd) kd L f9 ∧ (0 ≤ r.toInt ∧ r.toInt ≤ 1) ∧ (∀ b, kd b ≠ 12 → f9 b = f b) ∧ (∀ b, kd b = 12 → ∀ j, fldR (f9 b) j = fldR (f b) j) ∧ (∀ b, kd b = 12 → ∀ j, j ≠ 5 → fldI (f9 b) j = fldI (f b) j) ∧ (∀ (w5 z5 : Int32), fldI (f o0) 5 = some w5 → fldI (f9 o0) 5 = some z5 → (r.toInt = 1 ∧ 0 ≤ p1.toInt ∧ p1.toInt ≤ w5.toInt ∧ z5.toInt = p1.toInt) ∨ (r.toInt = 0 ∧ (p1.toInt < 0 ∨ w5.toInt < p1.toInt) ∧ z5.toInt = w5.toInt))) := by
  obtain ⟨dC, dI⟩ := D
  refine Met.ofW (cc := cX12_end) (maxL := 2) (ret := (some .boolean)) (by decide) rfl ?_
  intro p e s m args below meth c s₁ B hml hv
  obtain ⟨rfl, hP, hK, hD0, hN, hZ⟩ := hv
  have hx := B.exec
  have hb := B.bytes
  have hr := B.returns
  have hU : ∀ w ∈ wsU, w.before _ s = true := fun w h => atoms_spec (ws := wU yX12_end cX12_end 2 (some .boolean)) B.pre w (List.mem_cons_of_mem _ h)
  have hown : s.vm.findClass RX12 = some m.cls := findClass_of_methodNamed B.named
  have hlocks := B.notSynchronized
  have hD := pl_in hD0
  have hS : va_S (fun q => q ∈ L) s.heap s.heap [] := va_S.rf
  have hl := lv_entry ([.ref o0, .int p1]) (n := 2) (Nat.le_of_ble_eq_true rfl)
  rw [lg_entry_eq]
  generalize (lg_sl ([.ref o0, .int p1]) ++ List.replicate (2 - (lg_sl ([.ref o0, .int p1])).length) Slot.unset).toArray = ls at hl ⊢
  have hl : lv_has ls 2 [(0, .ref o0), (1, .int p1)] := hl
  have bp1 : ((-2147483648) ≤ p1.toInt ∧ p1.toInt ≤ 2147483647) := ⟨i32_lo _, i32_hi _⟩
  have hfr0 : ∀ b, kd b ≠ 12 → f b = f b := fun _ _ => rfl
  have hrA12 : ∀ b, kd b = 12 → ∀ j, fldR (f b) j = fldR (f b) j := fun _ _ _ => rfl
  have hfA12 : ∀ b, kd b = 12 → ∀ j, j ≠ 5 → fldI (f b) j = fldI (f b) j := fun _ _ _ _ => rfl
  obtain ⟨a_1, a_2, a_3, v_4, a_5, v_6, v_7, v_8, v_9, v_10, v_11, v_12, v_13, v_14, v_15, a_16, a_17, a_18, a_19, a_20, a_21, a_22, a_23, v_24, v_25, v_26, v_27, v_28, a_29, v_30, a_31, a_32, v_33, v_34, a_35, v_36, a_37, a_38, v_39, v_40, a_41, a_42, a_43, v_44, a_45, a_46, a_47, a_48, a_49, a_50, a_51, a_52, a_53, v_54, v_55, a_56, hfo_57, fa_58⟩ := un12 (hG _ mo0) ko0
  have bv_6 : (0 ≤ v_6.toInt ∧ v_6.toInt ≤ 600) := fa12_5 fa_58
  refine lv_iload_n hx hb dX12_end_0 rfl (lv_at hl 1 rfl) ?_
  refine lv_iconst (v := 0) hx hb dX12_end_1 (by decide) ?_
  refine lv_aload_n hx hb dX12_end_2 rfl (lv_at hl 0 rfl) ?_
  refine tk_getP (D := (dC, dI)) (ci := 12) (v := .int v_6) (C := RX12) (T := TX12) (N := 56) hx hb hU inlX12 hown hK hP mo0 hfo_57 rfl 5 (by decide) (hU _ wd_218) (fun _ h9 => h9) rfl dX12_end_3 ?_
  refine tk_SiP (As := [.int p1, .int 0, .int v_6]) (rest := []) (n := 3) hx hb hml hown hU hN hZ (s_X12_isIn l (dC, dI) cI cL cZ cR cG cH Z kd L f hG p1 0 v_6) wd_227 wd_228 wd_5 wd_229 (by decide +kernel) ⟨Nat.le_of_ble_eq_true rfl, Nat.le_of_ble_eq_true rfl⟩ hK hP hD hS rfl hl.1 rfl (Nat.le_of_ble_eq_true rfl) dX12_end_6 ⟨Nat.le_of_ble_eq_true rfl, Nat.le_of_ble_eq_true rfl⟩ (fun x_59 f_60 H locs hw hP hD hS => ?_)
  obtain ⟨rfl, bx_59, relx_59⟩ := hw
  try rw [ti_0] at relx_59
  refine lv_if_ne (tgt := 14) hx hb dX12_end_9 (by decide) (fun c_62 => ?_) (fun c_62 => ?_)
  · skip
    rw [← Int32.toInt_inj, ti_0] at c_62
    refine lv_aload_n hx hb dX12_end_14 rfl (lv_at hl 0 rfl) ?_
    refine lv_iload_n hx hb dX12_end_15 rfl (lv_at hl 1 rfl) ?_
    refine tk_putP (D := (dC, dI)) (ci := 12) (v := .int p1) (ty := .int) (C := RX12) (T := TX12) (N := 56) hx hb hU inlX12 tyX12 tyX12_ok nmX12 hown hK hP hD hS mo0 hfo_57 rfl 5 (by decide) (hU _ wd_218) (fun _ h9 => h9) rfl (by decide +kernel) rfl rfl (Nat.le_of_ble_eq_true rfl) dX12_end_16 (fun H locs hP hD hS => ?_)
    have fa_63 := fu12_5 (y := p1) fa_58 (by constructor <;> omega)
    obtain ⟨f_65, ef_65⟩ : ∃ y : Nat → va_E, y = va_up f o0 (.inr (12, [.ref a_1, .ref a_2, .ref a_3, .int v_4, .ref a_5, .int p1, .int v_7, .int v_8, .int v_9, .int v_10, .int v_11, .int v_12, .int v_13, .int v_14, .int v_15, .ref a_16, .ref a_17, .ref a_18, .ref a_19, .ref a_20, .ref a_21, .ref a_22, .ref a_23, .int v_24, .int v_25, .int v_26, .int v_27, .int v_28, .ref a_29, .int v_30, .ref a_31, .ref a_32, .int v_33, .int v_34, .ref a_35, .int v_36, .ref a_37, .ref a_38, .int v_39, .int v_40, .ref a_41, .ref a_42, .ref a_43, .int v_44, .ref a_45, .ref a_46, .ref a_47, .ref a_48, .ref a_49, .ref a_50, .ref a_51, .ref a_52, .ref a_53, .int v_54, .int v_55, .ref a_56])) := ⟨_, rfl⟩
    have hP : va_P (dC, dI) vwCl (va_pl L f_65) H := by rw [ef_65]; exact hP
    have hD : va_D (fun q => q ∈ L) (va_pl L f_65) := by rw [ef_65]; exact hD
    have hG : GI (okc cI cL cZ cR cG cH L kd) kd L f_65 := by rw [ef_65]; exact hG.set o0 (mk_12 ko0 (fo12 fa_63))
    have hfr0 : ∀ b, kd b ≠ 12 → f_65 b = f b := fun b q12 => (congrFun ef_65 b).trans ((up_ne (fun e9 => q12 (by rw [e9]; exact ko0))).trans (hfr0 b q12))
    have hrA12 : ∀ b, kd b = 12 → ∀ j, fldR (f_65 b) j = fldR (f b) j := fun b kb j => ((congrArg (fun x => fldR x j) (congrFun ef_65 b)).trans (fra_up (fun j => by rw [hfo_57]; exact fr_set (k := 5) rfl rfl) j b)).trans (hrA12 b kb j)
    have hfA12 : ∀ b, kd b = 12 → ∀ j, j ≠ 5 → fldI (f_65 b) j = fldI (f b) j := fun b kb j n5 => ((congrArg (fun x => fldI x j) (congrFun ef_65 b)).trans (fia_up (fun h9 => by rw [hfo_57]; exact fi_set (k := 5) rfl h9) n5 b)).trans (hfA12 b kb j n5)
    have hfo_66 : f_65 o0 = .inr (12, [.ref a_1, .ref a_2, .ref a_3, .int v_4, .ref a_5, .int p1, .int v_7, .int v_8, .int v_9, .int v_10, .int v_11, .int v_12, .int v_13, .int v_14, .int v_15, .ref a_16, .ref a_17, .ref a_18, .ref a_19, .ref a_20, .ref a_21, .ref a_22, .ref a_23, .int v_24, .int v_25, .int v_26, .int v_27, .int v_28, .ref a_29, .int v_30, .ref a_31, .ref a_32, .int v_33, .int v_34, .ref a_35, .int v_36, .ref a_37, .ref a_38, .int v_39, .int v_40, .ref a_41, .ref a_42, .ref a_43, .int v_44, .ref a_45, .ref a_46, .ref a_47, .ref a_48, .ref a_49, .ref a_50, .ref a_51, .ref a_52, .ref a_53, .int v_54, .int v_55, .ref a_56]) := by rw [ef_65]; exact up_self
    refine lv_iconst (v := 1) hx hb dX12_end_19 (by decide) ?_
    exact W.zret (v := 1) (ty := .boolean) hx hb hr rfl (fun t ht hW => ⟨⟨1, f_65, rfl, ⟨hG, (by decide), hfr0, hrA12, hfA12, (by intro w5 z5 e5 d5; rw [hfo_57] at e5; rw [hfo_66] at d5; obtain rfl := Option.some.inj e5; obtain rfl := Option.some.inj d5; (try rw [ti_1]) <;> omega)⟩, by rw [ht]; exact hP, va_K.moved hW.alike hK, pl_in hD⟩, hS.F ht⟩) hS.2.2 dX12_end_20
  · skip
    rw [← Int32.toInt_inj, ti_0] at c_62
    refine lv_iconst (v := 0) hx hb dX12_end_12 (by decide) ?_
    exact W.zret (v := 0) (ty := .boolean) hx hb hr rfl (fun t ht hW => ⟨⟨0, f, rfl, ⟨hG, (by decide), hfr0, hrA12, hfA12, (by intro w5 z5 e5 d5; rw [hfo_57] at e5; rw [hfo_57] at d5; obtain rfl := Option.some.inj e5; obtain rfl := Option.some.inj d5; (try rw [ti_0]) <;> omega)⟩, by rw [ht]; exact hP, va_K.moved hW.alike hK, pl_in hD⟩, hS.F ht⟩) hS.2.2 dX12_end_13
set_option maxHeartbeats 8000000 in
set_option maxRecDepth 100000 in
theorem s_X12_see_k12 (l : Launch) (D : va_G) (cI cL cZ cR cG cH : ClassId) (Z : zT) (kd : Nat → Nat) (L : List Nat) (f : Nat → va_E) (hG : GI (okc cI cL cZ cR cG cH L kd) kd L f) (o0 : Nat) (mo0 : o0 ∈ L) (ko0 : kd o0 = 12) (p1 : Int32) (bp1 : (0 ≤ p1.toInt ∧ p1.toInt ≤ 602)) : mPI l D cI cL cZ cR cG cH Z yX12_see cX12_see 2 (some .int) 0 0 [.ref o0, .int p1] L f (fun (r : Int32) (f9 : Nat → va_E) => f = f9 ∧ ((-1) ≤ r.toInt ∧ r.toInt ≤ 255) ∧ (∀ t9, fldI (f o0) 5 = some t9 → r.toInt = -1 ∨ p1.toInt < t9.toInt)) := by
  obtain ⟨dC, dI⟩ := D
  refine Met.ofW (cc := cX12_see) (maxL := 2) (ret := (some .int)) (by decide) rfl ?_
  intro p e s m args below meth c s₁ B hml hv
  obtain ⟨rfl, hP, hK, hD0, hN, hZ⟩ := hv
  have hx := B.exec
  have hb := B.bytes
  have hr := B.returns
  have hU : ∀ w ∈ wsU, w.before _ s = true := fun w h => atoms_spec (ws := wU yX12_see cX12_see 2 (some .int)) B.pre w (List.mem_cons_of_mem _ h)
  have hown : s.vm.findClass RX12 = some m.cls := findClass_of_methodNamed B.named
  have hlocks := B.notSynchronized
  have hD := pl_in hD0
  have hS : va_S (fun q => q ∈ L) s.heap s.heap [] := va_S.rf
  have hl := lv_entry ([.ref o0, .int p1]) (n := 2) (Nat.le_of_ble_eq_true rfl)
  rw [lg_entry_eq]
  generalize (lg_sl ([.ref o0, .int p1]) ++ List.replicate (2 - (lg_sl ([.ref o0, .int p1])).length) Slot.unset).toArray = ls at hl ⊢
  have hl : lv_has ls 2 [(0, .ref o0), (1, .int p1)] := hl
  refine lv_iload_n hx hb dX12_see_0 rfl (lv_at hl 1 rfl) ?_
  refine lv_aload_n hx hb dX12_see_1 rfl (lv_at hl 0 rfl) ?_
  obtain ⟨a_1, a_2, a_3, v_4, a_5, v_6, v_7, v_8, v_9, v_10, v_11, v_12, v_13, v_14, v_15, a_16, a_17, a_18, a_19, a_20, a_21, a_22, a_23, v_24, v_25, v_26, v_27, v_28, a_29, v_30, a_31, a_32, v_33, v_34, a_35, v_36, a_37, a_38, v_39, v_40, a_41, a_42, a_43, v_44, a_45, a_46, a_47, a_48, a_49, a_50, a_51, a_52, a_53, v_54, v_55, a_56, hfo_57, fa_58⟩ := un12 (hG _ mo0) ko0
  obtain ⟨ma_5, ka_5⟩ := fa12_4 fa_58
  have bv_6 : (0 ≤ v_6.toInt ∧ v_6.toInt ≤ 600) := fa12_5 fa_58
  refine tk_getP (D := (dC, dI)) (ci := 12) (v := .int v_6) (C := RX12) (T := TX12) (N := 56) hx hb hU inlX12 hown hK hP mo0 hfo_57 rfl 5 (by decide) (hU _ wd_218) (fun _ h9 => h9) rfl dX12_see_2 ?_
  refine lv_icmp_ge (tgt := 17) hx hb dX12_see_5 (by decide) (fun c_59 => ?_) (fun c_59 => ?_)
  · skip
    rw [Int32.le_iff_toInt_le] at c_59
    refine lv_iconst (v := (-1)) hx hb dX12_see_17 (by decide) ?_
    exact W.iret (v := (-1)) hx hb hr (fun t ht hW => ⟨⟨(-1), f, rfl, ⟨rfl, (by decide), (fun t9 h9 => by rw [hfo_57] at h9; obtain rfl := Option.some.inj h9; exact Or.inl (by decide))⟩, by rw [ht]; exact hP, va_K.moved hW.alike hK, pl_in hD⟩, hS.F ht⟩) hS.2.2 dX12_see_18
  · skip
    rw [Int32.le_iff_toInt_le] at c_59
    refine lv_aload_n hx hb dX12_see_8 rfl (lv_at hl 0 rfl) ?_
    refine tk_getP (D := (dC, dI)) (ci := 12) (v := .ref a_5) (C := RX12) (T := TX12) (N := 56) hx hb hU inlX12 hown hK hP mo0 hfo_57 rfl 4 (by decide) (hU _ wd_172) (fun _ h9 => h9) rfl dX12_see_9 ?_
    refine lv_iload_n hx hb dX12_see_12 rfl (lv_at hl 1 rfl) ?_
    obtain ⟨g_61, hfo_60, hbg_61⟩ := un_578 (hG _ ma_5) ka_5
    refine tk_ildP hx hb hK hP 0 ma_5 hfo_60 rfl (vp_in_iff.mpr (by constructor <;> omega)) dX12_see_13 ?_
    refine lv_topi (fun x_62 ex_62 => ?_)
    have bx_62 : (0 ≤ x_62.toInt ∧ x_62.toInt ≤ 255) := by rw [ex_62]; exact hbg_61 _
    refine lv_goto (tgt := 18) hx hb dX12_see_14 (by decide) ?_
    exact W.iret (v := x_62) hx hb hr (fun t ht hW => ⟨⟨x_62, f, rfl, ⟨rfl, (by constructor <;> omega), (fun t9 h9 => by rw [hfo_57] at h9; obtain rfl := Option.some.inj h9; right; omega)⟩, by rw [ht]; exact hP, va_K.moved hW.alike hK, pl_in hD⟩, hS.F ht⟩) hS.2.2 dX12_see_18
set_option maxHeartbeats 8000000 in
set_option maxRecDepth 100000 in
theorem s_X12_isSmall (l : Launch) (D : va_G) (cI cL cZ cR cG cH : ClassId) (Z : zT) (kd : Nat → Nat) (L : List Nat) (f : Nat → va_E) (hG : GI (okc cI cL cZ cR cG cH L kd) kd L f) (p0 : Int32) : mPI l D cI cL cZ cR cG cH Z yX12_isSmall cX12_isSmall 1 (some .boolean) 1 22 [.int p0] L f (fun (r : Int32) (f9 : Nat → va_E) => f = f9 ∧ (0 ≤ r.toInt ∧ r.toInt ≤ 1) ∧ (r.toInt = 0 ∨ (97 ≤ p0.toInt ∧ p0.toInt ≤ 122))) := by
  obtain ⟨dC, dI⟩ := D
  refine Met.ofW (cc := cX12_isSmall) (maxL := 1) (ret := (some .boolean)) (by decide) rfl ?_
  intro p e s m args below meth c s₁ B hml hv
  obtain ⟨rfl, hP, hK, hD0, hN, hZ⟩ := hv
  have hx := B.exec
  have hb := B.bytes
  have hr := B.returns
  have hU : ∀ w ∈ wsU, w.before _ s = true := fun w h => atoms_spec (ws := wU yX12_isSmall cX12_isSmall 1 (some .boolean)) B.pre w (List.mem_cons_of_mem _ h)
  have hown : s.vm.findClass RX12 = some m.cls := findClass_of_methodNamed B.named
  have hlocks := B.notSynchronized
  have hD := pl_in hD0
  have hS : va_S (fun q => q ∈ L) s.heap s.heap [] := va_S.rf
  have hl := lv_entry ([.int p0]) (n := 1) (Nat.le_of_ble_eq_true rfl)
  rw [lg_entry_eq]
  generalize (lg_sl ([.int p0]) ++ List.replicate (1 - (lg_sl ([.int p0])).length) Slot.unset).toArray = ls at hl ⊢
  have hl : lv_has ls 1 [(0, .int p0)] := hl
  have bp0 : ((-2147483648) ≤ p0.toInt ∧ p0.toInt ≤ 2147483647) := ⟨i32_lo _, i32_hi _⟩
  refine lv_iload_n hx hb dX12_isSmall_0 rfl (lv_at hl 0 rfl) ?_
  refine lv_bipush (v := 97) hx hb dX12_isSmall_1 (by decide) ?_
  refine lv_bipush (v := 122) hx hb dX12_isSmall_3 (by decide) ?_
  refine tk_SiP (As := [.int p0, .int 97, .int 122]) (rest := []) (n := 3) hx hb hml hown hU hN hZ (s_X12_isIn l (dC, dI) cI cL cZ cR cG cH Z kd L f hG p0 97 122) wd_227 wd_228 wd_5 wd_229 (by decide +kernel) ⟨Nat.le_of_ble_eq_true rfl, Nat.le_of_ble_eq_true rfl⟩ hK hP hD hS rfl hl.1 rfl (Nat.le_of_ble_eq_true rfl) dX12_isSmall_5 ⟨Nat.le_of_ble_eq_true rfl, Nat.le_of_ble_eq_true rfl⟩ (fun x_1 f_2 H locs hw hP hD hS => ?_)
  obtain ⟨rfl, bx_1, relx_1⟩ := hw
  try rw [ti_97] at relx_1
  try rw [ti_122] at relx_1
  exact W.zret (v := x_1) (ty := .boolean) hx hb hr (zb_n (by constructor <;> omega)) (fun t ht hW => ⟨⟨x_1, f, rfl, ⟨rfl, (by constructor <;> omega), (by omega)⟩, by rw [ht]; exact hP, va_K.moved hW.alike hK, pl_in hD⟩, hS.F ht⟩) hS.2.2 dX12_isSmall_8
set_option maxHeartbeats 8000000 in
set_option maxRecDepth 100000 in
theorem s_X12_blanks_k12 (l : Launch) (D : va_G) (cI cL cZ cR cG cH : ClassId) (Z : zT) (kd : Nat → Nat) (L : List Nat) (f : Nat → va_E) (hG : GI (okc cI cL cZ cR cG cH L kd) kd L f) (o0 : Nat) (mo0 : o0 ∈ L) (ko0 : kd o0 = 12) : mPV l D cI cL cZ cR cG cH Z yX12_blanks cX12_blanks 1 none 1 21 [.ref o0] L f (fun (f9 : Nat → va_E) => GI (okc cI cL cZ cR cG cH L kd) kd L f9 ∧ (∀ b, kd b ≠ 12 → f9 b = f b) ∧ (∀ b, kd b = 12 → ∀ j, fldR (f9 b) j = fldR (f b) j) ∧ (∀ b, kd b = 12 → ∀ j, j ≠ 6 → fldI (f9 b) j = fldI (f b) j) ∧ (∀ (w6 z6 : Int32), fldI (f o0) 6 = some w6 → fldI (f9 o0) 6 = some z6 → w6.toInt ≤ z6.toInt)) := by
  obtain ⟨dC, dI⟩ := D
  refine Met.ofW (cc := cX12_blanks) (maxL := 1) (ret := none) (by decide) rfl ?_
  intro p e s m args below meth c s₁ B hml hv
  obtain ⟨rfl, hP, hK, hD0, hN, hZ⟩ := hv
  have hx := B.exec
  have hb := B.bytes
  have hr := B.returns
  have hU : ∀ w ∈ wsU, w.before _ s = true := fun w h => atoms_spec (ws := wU yX12_blanks cX12_blanks 1 none) B.pre w (List.mem_cons_of_mem _ h)
  have hown : s.vm.findClass RX12 = some m.cls := findClass_of_methodNamed B.named
  have hlocks := B.notSynchronized
  have hD := pl_in hD0
  have hS : va_S (fun q => q ∈ L) s.heap s.heap [] := va_S.rf
  have hl := lv_entry ([.ref o0]) (n := 1) (Nat.le_of_ble_eq_true rfl)
  rw [lg_entry_eq]
  generalize (lg_sl ([.ref o0]) ++ List.replicate (1 - (lg_sl ([.ref o0])).length) Slot.unset).toArray = ls at hl ⊢
  have hl : lv_has ls 1 [(0, .ref o0)] := hl
  have hfr0 : ∀ b, kd b ≠ 12 → f b = f b := fun _ _ => rfl
  have hrA12 : ∀ b, kd b = 12 → ∀ j, fldR (f b) j = fldR (f b) j := fun _ _ _ => rfl
  have hfA12 : ∀ b, kd b = 12 → ∀ j, j ≠ 6 → fldI (f b) j = fldI (f b) j := fun _ _ _ _ => rfl
  obtain ⟨a_1, a_2, a_3, v_4, a_5, v_6, v_7, v_8, v_9, v_10, v_11, v_12, v_13, v_14, v_15, a_16, a_17, a_18, a_19, a_20, a_21, a_22, a_23, v_24, v_25, v_26, v_27, v_28, a_29, v_30, a_31, a_32, v_33, v_34, a_35, v_36, a_37, a_38, v_39, v_40, a_41, a_42, a_43, v_44, a_45, a_46, a_47, a_48, a_49, a_50, a_51, a_52, a_53, v_54, v_55, a_56, hfo_57, fa_58⟩ := un12 (hG _ mo0) ko0
  have bv_6 : (0 ≤ v_6.toInt ∧ v_6.toInt ≤ 600) := fa12_5 fa_58
  have bv_7 : (0 ≤ v_7.toInt ∧ v_7.toInt ≤ 600) := fa12_6 fa_58
  have hloop_63 : ∀ (n : Nat), ∀ (f_65 : Nat → va_E), GI (okc cI cL cZ cR cG cH L kd) kd L f_65 → ∀ (H : Heap) (locs : List Loc), va_P (dC, dI) vwCl (va_pl L f_65) H → va_S (fun q => q ∈ L) s.heap H locs → va_D (fun q => q ∈ L) (va_pl L f_65) → (∀ b, kd b ≠ 12 → f_65 b = f b) → (∀ b, kd b = 12 → ∀ j, fldR (f_65 b) j = fldR (f b) j) → (∀ b, kd b = 12 → ∀ j, j ≠ 6 → fldI (f_65 b) j = fldI (f b) j) → ∀ (whloop_63_0_6 : Int32), fldI (f_65 o0) 6 = some whloop_63_0_6 → (v_7.toInt ≤ whloop_63_0_6.toInt) → (0 ≤ whloop_63_0_6.toInt ∧ whloop_63_0_6.toInt ≤ 600) → 600 - whloop_63_0_6.toInt < (n : Int) → ∀ (ls : Array Slot), lv_has ls 1 [(0, .ref o0)] → W p l e (headSpec (wU yX12_blanks cX12_blanks 1 none) { frames := 1, cells := 0, slots := 0, locals := 21 }).room s m [.ref o0].toArray below meth c H locs 0 0 (MQ below (va_Qv (fun (f9 : Nat → va_E) => GI (okc cI cL cZ cR cG cH L kd) kd L f9 ∧ (∀ b, kd b ≠ 12 → f9 b = f b) ∧ (∀ b, kd b = 12 → ∀ j, fldR (f9 b) j = fldR (f b) j) ∧ (∀ b, kd b = 12 → ∀ j, j ≠ 6 → fldI (f9 b) j = fldI (f b) j) ∧ (∀ (w6 z6 : Int32), fldI (f o0) 6 = some w6 → fldI (f9 o0) 6 = some z6 → w6.toInt ≤ z6.toInt)) (qP (dC, dI) cI cL cZ cR cG cH L) (fun q => q ∈ L)) [.ref o0].toArray s 0 0 (fun q => q ∈ L)) (F0 m 0 ls []) := by
    intro n
    induction n with
    | zero => intro f_65 hG H locs hP hS hD hfr0 hrA12 hfA12 whloop_63_0_6 hghloop_63_0_6 hrelhloop_63_0 hrelhloop_63_1 hmuhloop_63 ls hl; exfalso; omega
    | succ n ih_hloop_63 =>
      intro f_65 hG H locs hP hS hD hfr0 hrA12 hfA12 whloop_63_0_6 hghloop_63_0_6 hrelhloop_63_0 hrelhloop_63_1 hmuhloop_63 ls hl
      obtain ⟨v_66, hfo_67, fa_68⟩ := op12_6 hfo_57 (hG _ mo0) ko0 (hrA12 o0 ko0) (hfA12 o0 ko0)
      have bv_66 : (0 ≤ v_66.toInt ∧ v_66.toInt ≤ 600) := fa12_6 fa_68
      obtain rfl : v_66 = whloop_63_0_6 := by rw [hfo_67] at hghloop_63_0_6; exact Option.some.inj hghloop_63_0_6
      refine lv_aload_n hx hb dX12_blanks_0 rfl (lv_at hl 0 rfl) ?_
      refine lv_aload_n hx hb dX12_blanks_1 rfl (lv_at hl 0 rfl) ?_
      refine tk_getP (D := (dC, dI)) (ci := 12) (v := .int v_66) (C := RX12) (T := TX12) (N := 56) hx hb hU inlX12 hown hK hP mo0 hfo_67 rfl 6 (by decide) (hU _ wd_566) (fun _ h9 => h9) rfl dX12_blanks_2 ?_
      refine tk_ViP (As := [.int v_66]) (rest := []) (n := 1) hx hb hml hown hU hN hZ (s_X12_see_k12 l (dC, dI) cI cL cZ cR cG cH Z kd L f_65 hG o0 mo0 ko0 v_66 (by constructor <;> omega)) wd_581 wd_582 wd_583 wd_5 wd_584 (by decide +kernel) ⟨Nat.le_of_ble_eq_true rfl, Nat.le_of_ble_eq_true rfl⟩ hK hP hD hS mo0 hfo_67 12 rfl rfl rfl hl.1 rfl (Nat.le_of_ble_eq_true rfl) dX12_blanks_5 ⟨Nat.le_of_ble_eq_true rfl, Nat.le_of_ble_eq_true rfl⟩ (fun x_69 f_70 H locs hw hP hD hS => ?_)
      obtain ⟨rfl, bx_69, hxp_71⟩ := hw
      have hsex_69 := hxp_71 v_6 (by rw [hfo_67]; rfl)
      refine lv_bipush (v := 32) hx hb dX12_blanks_8 (by decide) ?_
      refine lv_icmp_eq (tgt := 26) hx hb dX12_blanks_10 (by decide) (fun c_73 => ?_) (fun c_73 => ?_)
      · skip
        rw [← Int32.toInt_inj, ti_32] at c_73
        have hclc_74 : (0 ≤ v_66.toInt ∧ v_66.toInt ≤ 599) := by constructor <;> omega
        refine lv_aload_n hx hb dX12_blanks_26 rfl (lv_at hl 0 rfl) ?_
        refine lv_dup hx hb dX12_blanks_27 rfl ?_
        refine tk_getP (D := (dC, dI)) (ci := 12) (v := .int v_66) (C := RX12) (T := TX12) (N := 56) hx hb hU inlX12 hown hK hP mo0 hfo_67 rfl 6 (by decide) (hU _ wd_566) (fun _ h9 => h9) rfl dX12_blanks_28 ?_
        refine lv_iconst (v := 1) hx hb dX12_blanks_31 (by decide) ?_
        refine lv_iadd hx hb dX12_blanks_32 ?_
        refine lv_topi (fun x_75 ex_75 => ?_)
        have hx_75 : x_75.toInt = v_66.toInt + 1 := by rw [ex_75, ad_I (by rw [ti_1]; omega) (by rw [ti_1]; omega), ti_1]
        have bx_75 : (1 ≤ x_75.toInt ∧ x_75.toInt ≤ 600) := by constructor <;> omega
        refine tk_putP (D := (dC, dI)) (ci := 12) (v := .int x_75) (ty := .int) (C := RX12) (T := TX12) (N := 56) hx hb hU inlX12 tyX12 tyX12_ok nmX12 hown hK hP hD hS mo0 hfo_67 rfl 6 (by decide) (hU _ wd_566) (fun _ h9 => h9) rfl (by decide +kernel) rfl rfl (Nat.le_of_ble_eq_true rfl) dX12_blanks_33 (fun H locs hP hD hS => ?_)
        have fa_76 := fu12_6 (y := x_75) fa_68 (by constructor <;> omega)
        obtain ⟨f_78, ef_78⟩ : ∃ y : Nat → va_E, y = va_up f_65 o0 (.inr (12, [.ref a_1, .ref a_2, .ref a_3, .int v_4, .ref a_5, .int v_6, .int x_75, .int v_8, .int v_9, .int v_10, .int v_11, .int v_12, .int v_13, .int v_14, .int v_15, .ref a_16, .ref a_17, .ref a_18, .ref a_19, .ref a_20, .ref a_21, .ref a_22, .ref a_23, .int v_24, .int v_25, .int v_26, .int v_27, .int v_28, .ref a_29, .int v_30, .ref a_31, .ref a_32, .int v_33, .int v_34, .ref a_35, .int v_36, .ref a_37, .ref a_38, .int v_39, .int v_40, .ref a_41, .ref a_42, .ref a_43, .int v_44, .ref a_45, .ref a_46, .ref a_47, .ref a_48, .ref a_49, .ref a_50, .ref a_51, .ref a_52, .ref a_53, .int v_54, .int v_55, .ref a_56])) := ⟨_, rfl⟩
        have hP : va_P (dC, dI) vwCl (va_pl L f_78) H := by rw [ef_78]; exact hP
        have hD : va_D (fun q => q ∈ L) (va_pl L f_78) := by rw [ef_78]; exact hD
        have hG : GI (okc cI cL cZ cR cG cH L kd) kd L f_78 := by rw [ef_78]; exact hG.set o0 (mk_12 ko0 (fo12 fa_76))
        have hfr0 : ∀ b, kd b ≠ 12 → f_78 b = f b := fun b q12 => (congrFun ef_78 b).trans ((up_ne (fun e9 => q12 (by rw [e9]; exact ko0))).trans (hfr0 b q12))
        have hrA12 : ∀ b, kd b = 12 → ∀ j, fldR (f_78 b) j = fldR (f b) j := fun b kb j => ((congrArg (fun x => fldR x j) (congrFun ef_78 b)).trans (fra_up (fun j => by rw [hfo_67]; exact fr_set (k := 6) rfl rfl) j b)).trans (hrA12 b kb j)
        have hfA12 : ∀ b, kd b = 12 → ∀ j, j ≠ 6 → fldI (f_78 b) j = fldI (f b) j := fun b kb j n6 => ((congrArg (fun x => fldI x j) (congrFun ef_78 b)).trans (fia_up (fun h9 => by rw [hfo_67]; exact fi_set (k := 6) rfl h9) n6 b)).trans (hfA12 b kb j n6)
        have hfo_79 : f_78 o0 = .inr (12, [.ref a_1, .ref a_2, .ref a_3, .int v_4, .ref a_5, .int v_6, .int x_75, .int v_8, .int v_9, .int v_10, .int v_11, .int v_12, .int v_13, .int v_14, .int v_15, .ref a_16, .ref a_17, .ref a_18, .ref a_19, .ref a_20, .ref a_21, .ref a_22, .ref a_23, .int v_24, .int v_25, .int v_26, .int v_27, .int v_28, .ref a_29, .int v_30, .ref a_31, .ref a_32, .int v_33, .int v_34, .ref a_35, .int v_36, .ref a_37, .ref a_38, .int v_39, .int v_40, .ref a_41, .ref a_42, .ref a_43, .int v_44, .ref a_45, .ref a_46, .ref a_47, .ref a_48, .ref a_49, .ref a_50, .ref a_51, .ref a_52, .ref a_53, .int v_54, .int v_55, .ref a_56]) := by rw [ef_78]; exact up_self
        refine lv_goto (tgt := 0) hx hb dX12_blanks_36 (by decide) ?_
        exact ih_hloop_63 f_78 hG _ _ hP hS hD hfr0 hrA12 hfA12 x_75 (by rw [hfo_79]; rfl) (by omega) (by omega) (by omega) ls (lv_sub hl [0] rfl)
      · skip
        rw [← Int32.toInt_inj, ti_32] at c_73
        refine lv_aload_n hx hb dX12_blanks_13 rfl (lv_at hl 0 rfl) ?_
        refine lv_aload_n hx hb dX12_blanks_14 rfl (lv_at hl 0 rfl) ?_
        refine tk_getP (D := (dC, dI)) (ci := 12) (v := .int v_66) (C := RX12) (T := TX12) (N := 56) hx hb hU inlX12 hown hK hP mo0 hfo_67 rfl 6 (by decide) (hU _ wd_566) (fun _ h9 => h9) rfl dX12_blanks_15 ?_
        refine tk_ViP (As := [.int v_66]) (rest := []) (n := 1) hx hb hml hown hU hN hZ (s_X12_see_k12 l (dC, dI) cI cL cZ cR cG cH Z kd L f_65 hG o0 mo0 ko0 v_66 (by constructor <;> omega)) wd_581 wd_582 wd_583 wd_5 wd_584 (by decide +kernel) ⟨Nat.le_of_ble_eq_true rfl, Nat.le_of_ble_eq_true rfl⟩ hK hP hD hS mo0 hfo_67 12 rfl rfl rfl hl.1 rfl (Nat.le_of_ble_eq_true rfl) dX12_blanks_18 ⟨Nat.le_of_ble_eq_true rfl, Nat.le_of_ble_eq_true rfl⟩ (fun x_80 f_81 H locs hw hP hD hS => ?_)
        obtain ⟨rfl, bx_80, hxp_82⟩ := hw
        have hsex_80 := hxp_82 v_6 (by rw [hfo_67]; rfl)
        refine lv_bipush (v := 10) hx hb dX12_blanks_21 (by decide) ?_
        refine lv_icmp_ne (tgt := 39) hx hb dX12_blanks_23 (by decide) (fun c_84 => ?_) (fun c_84 => ?_)
        · skip
          rw [← Int32.toInt_inj, ti_10] at c_84
          exact W.vret hx hb hr (fun t ht hW => ⟨⟨f_65, rfl, ⟨hG, hfr0, hrA12, hfA12, (by intro w6 z6 e6 d6; rw [hfo_57] at e6; rw [hfo_67] at d6; obtain rfl := Option.some.inj e6; obtain rfl := Option.some.inj d6; omega)⟩, by rw [ht]; exact hP, va_K.moved hW.alike hK, pl_in hD⟩, hS.F ht⟩) hS.2.2 dX12_blanks_39
        · skip
          rw [← Int32.toInt_inj, ti_10] at c_84
          have hclc_85 : (0 ≤ v_66.toInt ∧ v_66.toInt ≤ 599) := by constructor <;> omega
          refine lv_aload_n hx hb dX12_blanks_26 rfl (lv_at hl 0 rfl) ?_
          refine lv_dup hx hb dX12_blanks_27 rfl ?_
          refine tk_getP (D := (dC, dI)) (ci := 12) (v := .int v_66) (C := RX12) (T := TX12) (N := 56) hx hb hU inlX12 hown hK hP mo0 hfo_67 rfl 6 (by decide) (hU _ wd_566) (fun _ h9 => h9) rfl dX12_blanks_28 ?_
          refine lv_iconst (v := 1) hx hb dX12_blanks_31 (by decide) ?_
          refine lv_iadd hx hb dX12_blanks_32 ?_
          refine lv_topi (fun x_86 ex_86 => ?_)
          have hx_86 : x_86.toInt = v_66.toInt + 1 := by rw [ex_86, ad_I (by rw [ti_1]; omega) (by rw [ti_1]; omega), ti_1]
          have bx_86 : (1 ≤ x_86.toInt ∧ x_86.toInt ≤ 600) := by constructor <;> omega
          refine tk_putP (D := (dC, dI)) (ci := 12) (v := .int x_86) (ty := .int) (C := RX12) (T := TX12) (N := 56) hx hb hU inlX12 tyX12 tyX12_ok nmX12 hown hK hP hD hS mo0 hfo_67 rfl 6 (by decide) (hU _ wd_566) (fun _ h9 => h9) rfl (by decide +kernel) rfl rfl (Nat.le_of_ble_eq_true rfl) dX12_blanks_33 (fun H locs hP hD hS => ?_)
          have fa_87 := fu12_6 (y := x_86) fa_68 (by constructor <;> omega)
          obtain ⟨f_89, ef_89⟩ : ∃ y : Nat → va_E, y = va_up f_65 o0 (.inr (12, [.ref a_1, .ref a_2, .ref a_3, .int v_4, .ref a_5, .int v_6, .int x_86, .int v_8, .int v_9, .int v_10, .int v_11, .int v_12, .int v_13, .int v_14, .int v_15, .ref a_16, .ref a_17, .ref a_18, .ref a_19, .ref a_20, .ref a_21, .ref a_22, .ref a_23, .int v_24, .int v_25, .int v_26, .int v_27, .int v_28, .ref a_29, .int v_30, .ref a_31, .ref a_32, .int v_33, .int v_34, .ref a_35, .int v_36, .ref a_37, .ref a_38, .int v_39, .int v_40, .ref a_41, .ref a_42, .ref a_43, .int v_44, .ref a_45, .ref a_46, .ref a_47, .ref a_48, .ref a_49, .ref a_50, .ref a_51, .ref a_52, .ref a_53, .int v_54, .int v_55, .ref a_56])) := ⟨_, rfl⟩
          have hP : va_P (dC, dI) vwCl (va_pl L f_89) H := by rw [ef_89]; exact hP
          have hD : va_D (fun q => q ∈ L) (va_pl L f_89) := by rw [ef_89]; exact hD
          have hG : GI (okc cI cL cZ cR cG cH L kd) kd L f_89 := by rw [ef_89]; exact hG.set o0 (mk_12 ko0 (fo12 fa_87))
          have hfr0 : ∀ b, kd b ≠ 12 → f_89 b = f b := fun b q12 => (congrFun ef_89 b).trans ((up_ne (fun e9 => q12 (by rw [e9]; exact ko0))).trans (hfr0 b q12))
          have hrA12 : ∀ b, kd b = 12 → ∀ j, fldR (f_89 b) j = fldR (f b) j := fun b kb j => ((congrArg (fun x => fldR x j) (congrFun ef_89 b)).trans (fra_up (fun j => by rw [hfo_67]; exact fr_set (k := 6) rfl rfl) j b)).trans (hrA12 b kb j)
          have hfA12 : ∀ b, kd b = 12 → ∀ j, j ≠ 6 → fldI (f_89 b) j = fldI (f b) j := fun b kb j n6 => ((congrArg (fun x => fldI x j) (congrFun ef_89 b)).trans (fia_up (fun h9 => by rw [hfo_67]; exact fi_set (k := 6) rfl h9) n6 b)).trans (hfA12 b kb j n6)
          have hfo_90 : f_89 o0 = .inr (12, [.ref a_1, .ref a_2, .ref a_3, .int v_4, .ref a_5, .int v_6, .int x_86, .int v_8, .int v_9, .int v_10, .int v_11, .int v_12, .int v_13, .int v_14, .int v_15, .ref a_16, .ref a_17, .ref a_18, .ref a_19, .ref a_20, .ref a_21, .ref a_22, .ref a_23, .int v_24, .int v_25, .int v_26, .int v_27, .int v_28, .ref a_29, .int v_30, .ref a_31, .ref a_32, .int v_33, .int v_34, .ref a_35, .int v_36, .ref a_37, .ref a_38, .int v_39, .int v_40, .ref a_41, .ref a_42, .ref a_43, .int v_44, .ref a_45, .ref a_46, .ref a_47, .ref a_48, .ref a_49, .ref a_50, .ref a_51, .ref a_52, .ref a_53, .int v_54, .int v_55, .ref a_56]) := by rw [ef_89]; exact up_self
          refine lv_goto (tgt := 0) hx hb dX12_blanks_36 (by decide) ?_
          exact ih_hloop_63 f_89 hG _ _ hP hS hD hfr0 hrA12 hfA12 x_86 (by rw [hfo_90]; rfl) (by omega) (by omega) (by omega) ls (lv_sub hl [0] rfl)
  exact hloop_63 601 f hG _ _ hP hS hD hfr0 hrA12 hfA12 v_7 (by rw [hfo_57]; rfl) (by omega) (by omega) (by omega) ls hl
set_option maxHeartbeats 8000000 in
set_option maxRecDepth 100000 in
theorem s_X12_sign_k12 (l : Launch) (D : va_G) (cI cL cZ cR cG cH : ClassId) (Z : zT) (kd : Nat → Nat) (L : List Nat) (f : Nat → va_E) (hG : GI (okc cI cL cZ cR cG cH L kd) kd L f) (o0 : Nat) (mo0 : o0 ∈ L) (ko0 : kd o0 = 12) : mPI l D cI cL cZ cR cG cH Z yX12_sign cX12_sign 1 (some .int) 2 41 [.ref o0] L f (fun (r : Int32) (f9 : Nat → va_E) => GI (okc cI cL cZ cR cG cH L kd) kd L f9 ∧ ((-1) ≤ r.toInt ∧ r.toInt ≤ 255) ∧ (∀ b, kd b ≠ 12 → f9 b = f b) ∧ (∀ b, kd b = 12 → ∀ j, fldR (f9 b) j = fldR (f b) j) ∧ (∀ b, kd b = 12 → ∀ j, j ≠ 6 → fldI (f9 b) j = fldI (f b) j) ∧ (∀ (w6 z6 : Int32), fldI (f o0) 6 = some w6 → fldI (f9 o0) 6 = some z6 → w6.toInt ≤ z6.toInt ∧ (r.toInt = -1 ∨ z6.toInt ≤ 599))) := by
  obtain ⟨dC, dI⟩ := D
  refine Met.ofW (cc := cX12_sign) (maxL := 1) (ret := (some .int)) (by decide) rfl ?_
  intro p e s m args below meth c s₁ B hml hv
  obtain ⟨rfl, hP, hK, hD0, hN, hZ⟩ := hv
  have hx := B.exec
  have hb := B.bytes
  have hr := B.returns
  have hU : ∀ w ∈ wsU, w.before _ s = true := fun w h => atoms_spec (ws := wU yX12_sign cX12_sign 1 (some .int)) B.pre w (List.mem_cons_of_mem _ h)
  have hown : s.vm.findClass RX12 = some m.cls := findClass_of_methodNamed B.named
  have hlocks := B.notSynchronized
  have hD := pl_in hD0
  have hS : va_S (fun q => q ∈ L) s.heap s.heap [] := va_S.rf
  have hl := lv_entry ([.ref o0]) (n := 1) (Nat.le_of_ble_eq_true rfl)
  rw [lg_entry_eq]
  generalize (lg_sl ([.ref o0]) ++ List.replicate (1 - (lg_sl ([.ref o0])).length) Slot.unset).toArray = ls at hl ⊢
  have hl : lv_has ls 1 [(0, .ref o0)] := hl
  have hfr0 : ∀ b, kd b ≠ 12 → f b = f b := fun _ _ => rfl
  have hrA12 : ∀ b, kd b = 12 → ∀ j, fldR (f b) j = fldR (f b) j := fun _ _ _ => rfl
  have hfA12 : ∀ b, kd b = 12 → ∀ j, j ≠ 6 → fldI (f b) j = fldI (f b) j := fun _ _ _ _ => rfl
  obtain ⟨a_1, a_2, a_3, v_4, a_5, v_6, v_7, v_8, v_9, v_10, v_11, v_12, v_13, v_14, v_15, a_16, a_17, a_18, a_19, a_20, a_21, a_22, a_23, v_24, v_25, v_26, v_27, v_28, a_29, v_30, a_31, a_32, v_33, v_34, a_35, v_36, a_37, a_38, v_39, v_40, a_41, a_42, a_43, v_44, a_45, a_46, a_47, a_48, a_49, a_50, a_51, a_52, a_53, v_54, v_55, a_56, hfo_57, fa_58⟩ := un12 (hG _ mo0) ko0
  have bv_6 : (0 ≤ v_6.toInt ∧ v_6.toInt ≤ 600) := fa12_5 fa_58
  have bv_7 : (0 ≤ v_7.toInt ∧ v_7.toInt ≤ 600) := fa12_6 fa_58
  refine lv_aload_n hx hb dX12_sign_0 rfl (lv_at hl 0 rfl) ?_
  refine tk_VvP (As := []) (rest := []) (n := 0) hx hb hml hown hU hN hZ (s_X12_blanks_k12 l (dC, dI) cI cL cZ cR cG cH Z kd L f hG o0 mo0 ko0) wd_577 wd_578 wd_579 wd_5 wd_580 (by decide +kernel) ⟨Nat.le_of_ble_eq_true rfl, Nat.le_of_ble_eq_true rfl⟩ hK hP hD hS mo0 hfo_57 12 rfl rfl rfl hl.1 rfl (Nat.le_of_ble_eq_true rfl) dX12_sign_1 ⟨Nat.le_of_ble_eq_true rfl, Nat.le_of_ble_eq_true rfl⟩ (fun f_60 H locs hw hP hD hS => ?_)
  obtain ⟨hG, hkc_61, hra_62, hfa_63, hpost_64⟩ := hw
  have hfr0 : ∀ b, kd b ≠ 12 → f_60 b = f b := fun b q12 => (hkc_61 b q12).trans (hfr0 b q12)
  have hrA12 : ∀ b, kd b = 12 → ∀ j, fldR (f_60 b) j = fldR (f b) j := fun b kb j => (hra_62 b kb j).trans (hrA12 b kb j)
  have hfA12 : ∀ b, kd b = 12 → ∀ j, j ≠ 6 → fldI (f_60 b) j = fldI (f b) j := fun b kb j n6 => (hfa_63 b kb j n6).trans (hfA12 b kb j n6)
  obtain ⟨v_66, hfo_67, fa_68⟩ := op12_6 hfo_57 (hG _ mo0) ko0 (hra_62 o0 ko0) (hfa_63 o0 ko0)
  have bv_66 : (0 ≤ v_66.toInt ∧ v_66.toInt ≤ 600) := fa12_6 fa_68
  have hqhpost_64 := hpost_64 v_7 v_66 (by rw [hfo_57]; rfl) (by rw [hfo_67]; rfl)
  refine lv_aload_n hx hb dX12_sign_4 rfl (lv_at hl 0 rfl) ?_
  refine lv_aload_n hx hb dX12_sign_5 rfl (lv_at hl 0 rfl) ?_
  refine tk_getP (D := (dC, dI)) (ci := 12) (v := .int v_66) (C := RX12) (T := TX12) (N := 56) hx hb hU inlX12 hown hK hP mo0 hfo_67 rfl 6 (by decide) (hU _ wd_566) (fun _ h9 => h9) rfl dX12_sign_6 ?_
  refine tk_ViP (As := [.int v_66]) (rest := []) (n := 1) hx hb hml hown hU hN hZ (s_X12_see_k12 l (dC, dI) cI cL cZ cR cG cH Z kd L f_60 hG o0 mo0 ko0 v_66 (by constructor <;> omega)) wd_581 wd_582 wd_583 wd_5 wd_584 (by decide +kernel) ⟨Nat.le_of_ble_eq_true rfl, Nat.le_of_ble_eq_true rfl⟩ hK hP hD hS mo0 hfo_67 12 rfl rfl rfl hl.1 rfl (Nat.le_of_ble_eq_true rfl) dX12_sign_9 ⟨Nat.le_of_ble_eq_true rfl, Nat.le_of_ble_eq_true rfl⟩ (fun x_69 f_70 H locs hw hP hD hS => ?_)
  obtain ⟨rfl, bx_69, hxp_71⟩ := hw
  have hsex_69 := hxp_71 v_6 (by rw [hfo_67]; rfl)
  exact W.iret (v := x_69) hx hb hr (fun t ht hW => ⟨⟨x_69, f_60, rfl, ⟨hG, (by constructor <;> omega), hfr0, hrA12, hfA12, (by intro w6 z6 e6 d6; rw [hfo_57] at e6; rw [hfo_67] at d6; obtain rfl := Option.some.inj e6; obtain rfl := Option.some.inj d6; omega)⟩, by rw [ht]; exact hP, va_K.moved hW.alike hK, pl_in hD⟩, hS.F ht⟩) hS.2.2 dX12_sign_12
