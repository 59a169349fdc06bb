set_option maxHeartbeats 8000000 in
set_option maxRecDepth 100000 in
theorem s_X12_isIn (l : Launch) (D : va_G) (cI cL cZ cR cG cH : ClassId) (Z : zT) (kd : Nat → Nat) (L : List Nat) (f : Nat → va_E) (hG : GI (okc cI cL cZ cR cG cH L kd) kd L f) (p0 : Int32) (p1 : Int32) (p2 : Int32) : mPI l D cI cL cZ cR cG cH Z yX12_isIn cX12_isIn 3 (some .boolean) 0 0 [.int p0, .int p1, .int p2] L f (fun (r : Int32) (f9 : Nat → va_E) => f = f9 ∧ (0 ≤ r.toInt ∧ r.toInt ≤ 1) ∧ ((r.toInt = 0 ∧ (p0.toInt < p1.toInt ∨ p2.toInt < p0.toInt)) ∨ (r.toInt = 1 ∧ p1.toInt ≤ p0.toInt ∧ p0.toInt ≤ p2.toInt))) := by
  obtain ⟨dC, dI⟩ := D
  refine Met.ofW (cc := cX12_isIn) (maxL := 3) (ret := (some .boolean)) (by decide) rfl ?_
  intro p e s m args below meth c s₁ B hml hv
  obtain ⟨rfl, hP, hK, hD0, hN, hZ⟩ := hv
  have hx := B.exec
  have hb := B.bytes
  have hr := B.returns
  have hU : ∀ w ∈ wsU, w.before _ s = true := fun w h => atoms_spec (ws := wU yX12_isIn cX12_isIn 3 (some .boolean)) B.pre w (List.mem_cons_of_mem _ h)
  have hown : s.vm.findClass RX12 = some m.cls := findClass_of_methodNamed B.named
  have hlocks := B.notSynchronized
  have hD := pl_in hD0
  have hS : va_S (fun q => q ∈ L) s.heap s.heap [] := va_S.rf
  have hl := lv_entry ([.int p0, .int p1, .int p2]) (n := 3) (Nat.le_of_ble_eq_true rfl)
  rw [lg_entry_eq]
  generalize (lg_sl ([.int p0, .int p1, .int p2]) ++ List.replicate (3 - (lg_sl ([.int p0, .int p1, .int p2])).length) Slot.unset).toArray = ls at hl ⊢
  have hl : lv_has ls 3 [(0, .int p0), (1, .int p1), (2, .int p2)] := hl
  have bp0 : ((-2147483648) ≤ p0.toInt ∧ p0.toInt ≤ 2147483647) := ⟨i32_lo _, i32_hi _⟩
  have bp1 : ((-2147483648) ≤ p1.toInt ∧ p1.toInt ≤ 2147483647) := ⟨i32_lo _, i32_hi _⟩
  have bp2 : ((-2147483648) ≤ p2.toInt ∧ p2.toInt ≤ 2147483647) := ⟨i32_lo _, i32_hi _⟩
  refine lv_iload_n hx hb dX12_isIn_0 rfl (lv_at hl 0 rfl) ?_
  refine lv_iload_n hx hb dX12_isIn_1 rfl (lv_at hl 1 rfl) ?_
  refine lv_icmp_lt (tgt := 14) hx hb dX12_isIn_2 (by decide) (fun c_1 => ?_) (fun c_1 => ?_)
  · skip
    rw [Int32.lt_iff_toInt_lt] at c_1
    refine lv_iconst (v := 0) hx hb dX12_isIn_14 (by decide) ?_
    exact W.zret (v := 0) (ty := .boolean) hx hb hr rfl (fun t ht hW => ⟨⟨0, f, rfl, ⟨rfl, (by decide), (by (try rw [ti_0]) <;> omega)⟩, by rw [ht]; exact hP, va_K.moved hW.alike hK, pl_in hD⟩, hS.F ht⟩) hS.2.2 dX12_isIn_15
  · skip
    rw [Int32.lt_iff_toInt_lt] at c_1
    refine lv_iload_n hx hb dX12_isIn_5 rfl (lv_at hl 0 rfl) ?_
    refine lv_iload_n hx hb dX12_isIn_6 rfl (lv_at hl 2 rfl) ?_
    refine lv_icmp_gt (tgt := 14) hx hb dX12_isIn_7 (by decide) (fun c_2 => ?_) (fun c_2 => ?_)
    · skip
      rw [Int32.lt_iff_toInt_lt] at c_2
      refine lv_iconst (v := 0) hx hb dX12_isIn_14 (by decide) ?_
      exact W.zret (v := 0) (ty := .boolean) hx hb hr rfl (fun t ht hW => ⟨⟨0, f, rfl, ⟨rfl, (by decide), (by (try rw [ti_0]) <;> omega)⟩, by rw [ht]; exact hP, va_K.moved hW.alike hK, pl_in hD⟩, hS.F ht⟩) hS.2.2 dX12_isIn_15
    · skip
      rw [Int32.lt_iff_toInt_lt] at c_2
      refine lv_iconst (v := 1) hx hb dX12_isIn_10 (by decide) ?_
      refine lv_goto (tgt := 15) hx hb dX12_isIn_11 (by decide) ?_
      exact W.zret (v := 1) (ty := .boolean) hx hb hr rfl (fun t ht hW => ⟨⟨1, f, rfl, ⟨rfl, (by decide), (by (try rw [ti_1]) <;> omega)⟩, by rw [ht]; exact hP, va_K.moved hW.alike hK, pl_in hD⟩, hS.F ht⟩) hS.2.2 dX12_isIn_15
set_option maxHeartbeats 8000000 in
set_option maxRecDepth 100000 in
theorem s_X12_count (l : Launch) (D : va_G) (cI cL cZ cR cG cH : ClassId) (Z : zT) (kd : Nat → Nat) (L : List Nat) (f : Nat → va_E) (hG : GI (okc cI cL cZ cR cG cH L kd) kd L f) (p0 : Int32) : mPI l D cI cL cZ cR cG cH Z yX12_count cX12_count 3 (some .int) 0 0 [.int p0] L f (fun (r : Int32) (f9 : Nat → va_E) => f = f9 ∧ ((-2147483648) ≤ r.toInt ∧ r.toInt ≤ 2147483647)) := by
  obtain ⟨dC, dI⟩ := D
  refine Met.ofW (cc := cX12_count) (maxL := 3) (ret := (some .int)) (by decide) rfl ?_
  intro p e s m args below meth c s₁ B hml hv
  obtain ⟨rfl, hP, hK, hD0, hN, hZ⟩ := hv
  have hx := B.exec
  have hb := B.bytes
  have hr := B.returns
  have hU : ∀ w ∈ wsU, w.before _ s = true := fun w h => atoms_spec (ws := wU yX12_count cX12_count 3 (some .int)) B.pre w (List.mem_cons_of_mem _ h)
  have hown : s.vm.findClass RX12 = some m.cls := findClass_of_methodNamed B.named
  have hlocks := B.notSynchronized
  have hD := pl_in hD0
  have hS : va_S (fun q => q ∈ L) s.heap s.heap [] := va_S.rf
  have hl := lv_entry ([.int p0]) (n := 3) (Nat.le_of_ble_eq_true rfl)
  rw [lg_entry_eq]
  generalize (lg_sl ([.int p0]) ++ List.replicate (3 - (lg_sl ([.int p0])).length) Slot.unset).toArray = ls at hl ⊢
  have hl : lv_has ls 3 [(0, .int p0)] := hl
  have bp0 : ((-2147483648) ≤ p0.toInt ∧ p0.toInt ≤ 2147483647) := ⟨i32_lo _, i32_hi _⟩
  refine lv_iconst (v := 0) hx hb dX12_count_0 (by decide) ?_
  refine lv_istore_n (lv' := [(1, .int 0), (0, .int p0)]) hx hb dX12_count_1 rfl hl (by decide) rfl (fun ls hl => ?_)
  refine lv_iconst (v := 0) hx hb dX12_count_2 (by decide) ?_
  refine lv_istore_n (lv' := [(2, .int 0), (1, .int 0), (0, .int p0)]) hx hb dX12_count_3 rfl hl (by decide) rfl (fun ls hl => ?_)
  have hloop_10 : ∀ (n : Nat), ∀ (y_11 : Int32), (0 ≤ y_11.toInt ∧ y_11.toInt ≤ 10) → ∀ (y_12 : Int32), ((-2147483648) ≤ y_12.toInt ∧ y_12.toInt ≤ 2147483647) → 10 - y_11.toInt < (n : Int) → ∀ (ls : Array Slot), lv_has ls 3 [(2, .int y_11), (1, .int y_12), (0, .int p0)] → W p l e (headSpec (wU yX12_count cX12_count 3 (some .int)) { frames := 0, cells := 0, slots := 0, locals := 0 }).room s m [.int p0].toArray below meth c s.heap [] 0 0 (MQ below (va_Qi (fun (r : Int32) (f9 : Nat → va_E) => f = f9 ∧ ((-2147483648) ≤ r.toInt ∧ r.toInt ≤ 2147483647)) (qP (dC, dI) cI cL cZ cR cG cH L) (fun q => q ∈ L)) [.int p0].toArray s 0 0 (fun q => q ∈ L)) (F0 m 4 ls []) := by
    intro n
    induction n with
    | zero => intro y_11 by_11 y_12 by_12 hmuhloop_10 ls hl; exfalso; omega
    | succ n ih_hloop_10 =>
      intro y_11 by_11 y_12 by_12 hmuhloop_10 ls hl
      refine lv_iload_n hx hb dX12_count_4 rfl (lv_at hl 0 rfl) ?_
      refine lv_bipush (v := 10) hx hb dX12_count_5 (by decide) ?_
      refine lv_icmp_ge (tgt := 24) hx hb dX12_count_7 (by decide) (fun c_13 => ?_) (fun c_13 => ?_)
      · skip
        rw [Int32.le_iff_toInt_le, ti_10] at c_13
        refine lv_iload_n hx hb dX12_count_24 rfl (lv_at hl 1 rfl) ?_
        exact W.iret (v := y_12) hx hb hr (fun t ht hW => ⟨⟨y_12, f, rfl, ⟨rfl, (by constructor <;> omega)⟩, by rw [ht]; exact hP, va_K.moved hW.alike hK, pl_in hD⟩, hS.F ht⟩) hS.2.2 dX12_count_25
      · skip
        rw [Int32.le_iff_toInt_le, ti_10] at c_13
        refine lv_iload_n hx hb dX12_count_10 rfl (lv_at hl 1 rfl) ?_
        refine lv_iload_n hx hb dX12_count_11 rfl (lv_at hl 2 rfl) ?_
        refine lv_iload_n hx hb dX12_count_12 rfl (lv_at hl 0 rfl) ?_
        refine lv_ishr hx hb dX12_count_13 ?_
        refine lv_topi (fun x_14 ex_14 => ?_)
        have bx_14 : ((-2147483648) ≤ x_14.toInt ∧ x_14.toInt ≤ 2147483647) := ⟨i32_lo _, i32_hi _⟩
        refine lv_iconst (v := 1) hx hb dX12_count_14 (by decide) ?_
        refine lv_iand hx hb dX12_count_15 ?_
        refine lv_topi (fun x_15 ex_15 => ?_)
        have bx_15 : (0 ≤ x_15.toInt ∧ x_15.toInt ≤ 1) := by rw [ex_15]; have h8 := an_C x_14 (m := 1) (by decide); rw [ti_1] at h8; exact h8
        refine lv_iadd hx hb dX12_count_16 ?_
        refine lv_topi (fun x_16 ex_16 => ?_)
        have bx_16 : ((-2147483648) ≤ x_16.toInt ∧ x_16.toInt ≤ 2147483647) := ⟨i32_lo _, i32_hi _⟩
        refine lv_istore_n (lv' := [(1, .int x_16), (2, .int y_11), (0, .int p0)]) hx hb dX12_count_17 rfl hl (by decide) rfl (fun ls hl => ?_)
        obtain ⟨x_17, ex_17⟩ : ∃ y : Int32, y_11 + 1 = y := ⟨_, rfl⟩
        have hx_17 : x_17.toInt = y_11.toInt + 1 := by rw [← ex_17, ad_I (by rw [ti_1]; omega) (by rw [ti_1]; omega), ti_1]
        have bx_17 : (1 ≤ x_17.toInt ∧ x_17.toInt ≤ 10) := by constructor <;> omega
        refine lv_iinc (v := x_17) (lv' := [(2, .int x_17), (1, .int x_16), (0, .int p0)]) hx hb dX12_count_18 hl (k := 1) rfl ex_17 (by decide) rfl (fun ls hl => ?_)
        refine lv_goto (tgt := 4) hx hb dX12_count_21 (by decide) ?_
        exact ih_hloop_10 x_17 (by constructor <;> omega) x_16 (by constructor <;> omega) (by omega) ls (lv_sub hl [0, 1, 2] rfl)
  exact hloop_10 11 0 (by decide) 0 (by decide) (by (try rw [ti_0]) <;> omega) ls hl
set_option maxHeartbeats 8000000 in
set_option maxRecDepth 100000 in
theorem s_X12_feed_k12 (l : Launch) (D : va_G) (cI cL cZ cR cG cH : ClassId) (Z : zT) (kd : Nat → Nat) (L : List Nat) (f : Nat → va_E) (hG : GI (okc cI cL cZ cR cG cH L kd) kd L f) (o0 : Nat) (mo0 : o0 ∈ L) (ko0 : kd o0 = 12) (p1 : Int32) (p2 : Int32) (p3 : Int32) (p4 : Int32) (p5 : Int32) : mPI l D cI cL cZ cR cG cH Z yX12_feed cX12_feed 8 (some .int) 0 0 [.ref o0, .int p1, .int p2, .int p3, .int p4, .int p5] L f (fun (r : Int32) (f9 : Nat → va_E) => GI (okc cI cL cZ cR cG cH L kd) kd L f9 ∧ ((-1) ≤ r.toInt ∧ r.toInt ≤ 600) ∧ (∀ b, kd b ≠ 12 → kd b ≠ 578 → f9 b = f b) ∧ (∀ b, kd b = 12 → ∀ j, fldR (f9 b) j = fldR (f b) j) ∧ (∀ b, kd b = 12 → ∀ j, j ≠ 5 → fldI (f9 b) j = fldI (f b) j) ∧ (∀ (w5 z5 : Int32), fldI (f o0) 5 = some w5 → fldI (f9 o0) 5 = some z5 → (w5.toInt + 20 ≤ 600 ∧ r.toInt = w5.toInt + 20 ∧ z5.toInt = w5.toInt + 20) ∨ (600 < w5.toInt + 20 ∧ r.toInt = -1 ∧ z5.toInt = w5.toInt))) := by
  obtain ⟨dC, dI⟩ := D
  refine Met.ofW (cc := cX12_feed) (maxL := 8) (ret := (some .int)) (by decide) rfl ?_
  intro p e s m args below meth c s₁ B hml hv
  obtain ⟨rfl, hP, hK, hD0, hN, hZ⟩ := hv
  have hx := B.exec
  have hb := B.bytes
  have hr := B.returns
  have hU : ∀ w ∈ wsU, w.before _ s = true := fun w h => atoms_spec (ws := wU yX12_feed cX12_feed 8 (some .int)) B.pre w (List.mem_cons_of_mem _ h)
  have hown : s.vm.findClass RX12 = some m.cls := findClass_of_methodNamed B.named
  have hlocks := B.notSynchronized
  have hD := pl_in hD0
  have hS : va_S (fun q => q ∈ L) s.heap s.heap [] := va_S.rf
  have hl := lv_entry ([.ref o0, .int p1, .int p2, .int p3, .int p4, .int p5]) (n := 8) (Nat.le_of_ble_eq_true rfl)
  rw [lg_entry_eq]
  generalize (lg_sl ([.ref o0, .int p1, .int p2, .int p3, .int p4, .int p5]) ++ List.replicate (8 - (lg_sl ([.ref o0, .int p1, .int p2, .int p3, .int p4, .int p5])).length) Slot.unset).toArray = ls at hl ⊢
  have hl : lv_has ls 8 [(0, .ref o0), (1, .int p1), (2, .int p2), (3, .int p3), (4, .int p4), (5, .int p5)] := hl
  have bp1 : ((-2147483648) ≤ p1.toInt ∧ p1.toInt ≤ 2147483647) := ⟨i32_lo _, i32_hi _⟩
  have bp2 : ((-2147483648) ≤ p2.toInt ∧ p2.toInt ≤ 2147483647) := ⟨i32_lo _, i32_hi _⟩
  have bp3 : ((-2147483648) ≤ p3.toInt ∧ p3.toInt ≤ 2147483647) := ⟨i32_lo _, i32_hi _⟩
  have bp4 : ((-2147483648) ≤ p4.toInt ∧ p4.toInt ≤ 2147483647) := ⟨i32_lo _, i32_hi _⟩
  have bp5 : ((-2147483648) ≤ p5.toInt ∧ p5.toInt ≤ 2147483647) := ⟨i32_lo _, i32_hi _⟩
  have hfr0 : ∀ b, kd b ≠ 12 → kd b ≠ 578 → f b = f b := fun _ _ _ => rfl
  have hrA12 : ∀ b, kd b = 12 → ∀ j, fldR (f b) j = fldR (f b) j := fun _ _ _ => rfl
  have hfA12 : ∀ b, kd b = 12 → ∀ j, j ≠ 5 → fldI (f b) j = fldI (f b) j := fun _ _ _ _ => rfl
  obtain ⟨a_2, a_3, a_4, v_5, a_6, v_7, v_8, v_9, v_10, v_11, v_12, v_13, v_14, v_15, v_16, a_17, a_18, a_19, a_20, a_21, a_22, a_23, a_24, v_25, v_26, v_27, v_28, v_29, a_30, v_31, a_32, a_33, v_34, v_35, a_36, v_37, a_38, a_39, v_40, v_41, a_42, a_43, a_44, v_45, a_46, a_47, a_48, a_49, a_50, a_51, a_52, a_53, a_54, v_55, v_56, a_57, hfo_1, ⟨ma_2, ka_2⟩, ⟨ma_3, ka_3⟩, ⟨ma_4, ka_4⟩, bv_5, ⟨ma_6, ka_6⟩, bv_7, bv_8, bv_13, bv_14, bv_15, ⟨ma_17, ka_17⟩, ⟨ma_18, ka_18⟩, ⟨ma_19, ka_19⟩, ⟨ma_20, ka_20⟩, ⟨ma_21, ka_21⟩, ⟨ma_22, ka_22⟩, ⟨ma_23, ka_23⟩, ⟨ma_24, ka_24⟩, bv_25, bv_27, bv_29, ⟨ma_30, ka_30⟩, bv_31, ⟨ma_32, ka_32⟩, ⟨ma_33, ka_33⟩, bv_34, ⟨ma_36, ka_36⟩, bv_37, ⟨ma_38, ka_38⟩, ⟨ma_39, ka_39⟩, bv_40, ⟨ma_42, ka_42⟩, ⟨ma_43, ka_43⟩, ⟨ma_44, ka_44⟩, bv_45, ⟨ma_46, ka_46⟩, ⟨ma_47, ka_47⟩, ⟨ma_48, ka_48⟩, ⟨ma_49, ka_49⟩, ⟨ma_50, ka_50⟩, ⟨ma_51, ka_51⟩, ⟨ma_52, ka_52⟩, ⟨ma_53, ka_53⟩, ⟨ma_54, ka_54⟩, bv_55, ⟨ma_57, ka_57⟩⟩ := un_12 (hG _ mo0) ko0
  have bv_9 : ((-2147483648) ≤ v_9.toInt ∧ v_9.toInt ≤ 2147483647) := ⟨i32_lo _, i32_hi _⟩
  have bv_10 : ((-2147483648) ≤ v_10.toInt ∧ v_10.toInt ≤ 2147483647) := ⟨i32_lo _, i32_hi _⟩
  have bv_11 : ((-2147483648) ≤ v_11.toInt ∧ v_11.toInt ≤ 2147483647) := ⟨i32_lo _, i32_hi _⟩
  have bv_12 : ((-2147483648) ≤ v_12.toInt ∧ v_12.toInt ≤ 2147483647) := ⟨i32_lo _, i32_hi _⟩
  have bv_16 : ((-2147483648) ≤ v_16.toInt ∧ v_16.toInt ≤ 2147483647) := ⟨i32_lo _, i32_hi _⟩
  have bv_26 : ((-2147483648) ≤ v_26.toInt ∧ v_26.toInt ≤ 2147483647) := ⟨i32_lo _, i32_hi _⟩
  have bv_28 : ((-2147483648) ≤ v_28.toInt ∧ v_28.toInt ≤ 2147483647) := ⟨i32_lo _, i32_hi _⟩
  have bv_35 : ((-2147483648) ≤ v_35.toInt ∧ v_35.toInt ≤ 2147483647) := ⟨i32_lo _, i32_hi _⟩
  have bv_41 : ((-2147483648) ≤ v_41.toInt ∧ v_41.toInt ≤ 2147483647) := ⟨i32_lo _, i32_hi _⟩
  have bv_56 : ((-2147483648) ≤ v_56.toInt ∧ v_56.toInt ≤ 2147483647) := ⟨i32_lo _, i32_hi _⟩
  refine lv_aload_n hx hb dX12_feed_0 rfl (lv_at hl 0 rfl) ?_
  refine tk_getP (D := (dC, dI)) (ci := 12) (v := .int v_7) (C := RX12) (T := TX12) (N := 56) hx hb hU inlX12 hown hK hP mo0 hfo_1 rfl 5 (by decide) (hU _ wd_218) (fun _ h9 => h9) rfl dX12_feed_1 ?_
  refine lv_bipush (v := 20) hx hb dX12_feed_4 (by decide) ?_
  refine lv_iadd hx hb dX12_feed_6 ?_
  refine lv_topi (fun x_58 ex_58 => ?_)
  have hx_58 : x_58.toInt = v_7.toInt + 20 := by rw [ex_58, ad_I (by rw [ti_20]; omega) (by rw [ti_20]; omega), ti_20]
  have bx_58 : (20 ≤ x_58.toInt ∧ x_58.toInt ≤ 620) := by constructor <;> omega
  refine lv_sipush (v := 600) hx hb dX12_feed_7 (by decide) ?_
  refine lv_icmp_le (tgt := 15) hx hb dX12_feed_10 (by decide) (fun c_59 => ?_) (fun c_59 => ?_)
  · skip
    rw [Int32.le_iff_toInt_le, ti_600] at c_59
    refine lv_iconst (v := 0) hx hb dX12_feed_15 (by decide) ?_
    refine lv_istore (lv' := [(6, .int 0), (0, .ref o0), (1, .int p1), (2, .int p2), (3, .int p3), (4, .int p4), (5, .int p5)]) hx hb dX12_feed_16 hl (by decide) rfl (fun ls hl => ?_)
    have hloop_65 : ∀ (n : Nat), ∀ (y_66 : Int32), (0 ≤ y_66.toInt ∧ y_66.toInt ≤ 20) → ∀ (f_68 : Nat → va_E), GI (okc cI cL cZ cR cG cH L kd) kd L f_68 → ∀ (H : Heap) (locs : List Loc), va_P (dC, dI) vwCl (va_pl L f_68) H → va_S (fun q => q ∈ L) s.heap H locs → va_D (fun q => q ∈ L) (va_pl L f_68) → (∀ b, kd b ≠ 12 → kd b ≠ 578 → f_68 b = f b) → (∀ b, kd b = 12 → ∀ j, fldR (f_68 b) j = fldR (f b) j) → (∀ b, kd b = 12 → ∀ j, j ≠ 5 → fldI (f_68 b) j = fldI (f b) j) → ∀ (whloop_65_0_5 : Int32), fldI (f_68 o0) 5 = some whloop_65_0_5 → (whloop_65_0_5.toInt = v_7.toInt + y_66.toInt) → (0 ≤ whloop_65_0_5.toInt ∧ whloop_65_0_5.toInt ≤ 600) → 20 - y_66.toInt < (n : Int) → ∀ (ls : Array Slot), lv_has ls 8 [(6, .int y_66), (0, .ref o0), (1, .int p1), (2, .int p2), (3, .int p3), (4, .int p4), (5, .int p5)] → W p l e (headSpec (wU yX12_feed cX12_feed 8 (some .int)) { frames := 0, cells := 0, slots := 0, locals := 0 }).room s m [.ref o0, .int p1, .int p2, .int p3, .int p4, .int p5].toArray below meth c H locs 0 0 (MQ below (va_Qi (fun (r : Int32) (f9 : Nat → va_E) => GI (okc cI cL cZ cR cG cH L kd) kd L f9 ∧ ((-1) ≤ r.toInt ∧ r.toInt ≤ 600) ∧ (∀ b, kd b ≠ 12 → kd b ≠ 578 → f9 b = f b) ∧ (∀ b, kd b = 12 → ∀ j, fldR (f9 b) j = fldR (f b) j) ∧ (∀ b, kd b = 12 → ∀ j, j ≠ 5 → fldI (f9 b) j = fldI (f b) j) ∧ (∀ (w5 z5 : Int32), fldI (f o0) 5 = some w5 → fldI (f9 o0) 5 = some z5 → (w5.toInt + 20 ≤ 600 ∧ r.toInt = w5.toInt + 20 ∧ z5.toInt = w5.toInt + 20) ∨ (600 < w5.toInt + 20 ∧ r.toInt = -1 ∧ z5.toInt = w5.toInt))) (qP (dC, dI) cI cL cZ cR cG cH L) (fun q => q ∈ L)) [.ref o0, .int p1, .int p2, .int p3, .int p4, .int p5].toArray s 0 0 (fun q => q ∈ L)) (F0 m 18 ls []) := by
      intro n
      induction n with
      | zero => intro y_66 by_66 f_68 hG H locs hP hS hD hfr0 hrA12 hfA12 whloop_65_0_5 hghloop_65_0_5 hrelhloop_65_0 hrelhloop_65_1 hmuhloop_65 ls hl; exfalso; omega
      | succ n ih_hloop_65 =>
        intro y_66 by_66 f_68 hG H locs hP hS hD hfr0 hrA12 hfA12 whloop_65_0_5 hghloop_65_0_5 hrelhloop_65_0 hrelhloop_65_1 hmuhloop_65 ls hl
        obtain ⟨a_70, a_71, a_72, v_73, a_74, v_75, v_76, v_77, v_78, v_79, v_80, v_81, v_82, v_83, v_84, a_85, a_86, a_87, a_88, a_89, a_90, a_91, a_92, v_93, v_94, v_95, v_96, v_97, a_98, v_99, a_100, a_101, v_102, v_103, a_104, v_105, a_106, a_107, v_108, v_109, a_110, a_111, a_112, v_113, a_114, a_115, a_116, a_117, a_118, a_119, a_120, a_121, a_122, v_123, v_124, a_125, hfo_69, ⟨ma_70, ka_70⟩, ⟨ma_71, ka_71⟩, ⟨ma_72, ka_72⟩, bv_73, ⟨ma_74, ka_74⟩, bv_75, bv_76, bv_81, bv_82, bv_83, ⟨ma_85, ka_85⟩, ⟨ma_86, ka_86⟩, ⟨ma_87, ka_87⟩, ⟨ma_88, ka_88⟩, ⟨ma_89, ka_89⟩, ⟨ma_90, ka_90⟩, ⟨ma_91, ka_91⟩, ⟨ma_92, ka_92⟩, bv_93, bv_95, bv_97, ⟨ma_98, ka_98⟩, bv_99, ⟨ma_100, ka_100⟩, ⟨ma_101, ka_101⟩, bv_102, ⟨ma_104, ka_104⟩, bv_105, ⟨ma_106, ka_106⟩, ⟨ma_107, ka_107⟩, bv_108, ⟨ma_110, ka_110⟩, ⟨ma_111, ka_111⟩, ⟨ma_112, ka_112⟩, bv_113, ⟨ma_114, ka_114⟩, ⟨ma_115, ka_115⟩, ⟨ma_116, ka_116⟩, ⟨ma_117, ka_117⟩, ⟨ma_118, ka_118⟩, ⟨ma_119, ka_119⟩, ⟨ma_120, ka_120⟩, ⟨ma_121, ka_121⟩, ⟨ma_122, ka_122⟩, bv_123, ⟨ma_125, ka_125⟩⟩ := un_12 (hG _ mo0) ko0
        have bv_77 : ((-2147483648) ≤ v_77.toInt ∧ v_77.toInt ≤ 2147483647) := ⟨i32_lo _, i32_hi _⟩
        have bv_78 : ((-2147483648) ≤ v_78.toInt ∧ v_78.toInt ≤ 2147483647) := ⟨i32_lo _, i32_hi _⟩
        have bv_79 : ((-2147483648) ≤ v_79.toInt ∧ v_79.toInt ≤ 2147483647) := ⟨i32_lo _, i32_hi _⟩
        have bv_80 : ((-2147483648) ≤ v_80.toInt ∧ v_80.toInt ≤ 2147483647) := ⟨i32_lo _, i32_hi _⟩
        have bv_84 : ((-2147483648) ≤ v_84.toInt ∧ v_84.toInt ≤ 2147483647) := ⟨i32_lo _, i32_hi _⟩
        have bv_94 : ((-2147483648) ≤ v_94.toInt ∧ v_94.toInt ≤ 2147483647) := ⟨i32_lo _, i32_hi _⟩
        have bv_96 : ((-2147483648) ≤ v_96.toInt ∧ v_96.toInt ≤ 2147483647) := ⟨i32_lo _, i32_hi _⟩
        have bv_103 : ((-2147483648) ≤ v_103.toInt ∧ v_103.toInt ≤ 2147483647) := ⟨i32_lo _, i32_hi _⟩
        have bv_109 : ((-2147483648) ≤ v_109.toInt ∧ v_109.toInt ≤ 2147483647) := ⟨i32_lo _, i32_hi _⟩
        have bv_124 : ((-2147483648) ≤ v_124.toInt ∧ v_124.toInt ≤ 2147483647) := ⟨i32_lo _, i32_hi _⟩
        obtain ⟨rfl, rfl, rfl, rfl, rfl, rfl, rfl, rfl, rfl, rfl, rfl, rfl, rfl, rfl, rfl, rfl, rfl, rfl, rfl, rfl, rfl, rfl, rfl, rfl, rfl, rfl, rfl, rfl, rfl, rfl, rfl⟩ := re_12 hfo_1 hfo_69 (hrA12 o0 ko0)
        obtain rfl := ri_12_3 hfo_1 hfo_69 (hfA12 o0 ko0 3 (by decide))
        obtain rfl := ri_12_6 hfo_1 hfo_69 (hfA12 o0 ko0 6 (by decide))
        obtain rfl := ri_12_11 hfo_1 hfo_69 (hfA12 o0 ko0 11 (by decide))
        obtain rfl := ri_12_12 hfo_1 hfo_69 (hfA12 o0 ko0 12 (by decide))
        obtain rfl := ri_12_13 hfo_1 hfo_69 (hfA12 o0 ko0 13 (by decide))
        obtain rfl := ri_12_14 hfo_1 hfo_69 (hfA12 o0 ko0 14 (by decide))
        obtain rfl := ri_12_23 hfo_1 hfo_69 (hfA12 o0 ko0 23 (by decide))
        obtain rfl := ri_12_25 hfo_1 hfo_69 (hfA12 o0 ko0 25 (by decide))
        obtain rfl := ri_12_27 hfo_1 hfo_69 (hfA12 o0 ko0 27 (by decide))
        obtain rfl := ri_12_29 hfo_1 hfo_69 (hfA12 o0 ko0 29 (by decide))
        obtain rfl := ri_12_32 hfo_1 hfo_69 (hfA12 o0 ko0 32 (by decide))
        obtain rfl := ri_12_33 hfo_1 hfo_69 (hfA12 o0 ko0 33 (by decide))
        obtain rfl := ri_12_35 hfo_1 hfo_69 (hfA12 o0 ko0 35 (by decide))
        obtain rfl := ri_12_38 hfo_1 hfo_69 (hfA12 o0 ko0 38 (by decide))
        obtain rfl := ri_12_43 hfo_1 hfo_69 (hfA12 o0 ko0 43 (by decide))
        obtain rfl := ri_12_53 hfo_1 hfo_69 (hfA12 o0 ko0 53 (by decide))
        obtain rfl : v_75 = whloop_65_0_5 := by rw [hfo_69] at hghloop_65_0_5; exact Option.some.inj hghloop_65_0_5
        refine lv_iload hx hb dX12_feed_18 (lv_at hl 0 rfl) ?_
        refine lv_bipush (v := 20) hx hb dX12_feed_20 (by decide) ?_
        refine lv_icmp_ge (tgt := 115) hx hb dX12_feed_22 (by decide) (fun c_126 => ?_) (fun c_126 => ?_)
        · skip
          rw [Int32.le_iff_toInt_le, ti_20] at c_126
          refine lv_aload_n hx hb dX12_feed_115 rfl (lv_at hl 1 rfl) ?_
          refine tk_getP (D := (dC, dI)) (ci := 12) (v := .int v_75) (C := RX12) (T := TX12) (N := 56) hx hb hU inlX12 hown hK hP mo0 hfo_69 rfl 5 (by decide) (hU _ wd_218) (fun _ h9 => h9) rfl dX12_feed_116 ?_
          exact W.iret (v := v_75) hx hb hr (fun t ht hW => ⟨⟨v_75, f_68, rfl, ⟨hG, (by constructor <;> omega), hfr0, hrA12, hfA12, (by intro w5 z5 e5 d5; rw [hfo_1] at e5; rw [hfo_69] at d5; obtain rfl := Option.some.inj e5; obtain rfl := Option.some.inj d5; omega)⟩, by rw [ht]; exact hP, va_K.moved hW.alike hK, pl_in hD⟩, hS.F ht⟩) hS.2.2 dX12_feed_119
        · skip
          rw [Int32.le_iff_toInt_le, ti_20] at c_126
          have hclc_127 : (0 ≤ v_75.toInt ∧ v_75.toInt ≤ 599) := by constructor <;> omega
          refine lv_iload hx hb dX12_feed_25 (lv_at hl 0 rfl) ?_
          refine lv_iconst (v := 4) hx hb dX12_feed_27 (by decide) ?_
          have hcut_129 : ∀ (y_128 : Int32), ((-2147483648) ≤ y_128.toInt ∧ y_128.toInt ≤ 2147483647) → ∀ (ls : Array Slot), lv_has ls 8 [(6, .int y_66), (0, .ref o0), (1, .int p1), (2, .int p2), (3, .int p3), (4, .int p4), (5, .int p5)] → W p l e (headSpec (wU yX12_feed cX12_feed 8 (some .int)) { frames := 0, cells := 0, slots := 0, locals := 0 }).room s m [.ref o0, .int p1, .int p2, .int p3, .int p4, .int p5].toArray below meth c H locs 0 0 (MQ below (va_Qi (fun (r : Int32) (f9 : Nat → va_E) => GI (okc cI cL cZ cR cG cH L kd) kd L f9 ∧ ((-1) ≤ r.toInt ∧ r.toInt ≤ 600) ∧ (∀ b, kd b ≠ 12 → kd b ≠ 578 → f9 b = f b) ∧ (∀ b, kd b = 12 → ∀ j, fldR (f9 b) j = fldR (f b) j) ∧ (∀ b, kd b = 12 → ∀ j, j ≠ 5 → fldI (f9 b) j = fldI (f b) j) ∧ (∀ (w5 z5 : Int32), fldI (f o0) 5 = some w5 → fldI (f9 o0) 5 = some z5 → (w5.toInt + 20 ≤ 600 ∧ r.toInt = w5.toInt + 20 ∧ z5.toInt = w5.toInt + 20) ∨ (600 < w5.toInt + 20 ∧ r.toInt = -1 ∧ z5.toInt = w5.toInt))) (qP (dC, dI) cI cL cZ cR cG cH L) (fun q => q ∈ L)) [.ref o0, .int p1, .int p2, .int p3, .int p4, .int p5].toArray s 0 0 (fun q => q ∈ L)) (F0 m 71 ls [.int y_128]) := by
            intro y_128 by_128 ls hl
            refine lv_istore (lv' := [(7, .int y_128), (6, .int y_66), (0, .ref o0), (1, .int p1), (2, .int p2), (3, .int p3), (4, .int p4), (5, .int p5)]) hx hb dX12_feed_71 hl (by decide) rfl (fun ls hl => ?_)
            refine lv_aload_n hx hb dX12_feed_73 rfl (lv_at hl 2 rfl) ?_
            refine tk_getP (D := (dC, dI)) (ci := 12) (v := .ref a_6) (C := RX12) (T := TX12) (N := 56) hx hb hU inlX12 hown hK hP mo0 hfo_69 rfl 4 (by decide) (hU _ wd_172) (fun _ h9 => h9) rfl dX12_feed_74 ?_
            refine lv_aload_n hx hb dX12_feed_77 rfl (lv_at hl 2 rfl) ?_
            refine tk_getP (D := (dC, dI)) (ci := 12) (v := .int v_75) (C := RX12) (T := TX12) (N := 56) hx hb hU inlX12 hown hK hP mo0 hfo_69 rfl 5 (by decide) (hU _ wd_218) (fun _ h9 => h9) rfl dX12_feed_78 ?_
            refine lv_iload hx hb dX12_feed_81 (lv_at hl 0 rfl) ?_
            refine lv_bipush (v := 24) hx hb dX12_feed_83 (by decide) ?_
            refine lv_bipush (v := 8) hx hb dX12_feed_85 (by decide) ?_
            refine lv_iload hx hb dX12_feed_87 (lv_at hl 1 rfl) ?_
            refine lv_iconst (v := 4) hx hb dX12_feed_89 (by decide) ?_
            refine lv_irem hx hb dX12_feed_90 (by decide) ?_
            refine lv_topi (fun x_130 ex_130 => ?_)
            have hx_130 : x_130.toInt = y_66.toInt % 4 := by rw [ex_130, rm_I (by omega) (by rw [ti_4]; omega), ti_4]
            have bx_130 : (0 ≤ x_130.toInt ∧ x_130.toInt ≤ 3) := by constructor <;> omega
            refine lv_imul hx hb dX12_feed_91 ?_
            refine lv_topi (fun x_131 ex_131 => ?_)
            have hx_131 : x_131.toInt = 8 * x_130.toInt := by rw [ex_131, ml_I (by rw [ti_8]; omega) (by rw [ti_8]; omega), ti_8]
            have bx_131 : (0 ≤ x_131.toInt ∧ x_131.toInt ≤ 24) := by constructor <;> omega
            refine lv_isub hx hb dX12_feed_92 ?_
            refine lv_topi (fun x_132 ex_132 => ?_)
            have hx_132 : x_132.toInt = 24 - x_131.toInt := by rw [ex_132, sb_I (by rw [ti_24]; omega) (by rw [ti_24]; omega), ti_24]
            have bx_132 : (0 ≤ x_132.toInt ∧ x_132.toInt ≤ 24) := by constructor <;> omega
            refine lv_ishr hx hb dX12_feed_93 ?_
            refine lv_topi (fun x_133 ex_133 => ?_)
            have bx_133 : ((-2147483648) ≤ x_133.toInt ∧ x_133.toInt ≤ 2147483647) := ⟨i32_lo _, i32_hi _⟩
            refine lv_sipush (v := 255) hx hb dX12_feed_94 (by decide) ?_
            refine lv_iand hx hb dX12_feed_97 ?_
            refine lv_topi (fun x_134 ex_134 => ?_)
            have bx_134 : (0 ≤ x_134.toInt ∧ x_134.toInt ≤ 255) := by rw [ex_134]; have h8 := an_C x_133 (m := 255) (by decide); rw [ti_255] at h8; exact h8
            obtain ⟨g_136, hfo_135, hbg_136⟩ := un_578 (hG _ ma_6) ka_6
            refine tk_istP hx hb hK hP hD hS 0 ma_6 hfo_135 rfl (vp_in_iff.mpr (by constructor <;> omega)) dX12_feed_98 (fun H locs hP hD hS => ?_)
            obtain ⟨f_138, ef_138⟩ : ∃ y : Nat → va_E, y = va_up f_68 a_6 (.inl (cI, 600, .inl (upd g_136 (Int32.toNatClampNeg v_75) x_134))) := ⟨_, rfl⟩
            have hP : va_P (dC, dI) vwCl (va_pl L f_138) H := by rw [ef_138]; exact hP
            have hD : va_D (fun q => q ∈ L) (va_pl L f_138) := by rw [ef_138]; exact hD
            have hG : GI (okc cI cL cZ cR cG cH L kd) kd L f_138 := by rw [ef_138]; exact hG.set a_6 (mk_578 ka_6 ⟨_, rfl, okI_up hbg_136 (by constructor <;> omega) _⟩)
            have hfo_139 : f_138 o0 = .inr (12, [.ref a_2, .ref a_3, .ref a_4, .int v_5, .ref a_6, .int v_75, .int v_8, .int v_77, .int v_78, .int v_79, .int v_80, .int v_13, .int v_14, .int v_15, .int v_16, .ref a_17, .ref a_18, .ref a_19, .ref a_20, .ref a_21, .ref a_22, .ref a_23, .ref a_24, .int v_25, .int v_94, .int v_27, .int v_96, .int v_29, .ref a_30, .int v_31, .ref a_32, .ref a_33, .int v_34, .int v_35, .ref a_36, .int v_37, .ref a_38, .ref a_39, .int v_40, .int v_109, .ref a_42, .ref a_43, .ref a_44, .int v_45, .ref a_46, .ref a_47, .ref a_48, .ref a_49, .ref a_50, .ref a_51, .ref a_52, .ref a_53, .ref a_54, .int v_55, .int v_124, .ref a_57]) := by rw [ef_138, up_ne (kd_ne ka_6 ko0 (by decide))]; exact hfo_69
            have hfr0 : ∀ b, kd b ≠ 12 → kd b ≠ 578 → f_138 b = f b := fun b q12 q578 => (congrFun ef_138 b).trans ((up_ne (fun e9 => q578 (by rw [e9]; exact ka_6))).trans (hfr0 b q12 q578))
            have hrA12 : ∀ b, kd b = 12 → ∀ j, fldR (f_138 b) j = fldR (f b) j := fun b kb j => (congrArg (fun x => fldR x j) ((congrFun ef_138 b).trans (up_ne (kd_ne ka_6 kb (by decide))))).trans (hrA12 b kb j)
            have hfA12 : ∀ b, kd b = 12 → ∀ j, j ≠ 5 → fldI (f_138 b) j = fldI (f b) j := fun b kb j n5 => (congrArg (fun x => fldI x j) ((congrFun ef_138 b).trans (up_ne (kd_ne ka_6 kb (by decide))))).trans (hfA12 b kb j n5)
            have hfo_140 : f_138 a_6 = .inl (cI, 600, .inl (upd g_136 (Int32.toNatClampNeg v_75) x_134)) := by rw [ef_138]; exact up_self
            refine lv_aload_n hx hb dX12_feed_99 rfl (lv_at hl 2 rfl) ?_
            refine lv_dup hx hb dX12_feed_100 rfl ?_
            refine tk_getP (D := (dC, dI)) (ci := 12) (v := .int v_75) (C := RX12) (T := TX12) (N := 56) hx hb hU inlX12 hown hK hP mo0 hfo_139 rfl 5 (by decide) (hU _ wd_218) (fun _ h9 => h9) rfl dX12_feed_101 ?_
            refine lv_iconst (v := 1) hx hb dX12_feed_104 (by decide) ?_
            refine lv_iadd hx hb dX12_feed_105 ?_
            refine lv_topi (fun x_141 ex_141 => ?_)
            have hx_141 : x_141.toInt = v_75.toInt + 1 := by rw [ex_141, ad_I (by rw [ti_1]; omega) (by rw [ti_1]; omega), ti_1]
            have bx_141 : (1 ≤ x_141.toInt ∧ x_141.toInt ≤ 600) := by constructor <;> omega
            refine tk_putP (D := (dC, dI)) (ci := 12) (v := .int x_141) (ty := .int) (C := RX12) (T := TX12) (N := 56) hx hb hU inlX12 tyX12 tyX12_ok nmX12 hown hK hP hD hS mo0 hfo_139 rfl 5 (by decide) (hU _ wd_218) (fun _ h9 => h9) rfl (by decide +kernel) rfl rfl (Nat.le_of_ble_eq_true rfl) dX12_feed_106 (fun H locs hP hD hS => ?_)
            obtain ⟨f_143, ef_143⟩ : ∃ y : Nat → va_E, y = va_up f_138 o0 (.inr (12, [.ref a_2, .ref a_3, .ref a_4, .int v_5, .ref a_6, .int x_141, .int v_8, .int v_77, .int v_78, .int v_79, .int v_80, .int v_13, .int v_14, .int v_15, .int v_16, .ref a_17, .ref a_18, .ref a_19, .ref a_20, .ref a_21, .ref a_22, .ref a_23, .ref a_24, .int v_25, .int v_94, .int v_27, .int v_96, .int v_29, .ref a_30, .int v_31, .ref a_32, .ref a_33, .int v_34, .int v_35, .ref a_36, .int v_37, .ref a_38, .ref a_39, .int v_40, .int v_109, .ref a_42, .ref a_43, .ref a_44, .int v_45, .ref a_46, .ref a_47, .ref a_48, .ref a_49, .ref a_50, .ref a_51, .ref a_52, .ref a_53, .ref a_54, .int v_55, .int v_124, .ref a_57])) := ⟨_, rfl⟩
            have hP : va_P (dC, dI) vwCl (va_pl L f_143) H := by rw [ef_143]; exact hP
            have hD : va_D (fun q => q ∈ L) (va_pl L f_143) := by rw [ef_143]; exact hD
            have hG : GI (okc cI cL cZ cR cG cH L kd) kd L f_143 := by rw [ef_143]; exact hG.set o0 (mk_12 ko0 ⟨a_2, a_3, a_4, v_5, a_6, x_141, v_8, v_77, v_78, v_79, v_80, v_13, v_14, v_15, v_16, a_17, a_18, a_19, a_20, a_21, a_22, a_23, a_24, v_25, v_94, v_27, v_96, v_29, a_30, v_31, a_32, a_33, v_34, v_35, a_36, v_37, a_38, a_39, v_40, v_109, a_42, a_43, a_44, v_45, a_46, a_47, a_48, a_49, a_50, a_51, a_52, a_53, a_54, v_55, v_124, a_57, rfl, ⟨ma_2, ka_2⟩, ⟨ma_3, ka_3⟩, ⟨ma_4, ka_4⟩, (by constructor <;> omega), ⟨ma_6, ka_6⟩, (by constructor <;> omega), (by constructor <;> omega), (by constructor <;> omega), (by constructor <;> omega), (by constructor <;> omega), ⟨ma_17, ka_17⟩, ⟨ma_18, ka_18⟩, ⟨ma_19, ka_19⟩, ⟨ma_20, ka_20⟩, ⟨ma_21, ka_21⟩, ⟨ma_22, ka_22⟩, ⟨ma_23, ka_23⟩, ⟨ma_24, ka_24⟩, (by constructor <;> omega), (by constructor <;> omega), (by constructor <;> omega), ⟨ma_30, ka_30⟩, (by constructor <;> omega), ⟨ma_32, ka_32⟩, ⟨ma_33, ka_33⟩, (by constructor <;> omega), ⟨ma_36, ka_36⟩, (by constructor <;> omega), ⟨ma_38, ka_38⟩, ⟨ma_39, ka_39⟩, (by constructor <;> omega), ⟨ma_42, ka_42⟩, ⟨ma_43, ka_43⟩, ⟨ma_44, ka_44⟩, (by constructor <;> omega), ⟨ma_46, ka_46⟩, ⟨ma_47, ka_47⟩, ⟨ma_48, ka_48⟩, ⟨ma_49, ka_49⟩, ⟨ma_50, ka_50⟩, ⟨ma_51, ka_51⟩, ⟨ma_52, ka_52⟩, ⟨ma_53, ka_53⟩, ⟨ma_54, ka_54⟩, (by constructor <;> omega), ⟨ma_57, ka_57⟩⟩)
            have hfr0 : ∀ b, kd b ≠ 12 → kd b ≠ 578 → f_143 b = f b := fun b q12 q578 => (congrFun ef_143 b).trans ((up_ne (fun e9 => q12 (by rw [e9]; exact ko0))).trans (hfr0 b q12 q578))
            have hrA12 : ∀ b, kd b = 12 → ∀ j, fldR (f_143 b) j = fldR (f b) j := fun b kb j => ((congrArg (fun x => fldR x j) (congrFun ef_143 b)).trans (fra_up (fun j => by rw [hfo_139]; exact fr_set (k := 5) rfl rfl j) j b)).trans (hrA12 b kb j)
            have hfA12 : ∀ b, kd b = 12 → ∀ j, j ≠ 5 → fldI (f_143 b) j = fldI (f b) j := fun b kb j n5 => ((congrArg (fun x => fldI x j) (congrFun ef_143 b)).trans (fia_up (fun h9 => by rw [hfo_139]; exact fi_set (k := 5) rfl h9) n5 b)).trans (hfA12 b kb j n5)
            have hfo_144 : f_143 o0 = .inr (12, [.ref a_2, .ref a_3, .ref a_4, .int v_5, .ref a_6, .int x_141, .int v_8, .int v_77, .int v_78, .int v_79, .int v_80, .int v_13, .int v_14, .int v_15, .int v_16, .ref a_17, .ref a_18, .ref a_19, .ref a_20, .ref a_21, .ref a_22, .ref a_23, .ref a_24, .int v_25, .int v_94, .int v_27, .int v_96, .int v_29, .ref a_30, .int v_31, .ref a_32, .ref a_33, .int v_34, .int v_35, .ref a_36, .int v_37, .ref a_38, .ref a_39, .int v_40, .int v_109, .ref a_42, .ref a_43, .ref a_44, .int v_45, .ref a_46, .ref a_47, .ref a_48, .ref a_49, .ref a_50, .ref a_51, .ref a_52, .ref a_53, .ref a_54, .int v_55, .int v_124, .ref a_57]) := by rw [ef_143]; exact up_self
            obtain ⟨x_145, ex_145⟩ : ∃ y : Int32, y_66 + 1 = y := ⟨_, rfl⟩
            have hx_145 : x_145.toInt = y_66.toInt + 1 := by rw [← ex_145, ad_I (by rw [ti_1]; omega) (by rw [ti_1]; omega), ti_1]
            have bx_145 : (1 ≤ x_145.toInt ∧ x_145.toInt ≤ 20) := by constructor <;> omega
            refine lv_iinc (v := x_145) (lv' := [(6, .int x_145), (7, .int y_128), (0, .ref o0), (1, .int p1), (2, .int p2), (3, .int p3), (4, .int p4), (5, .int p5)]) hx hb dX12_feed_109 hl (k := 1) rfl ex_145 (by decide) rfl (fun ls hl => ?_)
            refine lv_goto (tgt := 18) hx hb dX12_feed_112 (by decide) ?_
            exact ih_hloop_65 x_145 (by constructor <;> omega) f_143 hG _ _ hP hS hD hfr0 hrA12 hfA12 x_141 (by rw [hfo_144]; rfl) (by omega) (by omega) (by omega) ls (lv_sub hl [0, 2, 3, 4, 5, 6, 7] rfl)
          refine lv_icmp_ge (tgt := 35) hx hb dX12_feed_28 (by decide) (fun c_146 => ?_) (fun c_146 => ?_)
          · skip
            rw [Int32.le_iff_toInt_le, ti_4] at c_146
            refine lv_iload hx hb dX12_feed_35 (lv_at hl 0 rfl) ?_
            refine lv_bipush (v := 8) hx hb dX12_feed_37 (by decide) ?_
            refine lv_icmp_ge (tgt := 46) hx hb dX12_feed_39 (by decide) (fun c_147 => ?_) (fun c_147 => ?_)
            · skip
              rw [Int32.le_iff_toInt_le, ti_8] at c_147
              refine lv_iload hx hb dX12_feed_46 (lv_at hl 0 rfl) ?_
              refine lv_bipush (v := 12) hx hb dX12_feed_48 (by decide) ?_
              refine lv_icmp_ge (tgt := 57) hx hb dX12_feed_50 (by decide) (fun c_148 => ?_) (fun c_148 => ?_)
              · skip
                rw [Int32.le_iff_toInt_le, ti_12] at c_148
                refine lv_iload hx hb dX12_feed_57 (lv_at hl 0 rfl) ?_
                refine lv_bipush (v := 16) hx hb dX12_feed_59 (by decide) ?_
                refine lv_icmp_ge (tgt := 69) hx hb dX12_feed_61 (by decide) (fun c_149 => ?_) (fun c_149 => ?_)
                · skip
                  rw [Int32.le_iff_toInt_le, ti_16] at c_149
                  refine lv_iload hx hb dX12_feed_69 (lv_at hl 6 rfl) ?_
                  exact hcut_129 p5 (by constructor <;> omega) ls (lv_sub hl [0, 1, 2, 3, 4, 5, 6] rfl)
                · skip
                  rw [Int32.le_iff_toInt_le, ti_16] at c_149
                  refine lv_iload hx hb dX12_feed_64 (lv_at hl 5 rfl) ?_
                  refine lv_goto (tgt := 71) hx hb dX12_feed_66 (by decide) ?_
                  exact hcut_129 p4 (by constructor <;> omega) ls (lv_sub hl [0, 1, 2, 3, 4, 5, 6] rfl)
              · skip
                rw [Int32.le_iff_toInt_le, ti_12] at c_148
                refine lv_iload_n hx hb dX12_feed_53 rfl (lv_at hl 4 rfl) ?_
                refine lv_goto (tgt := 71) hx hb dX12_feed_54 (by decide) ?_
                exact hcut_129 p3 (by constructor <;> omega) ls (lv_sub hl [0, 1, 2, 3, 4, 5, 6] rfl)
            · skip
              rw [Int32.le_iff_toInt_le, ti_8] at c_147
              refine lv_iload_n hx hb dX12_feed_42 rfl (lv_at hl 3 rfl) ?_
              refine lv_goto (tgt := 71) hx hb dX12_feed_43 (by decide) ?_
              exact hcut_129 p2 (by constructor <;> omega) ls (lv_sub hl [0, 1, 2, 3, 4, 5, 6] rfl)
          · skip
            rw [Int32.le_iff_toInt_le, ti_4] at c_146
            refine lv_iload_n hx hb dX12_feed_31 rfl (lv_at hl 2 rfl) ?_
            refine lv_goto (tgt := 71) hx hb dX12_feed_32 (by decide) ?_
            exact hcut_129 p1 (by constructor <;> omega) ls (lv_sub hl [0, 1, 2, 3, 4, 5, 6] rfl)
    exact hloop_65 21 0 (by decide) f hG _ _ hP hS hD hfr0 hrA12 hfA12 v_7 (by rw [hfo_1]; rfl) (by (try rw [ti_0]) <;> omega) (by (try rw [ti_0]) <;> omega) (by (try rw [ti_0]) <;> omega) ls hl
  · skip
    rw [Int32.le_iff_toInt_le, ti_600] at c_59
    refine lv_iconst (v := (-1)) hx hb dX12_feed_13 (by decide) ?_
    exact W.iret (v := (-1)) hx hb hr (fun t ht hW => ⟨⟨(-1), f, rfl, ⟨hG, (by decide), hfr0, hrA12, hfA12, (by intro w5 z5 e5 d5; rw [hfo_1] at e5; rw [hfo_1] at d5; obtain rfl := Option.some.inj e5; obtain rfl := Option.some.inj d5; (try rw [ti_m1]) <;> omega)⟩, by rw [ht]; exact hP, va_K.moved hW.alike hK, pl_in hD⟩, hS.F ht⟩) hS.2.2 dX12_feed_14
set_option maxHeartbeats 8000000 in
set_option maxRecDepth 100000 in
theorem s_X12_end_k12 (l : Launch) (D : va_G) (cI cL cZ cR cG cH : ClassId) (Z : zT) (kd : Nat → Nat) (L : List Nat) (f : Nat → va_E) (hG : GI (okc cI cL cZ cR cG cH L kd) kd L f) (o0 : Nat) (mo0 : o0 ∈ L) (ko0 : kd o0 = 12) (p1 : Int32) : mPI l D cI cL cZ cR cG cH Z yX12_end cX12_end 2 (some .boolean) 1 22 [.ref o0, .int p1] L f (fun (r : Int32) (f9 : Nat → va_E) => GI (okc cI cL cZ cR cG cH L kd) kd L f9 ∧ (0 ≤ r.toInt ∧ r.toInt ≤ 1) ∧ (∀ b, kd b ≠ 12 → f9 b = f b) ∧ (∀ b, kd b = 12 → ∀ j, fldR (f9 b) j = fldR (f b) j) ∧ (∀ b, kd b = 12 → ∀ j, j ≠ 5 → fldI (f9 b) j = fldI (f b) j) ∧ (∀ (w5 z5 : Int32), fldI (f o0) 5 = some w5 → fldI (f9 o0) 5 = some z5 → (r.toInt = 1 ∧ 0 ≤ p1.toInt ∧ p1.toInt ≤ w5.toInt ∧ z5.toInt = p1.toInt) ∨ (r.toInt = 0 ∧ (p1.toInt < 0 ∨ w5.toInt < p1.toInt) ∧ z5.toInt = w5.toInt))) := by
  obtain ⟨dC, dI⟩ := D
  refine Met.ofW (cc := cX12_end) (maxL := 2) (ret := (some .boolean)) (by decide) rfl ?_
  intro p e s m args below meth c s₁ B hml hv
  obtain ⟨rfl, hP, hK, hD0, hN, hZ⟩ := hv
  have hx := B.exec
  have hb := B.bytes
  have hr := B.returns
  have hU : ∀ w ∈ wsU, w.before _ s = true := fun w h => atoms_spec (ws := wU yX12_end cX12_end 2 (some .boolean)) B.pre w (List.mem_cons_of_mem _ h)
  have hown : s.vm.findClass RX12 = some m.cls := findClass_of_methodNamed B.named
  have hlocks := B.notSynchronized
  have hD := pl_in hD0
  have hS : va_S (fun q => q ∈ L) s.heap s.heap [] := va_S.rf
  have hl := lv_entry ([.ref o0, .int p1]) (n := 2) (Nat.le_of_ble_eq_true rfl)
  rw [lg_entry_eq]
  generalize (lg_sl ([.ref o0, .int p1]) ++ List.replicate (2 - (lg_sl ([.ref o0, .int p1])).length) Slot.unset).toArray = ls at hl ⊢
  have hl : lv_has ls 2 [(0, .ref o0), (1, .int p1)] := hl
  have bp1 : ((-2147483648) ≤ p1.toInt ∧ p1.toInt ≤ 2147483647) := ⟨i32_lo _, i32_hi _⟩
  have hfr0 : ∀ b, kd b ≠ 12 → f b = f b := fun _ _ => rfl
  have hrA12 : ∀ b, kd b = 12 → ∀ j, fldR (f b) j = fldR (f b) j := fun _ _ _ => rfl
  have hfA12 : ∀ b, kd b = 12 → ∀ j, j ≠ 5 → fldI (f b) j = fldI (f b) j := fun _ _ _ _ => rfl
  obtain ⟨a_2, a_3, a_4, v_5, a_6, v_7, v_8, v_9, v_10, v_11, v_12, v_13, v_14, v_15, v_16, a_17, a_18, a_19, a_20, a_21, a_22, a_23, a_24, v_25, v_26, v_27, v_28, v_29, a_30, v_31, a_32, a_33, v_34, v_35, a_36, v_37, a_38, a_39, v_40, v_41, a_42, a_43, a_44, v_45, a_46, a_47, a_48, a_49, a_50, a_51, a_52, a_53, a_54, v_55, v_56, a_57, hfo_1, ⟨ma_2, ka_2⟩, ⟨ma_3, ka_3⟩, ⟨ma_4, ka_4⟩, bv_5, ⟨ma_6, ka_6⟩, bv_7, bv_8, bv_13, bv_14, bv_15, ⟨ma_17, ka_17⟩, ⟨ma_18, ka_18⟩, ⟨ma_19, ka_19⟩, ⟨ma_20, ka_20⟩, ⟨ma_21, ka_21⟩, ⟨ma_22, ka_22⟩, ⟨ma_23, ka_23⟩, ⟨ma_24, ka_24⟩, bv_25, bv_27, bv_29, ⟨ma_30, ka_30⟩, bv_31, ⟨ma_32, ka_32⟩, ⟨ma_33, ka_33⟩, bv_34, ⟨ma_36, ka_36⟩, bv_37, ⟨ma_38, ka_38⟩, ⟨ma_39, ka_39⟩, bv_40, ⟨ma_42, ka_42⟩, ⟨ma_43, ka_43⟩, ⟨ma_44, ka_44⟩, bv_45, ⟨ma_46, ka_46⟩, ⟨ma_47, ka_47⟩, ⟨ma_48, ka_48⟩, ⟨ma_49, ka_49⟩, ⟨ma_50, ka_50⟩, ⟨ma_51, ka_51⟩, ⟨ma_52, ka_52⟩, ⟨ma_53, ka_53⟩, ⟨ma_54, ka_54⟩, bv_55, ⟨ma_57, ka_57⟩⟩ := un_12 (hG _ mo0) ko0
  have bv_9 : ((-2147483648) ≤ v_9.toInt ∧ v_9.toInt ≤ 2147483647) := ⟨i32_lo _, i32_hi _⟩
  have bv_10 : ((-2147483648) ≤ v_10.toInt ∧ v_10.toInt ≤ 2147483647) := ⟨i32_lo _, i32_hi _⟩
  have bv_11 : ((-2147483648) ≤ v_11.toInt ∧ v_11.toInt ≤ 2147483647) := ⟨i32_lo _, i32_hi _⟩
  have bv_12 : ((-2147483648) ≤ v_12.toInt ∧ v_12.toInt ≤ 2147483647) := ⟨i32_lo _, i32_hi _⟩
  have bv_16 : ((-2147483648) ≤ v_16.toInt ∧ v_16.toInt ≤ 2147483647) := ⟨i32_lo _, i32_hi _⟩
  have bv_26 : ((-2147483648) ≤ v_26.toInt ∧ v_26.toInt ≤ 2147483647) := ⟨i32_lo _, i32_hi _⟩
  have bv_28 : ((-2147483648) ≤ v_28.toInt ∧ v_28.toInt ≤ 2147483647) := ⟨i32_lo _, i32_hi _⟩
  have bv_35 : ((-2147483648) ≤ v_35.toInt ∧ v_35.toInt ≤ 2147483647) := ⟨i32_lo _, i32_hi _⟩
  have bv_41 : ((-2147483648) ≤ v_41.toInt ∧ v_41.toInt ≤ 2147483647) := ⟨i32_lo _, i32_hi _⟩
  have bv_56 : ((-2147483648) ≤ v_56.toInt ∧ v_56.toInt ≤ 2147483647) := ⟨i32_lo _, i32_hi _⟩
  refine lv_iload_n hx hb dX12_end_0 rfl (lv_at hl 1 rfl) ?_
  refine lv_iconst (v := 0) hx hb dX12_end_1 (by decide) ?_
  refine lv_aload_n hx hb dX12_end_2 rfl (lv_at hl 0 rfl) ?_
  refine tk_getP (D := (dC, dI)) (ci := 12) (v := .int v_7) (C := RX12) (T := TX12) (N := 56) hx hb hU inlX12 hown hK hP mo0 hfo_1 rfl 5 (by decide) (hU _ wd_218) (fun _ h9 => h9) rfl dX12_end_3 ?_
  refine tk_SiP (As := [.int p1, .int 0, .int v_7]) (rest := []) (n := 3) hx hb hml hown hU hN hZ (s_X12_isIn l (dC, dI) cI cL cZ cR cG cH Z kd L f hG p1 0 v_7) wd_227 wd_228 wd_5 wd_229 (by decide +kernel) ⟨Nat.le_of_ble_eq_true rfl, Nat.le_of_ble_eq_true rfl⟩ hK hP hD hS rfl hl.1 rfl (Nat.le_of_ble_eq_true rfl) dX12_end_6 ⟨Nat.le_of_ble_eq_true rfl, Nat.le_of_ble_eq_true rfl⟩ (fun x_58 f_59 H locs hw hP hD hS => ?_)
  obtain ⟨rfl, bx_58, relx_58⟩ := hw
  try rw [ti_0] at relx_58
  refine lv_if_ne (tgt := 14) hx hb dX12_end_9 (by decide) (fun c_61 => ?_) (fun c_61 => ?_)
  · skip
    rw [← Int32.toInt_inj, ti_0] at c_61
    refine lv_aload_n hx hb dX12_end_14 rfl (lv_at hl 0 rfl) ?_
    refine lv_iload_n hx hb dX12_end_15 rfl (lv_at hl 1 rfl) ?_
    refine tk_putP (D := (dC, dI)) (ci := 12) (v := .int p1) (ty := .int) (C := RX12) (T := TX12) (N := 56) hx hb hU inlX12 tyX12 tyX12_ok nmX12 hown hK hP hD hS mo0 hfo_1 rfl 5 (by decide) (hU _ wd_218) (fun _ h9 => h9) rfl (by decide +kernel) rfl rfl (Nat.le_of_ble_eq_true rfl) dX12_end_16 (fun H locs hP hD hS => ?_)
    obtain ⟨f_63, ef_63⟩ : ∃ y : Nat → va_E, y = va_up f o0 (.inr (12, [.ref a_2, .ref a_3, .ref a_4, .int v_5, .ref a_6, .int p1, .int v_8, .int v_9, .int v_10, .int v_11, .int v_12, .int v_13, .int v_14, .int v_15, .int v_16, .ref a_17, .ref a_18, .ref a_19, .ref a_20, .ref a_21, .ref a_22, .ref a_23, .ref a_24, .int v_25, .int v_26, .int v_27, .int v_28, .int v_29, .ref a_30, .int v_31, .ref a_32, .ref a_33, .int v_34, .int v_35, .ref a_36, .int v_37, .ref a_38, .ref a_39, .int v_40, .int v_41, .ref a_42, .ref a_43, .ref a_44, .int v_45, .ref a_46, .ref a_47, .ref a_48, .ref a_49, .ref a_50, .ref a_51, .ref a_52, .ref a_53, .ref a_54, .int v_55, .int v_56, .ref a_57])) := ⟨_, rfl⟩
    have hP : va_P (dC, dI) vwCl (va_pl L f_63) H := by rw [ef_63]; exact hP
    have hD : va_D (fun q => q ∈ L) (va_pl L f_63) := by rw [ef_63]; exact hD
    have hG : GI (okc cI cL cZ cR cG cH L kd) kd L f_63 := by rw [ef_63]; exact hG.set o0 (mk_12 ko0 ⟨a_2, a_3, a_4, v_5, a_6, p1, v_8, v_9, v_10, v_11, v_12, v_13, v_14, v_15, v_16, a_17, a_18, a_19, a_20, a_21, a_22, a_23, a_24, v_25, v_26, v_27, v_28, v_29, a_30, v_31, a_32, a_33, v_34, v_35, a_36, v_37, a_38, a_39, v_40, v_41, a_42, a_43, a_44, v_45, a_46, a_47, a_48, a_49, a_50, a_51, a_52, a_53, a_54, v_55, v_56, a_57, rfl, ⟨ma_2, ka_2⟩, ⟨ma_3, ka_3⟩, ⟨ma_4, ka_4⟩, (by constructor <;> omega), ⟨ma_6, ka_6⟩, (by constructor <;> omega), (by constructor <;> omega), (by constructor <;> omega), (by constructor <;> omega), (by constructor <;> omega), ⟨ma_17, ka_17⟩, ⟨ma_18, ka_18⟩, ⟨ma_19, ka_19⟩, ⟨ma_20, ka_20⟩, ⟨ma_21, ka_21⟩, ⟨ma_22, ka_22⟩, ⟨ma_23, ka_23⟩, ⟨ma_24, ka_24⟩, (by constructor <;> omega), (by constructor <;> omega), (by constructor <;> omega), ⟨ma_30, ka_30⟩, (by constructor <;> omega), ⟨ma_32, ka_32⟩, ⟨ma_33, ka_33⟩, (by constructor <;> omega), ⟨ma_36, ka_36⟩, (by constructor <;> omega), ⟨ma_38, ka_38⟩, ⟨ma_39, ka_39⟩, (by constructor <;> omega), ⟨ma_42, ka_42⟩, ⟨ma_43, ka_43⟩, ⟨ma_44, ka_44⟩, (by constructor <;> omega), ⟨ma_46, ka_46⟩, ⟨ma_47, ka_47⟩, ⟨ma_48, ka_48⟩, ⟨ma_49, ka_49⟩, ⟨ma_50, ka_50⟩, ⟨ma_51, ka_51⟩, ⟨ma_52, ka_52⟩, ⟨ma_53, ka_53⟩, ⟨ma_54, ka_54⟩, (by constructor <;> omega), ⟨ma_57, ka_57⟩⟩)
    have hfr0 : ∀ b, kd b ≠ 12 → f_63 b = f b := fun b q12 => (congrFun ef_63 b).trans ((up_ne (fun e9 => q12 (by rw [e9]; exact ko0))).trans (hfr0 b q12))
    have hrA12 : ∀ b, kd b = 12 → ∀ j, fldR (f_63 b) j = fldR (f b) j := fun b kb j => ((congrArg (fun x => fldR x j) (congrFun ef_63 b)).trans (fra_up (fun j => by rw [hfo_1]; exact fr_set (k := 5) rfl rfl j) j b)).trans (hrA12 b kb j)
    have hfA12 : ∀ b, kd b = 12 → ∀ j, j ≠ 5 → fldI (f_63 b) j = fldI (f b) j := fun b kb j n5 => ((congrArg (fun x => fldI x j) (congrFun ef_63 b)).trans (fia_up (fun h9 => by rw [hfo_1]; exact fi_set (k := 5) rfl h9) n5 b)).trans (hfA12 b kb j n5)
    have hfo_64 : f_63 o0 = .inr (12, [.ref a_2, .ref a_3, .ref a_4, .int v_5, .ref a_6, .int p1, .int v_8, .int v_9, .int v_10, .int v_11, .int v_12, .int v_13, .int v_14, .int v_15, .int v_16, .ref a_17, .ref a_18, .ref a_19, .ref a_20, .ref a_21, .ref a_22, .ref a_23, .ref a_24, .int v_25, .int v_26, .int v_27, .int v_28, .int v_29, .ref a_30, .int v_31, .ref a_32, .ref a_33, .int v_34, .int v_35, .ref a_36, .int v_37, .ref a_38, .ref a_39, .int v_40, .int v_41, .ref a_42, .ref a_43, .ref a_44, .int v_45, .ref a_46, .ref a_47, .ref a_48, .ref a_49, .ref a_50, .ref a_51, .ref a_52, .ref a_53, .ref a_54, .int v_55, .int v_56, .ref a_57]) := by rw [ef_63]; exact up_self
    refine lv_iconst (v := 1) hx hb dX12_end_19 (by decide) ?_
    exact W.zret (v := 1) (ty := .boolean) hx hb hr rfl (fun t ht hW => ⟨⟨1, f_63, rfl, ⟨hG, (by decide), hfr0, hrA12, hfA12, (by intro w5 z5 e5 d5; rw [hfo_1] at e5; rw [hfo_64] at d5; obtain rfl := Option.some.inj e5; obtain rfl := Option.some.inj d5; (try rw [ti_1]) <;> omega)⟩, by rw [ht]; exact hP, va_K.moved hW.alike hK, pl_in hD⟩, hS.F ht⟩) hS.2.2 dX12_end_20
  · skip
    rw [← Int32.toInt_inj, ti_0] at c_61
    refine lv_iconst (v := 0) hx hb dX12_end_12 (by decide) ?_
    exact W.zret (v := 0) (ty := .boolean) hx hb hr rfl (fun t ht hW => ⟨⟨0, f, rfl, ⟨hG, (by decide), hfr0, hrA12, hfA12, (by intro w5 z5 e5 d5; rw [hfo_1] at e5; rw [hfo_1] at d5; obtain rfl := Option.some.inj e5; obtain rfl := Option.some.inj d5; (try rw [ti_0]) <;> omega)⟩, by rw [ht]; exact hP, va_K.moved hW.alike hK, pl_in hD⟩, hS.F ht⟩) hS.2.2 dX12_end_13
set_option maxHeartbeats 8000000 in
set_option maxRecDepth 100000 in
theorem s_X12_see_k12 (l : Launch) (D : va_G) (cI cL cZ cR cG cH : ClassId) (Z : zT) (kd : Nat → Nat) (L : List Nat) (f : Nat → va_E) (hG : GI (okc cI cL cZ cR cG cH L kd) kd L f) (o0 : Nat) (mo0 : o0 ∈ L) (ko0 : kd o0 = 12) (p1 : Int32) (bp1 : (0 ≤ p1.toInt ∧ p1.toInt ≤ 602)) : mPI l D cI cL cZ cR cG cH Z yX12_see cX12_see 2 (some .int) 0 0 [.ref o0, .int p1] L f (fun (r : Int32) (f9 : Nat → va_E) => f = f9 ∧ ((-1) ≤ r.toInt ∧ r.toInt ≤ 255) ∧ (∀ t9, fldI (f o0) 5 = some t9 → r.toInt = -1 ∨ p1.toInt < t9.toInt)) := by
  obtain ⟨dC, dI⟩ := D
  refine Met.ofW (cc := cX12_see) (maxL := 2) (ret := (some .int)) (by decide) rfl ?_
  intro p e s m args below meth c s₁ B hml hv
  obtain ⟨rfl, hP, hK, hD0, hN, hZ⟩ := hv
  have hx := B.exec
  have hb := B.bytes
  have hr := B.returns
  have hU : ∀ w ∈ wsU, w.before _ s = true := fun w h => atoms_spec (ws := wU yX12_see cX12_see 2 (some .int)) B.pre w (List.mem_cons_of_mem _ h)
  have hown : s.vm.findClass RX12 = some m.cls := findClass_of_methodNamed B.named
  have hlocks := B.notSynchronized
  have hD := pl_in hD0
  have hS : va_S (fun q => q ∈ L) s.heap s.heap [] := va_S.rf
  have hl := lv_entry ([.ref o0, .int p1]) (n := 2) (Nat.le_of_ble_eq_true rfl)
  rw [lg_entry_eq]
  generalize (lg_sl ([.ref o0, .int p1]) ++ List.replicate (2 - (lg_sl ([.ref o0, .int p1])).length) Slot.unset).toArray = ls at hl ⊢
  have hl : lv_has ls 2 [(0, .ref o0), (1, .int p1)] := hl
  refine lv_iload_n hx hb dX12_see_0 rfl (lv_at hl 1 rfl) ?_
  refine lv_aload_n hx hb dX12_see_1 rfl (lv_at hl 0 rfl) ?_
  obtain ⟨a_2, a_3, a_4, v_5, a_6, v_7, v_8, v_9, v_10, v_11, v_12, v_13, v_14, v_15, v_16, a_17, a_18, a_19, a_20, a_21, a_22, a_23, a_24, v_25, v_26, v_27, v_28, v_29, a_30, v_31, a_32, a_33, v_34, v_35, a_36, v_37, a_38, a_39, v_40, v_41, a_42, a_43, a_44, v_45, a_46, a_47, a_48, a_49, a_50, a_51, a_52, a_53, a_54, v_55, v_56, a_57, hfo_1, ⟨ma_2, ka_2⟩, ⟨ma_3, ka_3⟩, ⟨ma_4, ka_4⟩, bv_5, ⟨ma_6, ka_6⟩, bv_7, bv_8, bv_13, bv_14, bv_15, ⟨ma_17, ka_17⟩, ⟨ma_18, ka_18⟩, ⟨ma_19, ka_19⟩, ⟨ma_20, ka_20⟩, ⟨ma_21, ka_21⟩, ⟨ma_22, ka_22⟩, ⟨ma_23, ka_23⟩, ⟨ma_24, ka_24⟩, bv_25, bv_27, bv_29, ⟨ma_30, ka_30⟩, bv_31, ⟨ma_32, ka_32⟩, ⟨ma_33, ka_33⟩, bv_34, ⟨ma_36, ka_36⟩, bv_37, ⟨ma_38, ka_38⟩, ⟨ma_39, ka_39⟩, bv_40, ⟨ma_42, ka_42⟩, ⟨ma_43, ka_43⟩, ⟨ma_44, ka_44⟩, bv_45, ⟨ma_46, ka_46⟩, ⟨ma_47, ka_47⟩, ⟨ma_48, ka_48⟩, ⟨ma_49, ka_49⟩, ⟨ma_50, ka_50⟩, ⟨ma_51, ka_51⟩, ⟨ma_52, ka_52⟩, ⟨ma_53, ka_53⟩, ⟨ma_54, ka_54⟩, bv_55, ⟨ma_57, ka_57⟩⟩ := un_12 (hG _ mo0) ko0
  have bv_9 : ((-2147483648) ≤ v_9.toInt ∧ v_9.toInt ≤ 2147483647) := ⟨i32_lo _, i32_hi _⟩
  have bv_10 : ((-2147483648) ≤ v_10.toInt ∧ v_10.toInt ≤ 2147483647) := ⟨i32_lo _, i32_hi _⟩
  have bv_11 : ((-2147483648) ≤ v_11.toInt ∧ v_11.toInt ≤ 2147483647) := ⟨i32_lo _, i32_hi _⟩
  have bv_12 : ((-2147483648) ≤ v_12.toInt ∧ v_12.toInt ≤ 2147483647) := ⟨i32_lo _, i32_hi _⟩
  have bv_16 : ((-2147483648) ≤ v_16.toInt ∧ v_16.toInt ≤ 2147483647) := ⟨i32_lo _, i32_hi _⟩
  have bv_26 : ((-2147483648) ≤ v_26.toInt ∧ v_26.toInt ≤ 2147483647) := ⟨i32_lo _, i32_hi _⟩
  have bv_28 : ((-2147483648) ≤ v_28.toInt ∧ v_28.toInt ≤ 2147483647) := ⟨i32_lo _, i32_hi _⟩
  have bv_35 : ((-2147483648) ≤ v_35.toInt ∧ v_35.toInt ≤ 2147483647) := ⟨i32_lo _, i32_hi _⟩
  have bv_41 : ((-2147483648) ≤ v_41.toInt ∧ v_41.toInt ≤ 2147483647) := ⟨i32_lo _, i32_hi _⟩
  have bv_56 : ((-2147483648) ≤ v_56.toInt ∧ v_56.toInt ≤ 2147483647) := ⟨i32_lo _, i32_hi _⟩
  refine tk_getP (D := (dC, dI)) (ci := 12) (v := .int v_7) (C := RX12) (T := TX12) (N := 56) hx hb hU inlX12 hown hK hP mo0 hfo_1 rfl 5 (by decide) (hU _ wd_218) (fun _ h9 => h9) rfl dX12_see_2 ?_
  refine lv_icmp_ge (tgt := 17) hx hb dX12_see_5 (by decide) (fun c_58 => ?_) (fun c_58 => ?_)
  · skip
    rw [Int32.le_iff_toInt_le] at c_58
    refine lv_iconst (v := (-1)) hx hb dX12_see_17 (by decide) ?_
    exact W.iret (v := (-1)) hx hb hr (fun t ht hW => ⟨⟨(-1), f, rfl, ⟨rfl, (by decide), (fun t9 h9 => by rw [hfo_1] at h9; obtain rfl := Option.some.inj h9; exact Or.inl (by decide))⟩, by rw [ht]; exact hP, va_K.moved hW.alike hK, pl_in hD⟩, hS.F ht⟩) hS.2.2 dX12_see_18
  · skip
    rw [Int32.le_iff_toInt_le] at c_58
    refine lv_aload_n hx hb dX12_see_8 rfl (lv_at hl 0 rfl) ?_
    refine tk_getP (D := (dC, dI)) (ci := 12) (v := .ref a_6) (C := RX12) (T := TX12) (N := 56) hx hb hU inlX12 hown hK hP mo0 hfo_1 rfl 4 (by decide) (hU _ wd_172) (fun _ h9 => h9) rfl dX12_see_9 ?_
    refine lv_iload_n hx hb dX12_see_12 rfl (lv_at hl 1 rfl) ?_
    obtain ⟨g_60, hfo_59, hbg_60⟩ := un_578 (hG _ ma_6) ka_6
    refine tk_ildP hx hb hK hP 0 ma_6 hfo_59 rfl (vp_in_iff.mpr (by constructor <;> omega)) dX12_see_13 ?_
    refine lv_topi (fun x_61 ex_61 => ?_)
    have bx_61 : (0 ≤ x_61.toInt ∧ x_61.toInt ≤ 255) := by rw [ex_61]; exact hbg_60 _
    refine lv_goto (tgt := 18) hx hb dX12_see_14 (by decide) ?_
    exact W.iret (v := x_61) hx hb hr (fun t ht hW => ⟨⟨x_61, f, rfl, ⟨rfl, (by constructor <;> omega), (fun t9 h9 => by rw [hfo_1] at h9; obtain rfl := Option.some.inj h9; right; omega)⟩, by rw [ht]; exact hP, va_K.moved hW.alike hK, pl_in hD⟩, hS.F ht⟩) hS.2.2 dX12_see_18
set_option maxHeartbeats 8000000 in
set_option maxRecDepth 100000 in
theorem s_X12_isSmall (l : Launch) (D : va_G) (cI cL cZ cR cG cH : ClassId) (Z : zT) (kd : Nat → Nat) (L : List Nat) (f : Nat → va_E) (hG : GI (okc cI cL cZ cR cG cH L kd) kd L f) (p0 : Int32) : mPI l D cI cL cZ cR cG cH Z yX12_isSmall cX12_isSmall 1 (some .boolean) 1 22 [.int p0] L f (fun (r : Int32) (f9 : Nat → va_E) => f = f9 ∧ (0 ≤ r.toInt ∧ r.toInt ≤ 1) ∧ (r.toInt = 0 ∨ (97 ≤ p0.toInt ∧ p0.toInt ≤ 122))) := by
  obtain ⟨dC, dI⟩ := D
  refine Met.ofW (cc := cX12_isSmall) (maxL := 1) (ret := (some .boolean)) (by decide) rfl ?_
  intro p e s m args below meth c s₁ B hml hv
  obtain ⟨rfl, hP, hK, hD0, hN, hZ⟩ := hv
  have hx := B.exec
  have hb := B.bytes
  have hr := B.returns
  have hU : ∀ w ∈ wsU, w.before _ s = true := fun w h => atoms_spec (ws := wU yX12_isSmall cX12_isSmall 1 (some .boolean)) B.pre w (List.mem_cons_of_mem _ h)
  have hown : s.vm.findClass RX12 = some m.cls := findClass_of_methodNamed B.named
  have hlocks := B.notSynchronized
  have hD := pl_in hD0
  have hS : va_S (fun q => q ∈ L) s.heap s.heap [] := va_S.rf
  have hl := lv_entry ([.int p0]) (n := 1) (Nat.le_of_ble_eq_true rfl)
  rw [lg_entry_eq]
  generalize (lg_sl ([.int p0]) ++ List.replicate (1 - (lg_sl ([.int p0])).length) Slot.unset).toArray = ls at hl ⊢
  have hl : lv_has ls 1 [(0, .int p0)] := hl
  have bp0 : ((-2147483648) ≤ p0.toInt ∧ p0.toInt ≤ 2147483647) := ⟨i32_lo _, i32_hi _⟩
  refine lv_iload_n hx hb dX12_isSmall_0 rfl (lv_at hl 0 rfl) ?_
  refine lv_bipush (v := 97) hx hb dX12_isSmall_1 (by decide) ?_
  refine lv_bipush (v := 122) hx hb dX12_isSmall_3 (by decide) ?_
  refine tk_SiP (As := [.int p0, .int 97, .int 122]) (rest := []) (n := 3) hx hb hml hown hU hN hZ (s_X12_isIn l (dC, dI) cI cL cZ cR cG cH Z kd L f hG p0 97 122) wd_227 wd_228 wd_5 wd_229 (by decide +kernel) ⟨Nat.le_of_ble_eq_true rfl, Nat.le_of_ble_eq_true rfl⟩ hK hP hD hS rfl hl.1 rfl (Nat.le_of_ble_eq_true rfl) dX12_isSmall_5 ⟨Nat.le_of_ble_eq_true rfl, Nat.le_of_ble_eq_true rfl⟩ (fun x_1 f_2 H locs hw hP hD hS => ?_)
  obtain ⟨rfl, bx_1, relx_1⟩ := hw
  try rw [ti_97] at relx_1
  try rw [ti_122] at relx_1
  exact W.zret (v := x_1) (ty := .boolean) hx hb hr (zb_n (by constructor <;> omega)) (fun t ht hW => ⟨⟨x_1, f, rfl, ⟨rfl, (by constructor <;> omega), (by omega)⟩, by rw [ht]; exact hP, va_K.moved hW.alike hK, pl_in hD⟩, hS.F ht⟩) hS.2.2 dX12_isSmall_8
set_option maxHeartbeats 8000000 in
set_option maxRecDepth 100000 in
theorem s_X12_blanks_k12 (l : Launch) (D : va_G) (cI cL cZ cR cG cH : ClassId) (Z : zT) (kd : Nat → Nat) (L : List Nat) (f : Nat → va_E) (hG : GI (okc cI cL cZ cR cG cH L kd) kd L f) (o0 : Nat) (mo0 : o0 ∈ L) (ko0 : kd o0 = 12) : mPV l D cI cL cZ cR cG cH Z yX12_blanks cX12_blanks 1 none 1 21 [.ref o0] L f (fun (f9 : Nat → va_E) => GI (okc cI cL cZ cR cG cH L kd) kd L f9 ∧ (∀ b, kd b ≠ 12 → f9 b = f b) ∧ (∀ b, kd b = 12 → ∀ j, fldR (f9 b) j = fldR (f b) j) ∧ (∀ b, kd b = 12 → ∀ j, j ≠ 6 → fldI (f9 b) j = fldI (f b) j) ∧ (∀ (w6 z6 : Int32), fldI (f o0) 6 = some w6 → fldI (f9 o0) 6 = some z6 → w6.toInt ≤ z6.toInt)) := by
  obtain ⟨dC, dI⟩ := D
  refine Met.ofW (cc := cX12_blanks) (maxL := 1) (ret := none) (by decide) rfl ?_
  intro p e s m args below meth c s₁ B hml hv
  obtain ⟨rfl, hP, hK, hD0, hN, hZ⟩ := hv
  have hx := B.exec
  have hb := B.bytes
  have hr := B.returns
  have hU : ∀ w ∈ wsU, w.before _ s = true := fun w h => atoms_spec (ws := wU yX12_blanks cX12_blanks 1 none) B.pre w (List.mem_cons_of_mem _ h)
  have hown : s.vm.findClass RX12 = some m.cls := findClass_of_methodNamed B.named
  have hlocks := B.notSynchronized
  have hD := pl_in hD0
  have hS : va_S (fun q => q ∈ L) s.heap s.heap [] := va_S.rf
  have hl := lv_entry ([.ref o0]) (n := 1) (Nat.le_of_ble_eq_true rfl)
  rw [lg_entry_eq]
  generalize (lg_sl ([.ref o0]) ++ List.replicate (1 - (lg_sl ([.ref o0])).length) Slot.unset).toArray = ls at hl ⊢
  have hl : lv_has ls 1 [(0, .ref o0)] := hl
  have hfr0 : ∀ b, kd b ≠ 12 → f b = f b := fun _ _ => rfl
  have hrA12 : ∀ b, kd b = 12 → ∀ j, fldR (f b) j = fldR (f b) j := fun _ _ _ => rfl
  have hfA12 : ∀ b, kd b = 12 → ∀ j, j ≠ 6 → fldI (f b) j = fldI (f b) j := fun _ _ _ _ => rfl
  obtain ⟨a_2, a_3, a_4, v_5, a_6, v_7, v_8, v_9, v_10, v_11, v_12, v_13, v_14, v_15, v_16, a_17, a_18, a_19, a_20, a_21, a_22, a_23, a_24, v_25, v_26, v_27, v_28, v_29, a_30, v_31, a_32, a_33, v_34, v_35, a_36, v_37, a_38, a_39, v_40, v_41, a_42, a_43, a_44, v_45, a_46, a_47, a_48, a_49, a_50, a_51, a_52, a_53, a_54, v_55, v_56, a_57, hfo_1, ⟨ma_2, ka_2⟩, ⟨ma_3, ka_3⟩, ⟨ma_4, ka_4⟩, bv_5, ⟨ma_6, ka_6⟩, bv_7, bv_8, bv_13, bv_14, bv_15, ⟨ma_17, ka_17⟩, ⟨ma_18, ka_18⟩, ⟨ma_19, ka_19⟩, ⟨ma_20, ka_20⟩, ⟨ma_21, ka_21⟩, ⟨ma_22, ka_22⟩, ⟨ma_23, ka_23⟩, ⟨ma_24, ka_24⟩, bv_25, bv_27, bv_29, ⟨ma_30, ka_30⟩, bv_31, ⟨ma_32, ka_32⟩, ⟨ma_33, ka_33⟩, bv_34, ⟨ma_36, ka_36⟩, bv_37, ⟨ma_38, ka_38⟩, ⟨ma_39, ka_39⟩, bv_40, ⟨ma_42, ka_42⟩, ⟨ma_43, ka_43⟩, ⟨ma_44, ka_44⟩, bv_45, ⟨ma_46, ka_46⟩, ⟨ma_47, ka_47⟩, ⟨ma_48, ka_48⟩, ⟨ma_49, ka_49⟩, ⟨ma_50, ka_50⟩, ⟨ma_51, ka_51⟩, ⟨ma_52, ka_52⟩, ⟨ma_53, ka_53⟩, ⟨ma_54, ka_54⟩, bv_55, ⟨ma_57, ka_57⟩⟩ := un_12 (hG _ mo0) ko0
  have bv_9 : ((-2147483648) ≤ v_9.toInt ∧ v_9.toInt ≤ 2147483647) := ⟨i32_lo _, i32_hi _⟩
  have bv_10 : ((-2147483648) ≤ v_10.toInt ∧ v_10.toInt ≤ 2147483647) := ⟨i32_lo _, i32_hi _⟩
  have bv_11 : ((-2147483648) ≤ v_11.toInt ∧ v_11.toInt ≤ 2147483647) := ⟨i32_lo _, i32_hi _⟩
  have bv_12 : ((-2147483648) ≤ v_12.toInt ∧ v_12.toInt ≤ 2147483647) := ⟨i32_lo _, i32_hi _⟩
  have bv_16 : ((-2147483648) ≤ v_16.toInt ∧ v_16.toInt ≤ 2147483647) := ⟨i32_lo _, i32_hi _⟩
  have bv_26 : ((-2147483648) ≤ v_26.toInt ∧ v_26.toInt ≤ 2147483647) := ⟨i32_lo _, i32_hi _⟩
  have bv_28 : ((-2147483648) ≤ v_28.toInt ∧ v_28.toInt ≤ 2147483647) := ⟨i32_lo _, i32_hi _⟩
  have bv_35 : ((-2147483648) ≤ v_35.toInt ∧ v_35.toInt ≤ 2147483647) := ⟨i32_lo _, i32_hi _⟩
  have bv_41 : ((-2147483648) ≤ v_41.toInt ∧ v_41.toInt ≤ 2147483647) := ⟨i32_lo _, i32_hi _⟩
  have bv_56 : ((-2147483648) ≤ v_56.toInt ∧ v_56.toInt ≤ 2147483647) := ⟨i32_lo _, i32_hi _⟩
  have hloop_62 : ∀ (n : Nat), ∀ (f_64 : Nat → va_E), GI (okc cI cL cZ cR cG cH L kd) kd L f_64 → ∀ (H : Heap) (locs : List Loc), va_P (dC, dI) vwCl (va_pl L f_64) H → va_S (fun q => q ∈ L) s.heap H locs → va_D (fun q => q ∈ L) (va_pl L f_64) → (∀ b, kd b ≠ 12 → f_64 b = f b) → (∀ b, kd b = 12 → ∀ j, fldR (f_64 b) j = fldR (f b) j) → (∀ b, kd b = 12 → ∀ j, j ≠ 6 → fldI (f_64 b) j = fldI (f b) j) → ∀ (whloop_62_0_6 : Int32), fldI (f_64 o0) 6 = some whloop_62_0_6 → (v_8.toInt ≤ whloop_62_0_6.toInt) → (0 ≤ whloop_62_0_6.toInt ∧ whloop_62_0_6.toInt ≤ 600) → 600 - whloop_62_0_6.toInt < (n : Int) → ∀ (ls : Array Slot), lv_has ls 1 [(0, .ref o0)] → W p l e (headSpec (wU yX12_blanks cX12_blanks 1 none) { frames := 1, cells := 0, slots := 0, locals := 21 }).room s m [.ref o0].toArray below meth c H locs 0 0 (MQ below (va_Qv (fun (f9 : Nat → va_E) => GI (okc cI cL cZ cR cG cH L kd) kd L f9 ∧ (∀ b, kd b ≠ 12 → f9 b = f b) ∧ (∀ b, kd b = 12 → ∀ j, fldR (f9 b) j = fldR (f b) j) ∧ (∀ b, kd b = 12 → ∀ j, j ≠ 6 → fldI (f9 b) j = fldI (f b) j) ∧ (∀ (w6 z6 : Int32), fldI (f o0) 6 = some w6 → fldI (f9 o0) 6 = some z6 → w6.toInt ≤ z6.toInt)) (qP (dC, dI) cI cL cZ cR cG cH L) (fun q => q ∈ L)) [.ref o0].toArray s 0 0 (fun q => q ∈ L)) (F0 m 0 ls []) := by
    intro n
    induction n with
    | zero => intro f_64 hG H locs hP hS hD hfr0 hrA12 hfA12 whloop_62_0_6 hghloop_62_0_6 hrelhloop_62_0 hrelhloop_62_1 hmuhloop_62 ls hl; exfalso; omega
    | succ n ih_hloop_62 =>
      intro f_64 hG H locs hP hS hD hfr0 hrA12 hfA12 whloop_62_0_6 hghloop_62_0_6 hrelhloop_62_0 hrelhloop_62_1 hmuhloop_62 ls hl
      obtain ⟨a_66, a_67, a_68, v_69, a_70, v_71, v_72, v_73, v_74, v_75, v_76, v_77, v_78, v_79, v_80, a_81, a_82, a_83, a_84, a_85, a_86, a_87, a_88, v_89, v_90, v_91, v_92, v_93, a_94, v_95, a_96, a_97, v_98, v_99, a_100, v_101, a_102, a_103, v_104, v_105, a_106, a_107, a_108, v_109, a_110, a_111, a_112, a_113, a_114, a_115, a_116, a_117, a_118, v_119, v_120, a_121, hfo_65, ⟨ma_66, ka_66⟩, ⟨ma_67, ka_67⟩, ⟨ma_68, ka_68⟩, bv_69, ⟨ma_70, ka_70⟩, bv_71, bv_72, bv_77, bv_78, bv_79, ⟨ma_81, ka_81⟩, ⟨ma_82, ka_82⟩, ⟨ma_83, ka_83⟩, ⟨ma_84, ka_84⟩, ⟨ma_85, ka_85⟩, ⟨ma_86, ka_86⟩, ⟨ma_87, ka_87⟩, ⟨ma_88, ka_88⟩, bv_89, bv_91, bv_93, ⟨ma_94, ka_94⟩, bv_95, ⟨ma_96, ka_96⟩, ⟨ma_97, ka_97⟩, bv_98, ⟨ma_100, ka_100⟩, bv_101, ⟨ma_102, ka_102⟩, ⟨ma_103, ka_103⟩, bv_104, ⟨ma_106, ka_106⟩, ⟨ma_107, ka_107⟩, ⟨ma_108, ka_108⟩, bv_109, ⟨ma_110, ka_110⟩, ⟨ma_111, ka_111⟩, ⟨ma_112, ka_112⟩, ⟨ma_113, ka_113⟩, ⟨ma_114, ka_114⟩, ⟨ma_115, ka_115⟩, ⟨ma_116, ka_116⟩, ⟨ma_117, ka_117⟩, ⟨ma_118, ka_118⟩, bv_119, ⟨ma_121, ka_121⟩⟩ := un_12 (hG _ mo0) ko0
      have bv_73 : ((-2147483648) ≤ v_73.toInt ∧ v_73.toInt ≤ 2147483647) := ⟨i32_lo _, i32_hi _⟩
      have bv_74 : ((-2147483648) ≤ v_74.toInt ∧ v_74.toInt ≤ 2147483647) := ⟨i32_lo _, i32_hi _⟩
      have bv_75 : ((-2147483648) ≤ v_75.toInt ∧ v_75.toInt ≤ 2147483647) := ⟨i32_lo _, i32_hi _⟩
      have bv_76 : ((-2147483648) ≤ v_76.toInt ∧ v_76.toInt ≤ 2147483647) := ⟨i32_lo _, i32_hi _⟩
      have bv_80 : ((-2147483648) ≤ v_80.toInt ∧ v_80.toInt ≤ 2147483647) := ⟨i32_lo _, i32_hi _⟩
      have bv_90 : ((-2147483648) ≤ v_90.toInt ∧ v_90.toInt ≤ 2147483647) := ⟨i32_lo _, i32_hi _⟩
      have bv_92 : ((-2147483648) ≤ v_92.toInt ∧ v_92.toInt ≤ 2147483647) := ⟨i32_lo _, i32_hi _⟩
      have bv_99 : ((-2147483648) ≤ v_99.toInt ∧ v_99.toInt ≤ 2147483647) := ⟨i32_lo _, i32_hi _⟩
      have bv_105 : ((-2147483648) ≤ v_105.toInt ∧ v_105.toInt ≤ 2147483647) := ⟨i32_lo _, i32_hi _⟩
      have bv_120 : ((-2147483648) ≤ v_120.toInt ∧ v_120.toInt ≤ 2147483647) := ⟨i32_lo _, i32_hi _⟩
      obtain ⟨rfl, rfl, rfl, rfl, rfl, rfl, rfl, rfl, rfl, rfl, rfl, rfl, rfl, rfl, rfl, rfl, rfl, rfl, rfl, rfl, rfl, rfl, rfl, rfl, rfl, rfl, rfl, rfl, rfl, rfl, rfl⟩ := re_12 hfo_1 hfo_65 (hrA12 o0 ko0)
      obtain rfl := ri_12_3 hfo_1 hfo_65 (hfA12 o0 ko0 3 (by decide))
      obtain rfl := ri_12_5 hfo_1 hfo_65 (hfA12 o0 ko0 5 (by decide))
      obtain rfl := ri_12_11 hfo_1 hfo_65 (hfA12 o0 ko0 11 (by decide))
      obtain rfl := ri_12_12 hfo_1 hfo_65 (hfA12 o0 ko0 12 (by decide))
      obtain rfl := ri_12_13 hfo_1 hfo_65 (hfA12 o0 ko0 13 (by decide))
      obtain rfl := ri_12_14 hfo_1 hfo_65 (hfA12 o0 ko0 14 (by decide))
      obtain rfl := ri_12_23 hfo_1 hfo_65 (hfA12 o0 ko0 23 (by decide))
      obtain rfl := ri_12_25 hfo_1 hfo_65 (hfA12 o0 ko0 25 (by decide))
      obtain rfl := ri_12_27 hfo_1 hfo_65 (hfA12 o0 ko0 27 (by decide))
      obtain rfl := ri_12_29 hfo_1 hfo_65 (hfA12 o0 ko0 29 (by decide))
      obtain rfl := ri_12_32 hfo_1 hfo_65 (hfA12 o0 ko0 32 (by decide))
      obtain rfl := ri_12_33 hfo_1 hfo_65 (hfA12 o0 ko0 33 (by decide))
      obtain rfl := ri_12_35 hfo_1 hfo_65 (hfA12 o0 ko0 35 (by decide))
      obtain rfl := ri_12_38 hfo_1 hfo_65 (hfA12 o0 ko0 38 (by decide))
      obtain rfl := ri_12_43 hfo_1 hfo_65 (hfA12 o0 ko0 43 (by decide))
      obtain rfl := ri_12_53 hfo_1 hfo_65 (hfA12 o0 ko0 53 (by decide))
      obtain rfl : v_72 = whloop_62_0_6 := by rw [hfo_65] at hghloop_62_0_6; exact Option.some.inj hghloop_62_0_6
      refine lv_aload_n hx hb dX12_blanks_0 rfl (lv_at hl 0 rfl) ?_
      refine lv_aload_n hx hb dX12_blanks_1 rfl (lv_at hl 0 rfl) ?_
      refine tk_getP (D := (dC, dI)) (ci := 12) (v := .int v_72) (C := RX12) (T := TX12) (N := 56) hx hb hU inlX12 hown hK hP mo0 hfo_65 rfl 6 (by decide) (hU _ wd_566) (fun _ h9 => h9) rfl dX12_blanks_2 ?_
      refine tk_ViP (As := [.int v_72]) (rest := []) (n := 1) hx hb hml hown hU hN hZ (s_X12_see_k12 l (dC, dI) cI cL cZ cR cG cH Z kd L f_64 hG o0 mo0 ko0 v_72 (by constructor <;> omega)) wd_581 wd_582 wd_583 wd_5 wd_584 (by decide +kernel) ⟨Nat.le_of_ble_eq_true rfl, Nat.le_of_ble_eq_true rfl⟩ hK hP hD hS mo0 hfo_65 12 rfl rfl rfl hl.1 rfl (Nat.le_of_ble_eq_true rfl) dX12_blanks_5 ⟨Nat.le_of_ble_eq_true rfl, Nat.le_of_ble_eq_true rfl⟩ (fun x_122 f_123 H locs hw hP hD hS => ?_)
      obtain ⟨rfl, bx_122, hxp_124⟩ := hw
      have hsex_122 := hxp_124 v_7 (by rw [hfo_65]; rfl)
      refine lv_bipush (v := 32) hx hb dX12_blanks_8 (by decide) ?_
      refine lv_icmp_eq (tgt := 26) hx hb dX12_blanks_10 (by decide) (fun c_126 => ?_) (fun c_126 => ?_)
      · skip
        rw [← Int32.toInt_inj, ti_32] at c_126
        have hclc_127 : (0 ≤ v_72.toInt ∧ v_72.toInt ≤ 599) := by constructor <;> omega
        refine lv_aload_n hx hb dX12_blanks_26 rfl (lv_at hl 0 rfl) ?_
        refine lv_dup hx hb dX12_blanks_27 rfl ?_
        refine tk_getP (D := (dC, dI)) (ci := 12) (v := .int v_72) (C := RX12) (T := TX12) (N := 56) hx hb hU inlX12 hown hK hP mo0 hfo_65 rfl 6 (by decide) (hU _ wd_566) (fun _ h9 => h9) rfl dX12_blanks_28 ?_
        refine lv_iconst (v := 1) hx hb dX12_blanks_31 (by decide) ?_
        refine lv_iadd hx hb dX12_blanks_32 ?_
        refine lv_topi (fun x_128 ex_128 => ?_)
        have hx_128 : x_128.toInt = v_72.toInt + 1 := by rw [ex_128, ad_I (by rw [ti_1]; omega) (by rw [ti_1]; omega), ti_1]
        have bx_128 : (1 ≤ x_128.toInt ∧ x_128.toInt ≤ 600) := by constructor <;> omega
        refine tk_putP (D := (dC, dI)) (ci := 12) (v := .int x_128) (ty := .int) (C := RX12) (T := TX12) (N := 56) hx hb hU inlX12 tyX12 tyX12_ok nmX12 hown hK hP hD hS mo0 hfo_65 rfl 6 (by decide) (hU _ wd_566) (fun _ h9 => h9) rfl (by decide +kernel) rfl rfl (Nat.le_of_ble_eq_true rfl) dX12_blanks_33 (fun H locs hP hD hS => ?_)
        obtain ⟨f_130, ef_130⟩ : ∃ y : Nat → va_E, y = va_up f_64 o0 (.inr (12, [.ref a_2, .ref a_3, .ref a_4, .int v_5, .ref a_6, .int v_7, .int x_128, .int v_73, .int v_74, .int v_75, .int v_76, .int v_13, .int v_14, .int v_15, .int v_16, .ref a_17, .ref a_18, .ref a_19, .ref a_20, .ref a_21, .ref a_22, .ref a_23, .ref a_24, .int v_25, .int v_90, .int v_27, .int v_92, .int v_29, .ref a_30, .int v_31, .ref a_32, .ref a_33, .int v_34, .int v_35, .ref a_36, .int v_37, .ref a_38, .ref a_39, .int v_40, .int v_105, .ref a_42, .ref a_43, .ref a_44, .int v_45, .ref a_46, .ref a_47, .ref a_48, .ref a_49, .ref a_50, .ref a_51, .ref a_52, .ref a_53, .ref a_54, .int v_55, .int v_120, .ref a_57])) := ⟨_, rfl⟩
        have hP : va_P (dC, dI) vwCl (va_pl L f_130) H := by rw [ef_130]; exact hP
        have hD : va_D (fun q => q ∈ L) (va_pl L f_130) := by rw [ef_130]; exact hD
        have hG : GI (okc cI cL cZ cR cG cH L kd) kd L f_130 := by rw [ef_130]; exact hG.set o0 (mk_12 ko0 ⟨a_2, a_3, a_4, v_5, a_6, v_7, x_128, v_73, v_74, v_75, v_76, v_13, v_14, v_15, v_16, a_17, a_18, a_19, a_20, a_21, a_22, a_23, a_24, v_25, v_90, v_27, v_92, v_29, a_30, v_31, a_32, a_33, v_34, v_35, a_36, v_37, a_38, a_39, v_40, v_105, a_42, a_43, a_44, v_45, a_46, a_47, a_48, a_49, a_50, a_51, a_52, a_53, a_54, v_55, v_120, a_57, rfl, ⟨ma_2, ka_2⟩, ⟨ma_3, ka_3⟩, ⟨ma_4, ka_4⟩, (by constructor <;> omega), ⟨ma_6, ka_6⟩, (by constructor <;> omega), (by constructor <;> omega), (by constructor <;> omega), (by constructor <;> omega), (by constructor <;> omega), ⟨ma_17, ka_17⟩, ⟨ma_18, ka_18⟩, ⟨ma_19, ka_19⟩, ⟨ma_20, ka_20⟩, ⟨ma_21, ka_21⟩, ⟨ma_22, ka_22⟩, ⟨ma_23, ka_23⟩, ⟨ma_24, ka_24⟩, (by constructor <;> omega), (by constructor <;> omega), (by constructor <;> omega), ⟨ma_30, ka_30⟩, (by constructor <;> omega), ⟨ma_32, ka_32⟩, ⟨ma_33, ka_33⟩, (by constructor <;> omega), ⟨ma_36, ka_36⟩, (by constructor <;> omega), ⟨ma_38, ka_38⟩, ⟨ma_39, ka_39⟩, (by constructor <;> omega), ⟨ma_42, ka_42⟩, ⟨ma_43, ka_43⟩, ⟨ma_44, ka_44⟩, (by constructor <;> omega), ⟨ma_46, ka_46⟩, ⟨ma_47, ka_47⟩, ⟨ma_48, ka_48⟩, ⟨ma_49, ka_49⟩, ⟨ma_50, ka_50⟩, ⟨ma_51, ka_51⟩, ⟨ma_52, ka_52⟩, ⟨ma_53, ka_53⟩, ⟨ma_54, ka_54⟩, (by constructor <;> omega), ⟨ma_57, ka_57⟩⟩)
        have hfr0 : ∀ b, kd b ≠ 12 → f_130 b = f b := fun b q12 => (congrFun ef_130 b).trans ((up_ne (fun e9 => q12 (by rw [e9]; exact ko0))).trans (hfr0 b q12))
        have hrA12 : ∀ b, kd b = 12 → ∀ j, fldR (f_130 b) j = fldR (f b) j := fun b kb j => ((congrArg (fun x => fldR x j) (congrFun ef_130 b)).trans (fra_up (fun j => by rw [hfo_65]; exact fr_set (k := 6) rfl rfl j) j b)).trans (hrA12 b kb j)
        have hfA12 : ∀ b, kd b = 12 → ∀ j, j ≠ 6 → fldI (f_130 b) j = fldI (f b) j := fun b kb j n6 => ((congrArg (fun x => fldI x j) (congrFun ef_130 b)).trans (fia_up (fun h9 => by rw [hfo_65]; exact fi_set (k := 6) rfl h9) n6 b)).trans (hfA12 b kb j n6)
        have hfo_131 : f_130 o0 = .inr (12, [.ref a_2, .ref a_3, .ref a_4, .int v_5, .ref a_6, .int v_7, .int x_128, .int v_73, .int v_74, .int v_75, .int v_76, .int v_13, .int v_14, .int v_15, .int v_16, .ref a_17, .ref a_18, .ref a_19, .ref a_20, .ref a_21, .ref a_22, .ref a_23, .ref a_24, .int v_25, .int v_90, .int v_27, .int v_92, .int v_29, .ref a_30, .int v_31, .ref a_32, .ref a_33, .int v_34, .int v_35, .ref a_36, .int v_37, .ref a_38, .ref a_39, .int v_40, .int v_105, .ref a_42, .ref a_43, .ref a_44, .int v_45, .ref a_46, .ref a_47, .ref a_48, .ref a_49, .ref a_50, .ref a_51, .ref a_52, .ref a_53, .ref a_54, .int v_55, .int v_120, .ref a_57]) := by rw [ef_130]; exact up_self
        refine lv_goto (tgt := 0) hx hb dX12_blanks_36 (by decide) ?_
        exact ih_hloop_62 f_130 hG _ _ hP hS hD hfr0 hrA12 hfA12 x_128 (by rw [hfo_131]; rfl) (by omega) (by omega) (by omega) ls (lv_sub hl [0] rfl)
      · skip
        rw [← Int32.toInt_inj, ti_32] at c_126
        refine lv_aload_n hx hb dX12_blanks_13 rfl (lv_at hl 0 rfl) ?_
        refine lv_aload_n hx hb dX12_blanks_14 rfl (lv_at hl 0 rfl) ?_
        refine tk_getP (D := (dC, dI)) (ci := 12) (v := .int v_72) (C := RX12) (T := TX12) (N := 56) hx hb hU inlX12 hown hK hP mo0 hfo_65 rfl 6 (by decide) (hU _ wd_566) (fun _ h9 => h9) rfl dX12_blanks_15 ?_
        refine tk_ViP (As := [.int v_72]) (rest := []) (n := 1) hx hb hml hown hU hN hZ (s_X12_see_k12 l (dC, dI) cI cL cZ cR cG cH Z kd L f_64 hG o0 mo0 ko0 v_72 (by constructor <;> omega)) wd_581 wd_582 wd_583 wd_5 wd_584 (by decide +kernel) ⟨Nat.le_of_ble_eq_true rfl, Nat.le_of_ble_eq_true rfl⟩ hK hP hD hS mo0 hfo_65 12 rfl rfl rfl hl.1 rfl (Nat.le_of_ble_eq_true rfl) dX12_blanks_18 ⟨Nat.le_of_ble_eq_true rfl, Nat.le_of_ble_eq_true rfl⟩ (fun x_132 f_133 H locs hw hP hD hS => ?_)
        obtain ⟨rfl, bx_132, hxp_134⟩ := hw
        have hsex_132 := hxp_134 v_7 (by rw [hfo_65]; rfl)
        refine lv_bipush (v := 10) hx hb dX12_blanks_21 (by decide) ?_
        refine lv_icmp_ne (tgt := 39) hx hb dX12_blanks_23 (by decide) (fun c_136 => ?_) (fun c_136 => ?_)
        · skip
          rw [← Int32.toInt_inj, ti_10] at c_136
          exact W.vret hx hb hr (fun t ht hW => ⟨⟨f_64, rfl, ⟨hG, hfr0, hrA12, hfA12, (by intro w6 z6 e6 d6; rw [hfo_1] at e6; rw [hfo_65] at d6; obtain rfl := Option.some.inj e6; obtain rfl := Option.some.inj d6; omega)⟩, by rw [ht]; exact hP, va_K.moved hW.alike hK, pl_in hD⟩, hS.F ht⟩) hS.2.2 dX12_blanks_39
        · skip
          rw [← Int32.toInt_inj, ti_10] at c_136
          have hclc_137 : (0 ≤ v_72.toInt ∧ v_72.toInt ≤ 599) := by constructor <;> omega
          refine lv_aload_n hx hb dX12_blanks_26 rfl (lv_at hl 0 rfl) ?_
          refine lv_dup hx hb dX12_blanks_27 rfl ?_
          refine tk_getP (D := (dC, dI)) (ci := 12) (v := .int v_72) (C := RX12) (T := TX12) (N := 56) hx hb hU inlX12 hown hK hP mo0 hfo_65 rfl 6 (by decide) (hU _ wd_566) (fun _ h9 => h9) rfl dX12_blanks_28 ?_
          refine lv_iconst (v := 1) hx hb dX12_blanks_31 (by decide) ?_
          refine lv_iadd hx hb dX12_blanks_32 ?_
          refine lv_topi (fun x_138 ex_138 => ?_)
          have hx_138 : x_138.toInt = v_72.toInt + 1 := by rw [ex_138, ad_I (by rw [ti_1]; omega) (by rw [ti_1]; omega), ti_1]
          have bx_138 : (1 ≤ x_138.toInt ∧ x_138.toInt ≤ 600) := by constructor <;> omega
          refine tk_putP (D := (dC, dI)) (ci := 12) (v := .int x_138) (ty := .int) (C := RX12) (T := TX12) (N := 56) hx hb hU inlX12 tyX12 tyX12_ok nmX12 hown hK hP hD hS mo0 hfo_65 rfl 6 (by decide) (hU _ wd_566) (fun _ h9 => h9) rfl (by decide +kernel) rfl rfl (Nat.le_of_ble_eq_true rfl) dX12_blanks_33 (fun H locs hP hD hS => ?_)
          obtain ⟨f_140, ef_140⟩ : ∃ y : Nat → va_E, y = va_up f_64 o0 (.inr (12, [.ref a_2, .ref a_3, .ref a_4, .int v_5, .ref a_6, .int v_7, .int x_138, .int v_73, .int v_74, .int v_75, .int v_76, .int v_13, .int v_14, .int v_15, .int v_16, .ref a_17, .ref a_18, .ref a_19, .ref a_20, .ref a_21, .ref a_22, .ref a_23, .ref a_24, .int v_25, .int v_90, .int v_27, .int v_92, .int v_29, .ref a_30, .int v_31, .ref a_32, .ref a_33, .int v_34, .int v_35, .ref a_36, .int v_37, .ref a_38, .ref a_39, .int v_40, .int v_105, .ref a_42, .ref a_43, .ref a_44, .int v_45, .ref a_46, .ref a_47, .ref a_48, .ref a_49, .ref a_50, .ref a_51, .ref a_52, .ref a_53, .ref a_54, .int v_55, .int v_120, .ref a_57])) := ⟨_, rfl⟩
          have hP : va_P (dC, dI) vwCl (va_pl L f_140) H := by rw [ef_140]; exact hP
          have hD : va_D (fun q => q ∈ L) (va_pl L f_140) := by rw [ef_140]; exact hD
          have hG : GI (okc cI cL cZ cR cG cH L kd) kd L f_140 := by rw [ef_140]; exact hG.set o0 (mk_12 ko0 ⟨a_2, a_3, a_4, v_5, a_6, v_7, x_138, v_73, v_74, v_75, v_76, v_13, v_14, v_15, v_16, a_17, a_18, a_19, a_20, a_21, a_22, a_23, a_24, v_25, v_90, v_27, v_92, v_29, a_30, v_31, a_32, a_33, v_34, v_35, a_36, v_37, a_38, a_39, v_40, v_105, a_42, a_43, a_44, v_45, a_46, a_47, a_48, a_49, a_50, a_51, a_52, a_53, a_54, v_55, v_120, a_57, rfl, ⟨ma_2, ka_2⟩, ⟨ma_3, ka_3⟩, ⟨ma_4, ka_4⟩, (by constructor <;> omega), ⟨ma_6, ka_6⟩, (by constructor <;> omega), (by constructor <;> omega), (by constructor <;> omega), (by constructor <;> omega), (by constructor <;> omega), ⟨ma_17, ka_17⟩, ⟨ma_18, ka_18⟩, ⟨ma_19, ka_19⟩, ⟨ma_20, ka_20⟩, ⟨ma_21, ka_21⟩, ⟨ma_22, ka_22⟩, ⟨ma_23, ka_23⟩, ⟨ma_24, ka_24⟩, (by constructor <;> omega), (by constructor <;> omega), (by constructor <;> omega), ⟨ma_30, ka_30⟩, (by constructor <;> omega), ⟨ma_32, ka_32⟩, ⟨ma_33, ka_33⟩, (by constructor <;> omega), ⟨ma_36, ka_36⟩, (by constructor <;> omega), ⟨ma_38, ka_38⟩, ⟨ma_39, ka_39⟩, (by constructor <;> omega), ⟨ma_42, ka_42⟩, ⟨ma_43, ka_43⟩, ⟨ma_44, ka_44⟩, (by constructor <;> omega), ⟨ma_46, ka_46⟩, ⟨ma_47, ka_47⟩, ⟨ma_48, ka_48⟩, ⟨ma_49, ka_49⟩, ⟨ma_50, ka_50⟩, ⟨ma_51, ka_51⟩, ⟨ma_52, ka_52⟩, ⟨ma_53, ka_53⟩, ⟨ma_54, ka_54⟩, (by constructor <;> omega), ⟨ma_57, ka_57⟩⟩)
          have hfr0 : ∀ b, kd b ≠ 12 → f_140 b = f b := fun b q12 => (congrFun ef_140 b).trans ((up_ne (fun e9 => q12 (by rw [e9]; exact ko0))).trans (hfr0 b q12))
          have hrA12 : ∀ b, kd b = 12 → ∀ j, fldR (f_140 b) j = fldR (f b) j := fun b kb j => ((congrArg (fun x => fldR x j) (congrFun ef_140 b)).trans (fra_up (fun j => by rw [hfo_65]; exact fr_set (k := 6) rfl rfl j) j b)).trans (hrA12 b kb j)
          have hfA12 : ∀ b, kd b = 12 → ∀ j, j ≠ 6 → fldI (f_140 b) j = fldI (f b) j := fun b kb j n6 => ((congrArg (fun x => fldI x j) (congrFun ef_140 b)).trans (fia_up (fun h9 => by rw [hfo_65]; exact fi_set (k := 6) rfl h9) n6 b)).trans (hfA12 b kb j n6)
          have hfo_141 : f_140 o0 = .inr (12, [.ref a_2, .ref a_3, .ref a_4, .int v_5, .ref a_6, .int v_7, .int x_138, .int v_73, .int v_74, .int v_75, .int v_76, .int v_13, .int v_14, .int v_15, .int v_16, .ref a_17, .ref a_18, .ref a_19, .ref a_20, .ref a_21, .ref a_22, .ref a_23, .ref a_24, .int v_25, .int v_90, .int v_27, .int v_92, .int v_29, .ref a_30, .int v_31, .ref a_32, .ref a_33, .int v_34, .int v_35, .ref a_36, .int v_37, .ref a_38, .ref a_39, .int v_40, .int v_105, .ref a_42, .ref a_43, .ref a_44, .int v_45, .ref a_46, .ref a_47, .ref a_48, .ref a_49, .ref a_50, .ref a_51, .ref a_52, .ref a_53, .ref a_54, .int v_55, .int v_120, .ref a_57]) := by rw [ef_140]; exact up_self
          refine lv_goto (tgt := 0) hx hb dX12_blanks_36 (by decide) ?_
          exact ih_hloop_62 f_140 hG _ _ hP hS hD hfr0 hrA12 hfA12 x_138 (by rw [hfo_141]; rfl) (by omega) (by omega) (by omega) ls (lv_sub hl [0] rfl)
  exact hloop_62 601 f hG _ _ hP hS hD hfr0 hrA12 hfA12 v_8 (by rw [hfo_1]; rfl) (by omega) (by omega) (by omega) ls hl
