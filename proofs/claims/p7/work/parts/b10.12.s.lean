set_option maxHeartbeats 8000000 in
set_option maxRecDepth 100000 in
theorem s_X12_isDone_k12 (l : Launch) (D : va_G) (cI cL cZ cR cG cH : ClassId) (Z : zT) (kd : Nat → Nat) (L : List Nat) (f : Nat → va_E) (hG : GI (okc cI cL cZ cR cG cH L kd) kd L f) (o0 : Nat) (mo0 : o0 ∈ L) (ko0 : kd o0 = 12) (p1 : Int32) (bp1 : (0 ≤ p1.toInt ∧ p1.toInt ≤ 23)) (p2 : Int32) (bp2 : (0 ≤ p2.toInt ∧ p2.toInt ≤ 1)) (p3 : Int32) : mPI l D cI cL cZ cR cG cH Z yX12_isDone cX12_isDone 4 (some .boolean) 1 22 [.ref o0, .int p1, .int p2, .int p3] L f (fun (r : Int32) (f9 : Nat → va_E) => f = f9 ∧ (0 ≤ r.toInt ∧ r.toInt ≤ 1)) := by
  obtain ⟨dC, dI⟩ := D
  refine Met.ofW (cc := cX12_isDone) (maxL := 4) (ret := (some .boolean)) (by decide) rfl ?_
  intro p e s m args below meth c s₁ B hml hv
  obtain ⟨rfl, hP, hK, hD0, hN, hZ⟩ := hv
  have hx := B.exec
  have hb := B.bytes
  have hr := B.returns
  have hU : ∀ w ∈ wsU, w.before _ s = true := fun w h => atoms_spec (ws := wU yX12_isDone cX12_isDone 4 (some .boolean)) B.pre w (List.mem_cons_of_mem _ h)
  have hown : s.vm.findClass RX12 = some m.cls := findClass_of_methodNamed B.named
  have hlocks := B.notSynchronized
  have hD := pl_in hD0
  have hS : va_S (fun q => q ∈ L) s.heap s.heap [] := va_S.rf
  have hl := lv_entry ([.ref o0, .int p1, .int p2, .int p3]) (n := 4) (Nat.le_of_ble_eq_true rfl)
  rw [lg_entry_eq]
  generalize (lg_sl ([.ref o0, .int p1, .int p2, .int p3]) ++ List.replicate (4 - (lg_sl ([.ref o0, .int p1, .int p2, .int p3])).length) Slot.unset).toArray = ls at hl ⊢
  have hl : lv_has ls 4 [(0, .ref o0), (1, .int p1), (2, .int p2), (3, .int p3)] := hl
  have bp3 : ((-2147483648) ≤ p3.toInt ∧ p3.toInt ≤ 2147483647) := ⟨i32_lo _, i32_hi _⟩
  refine lv_iload_n hx hb dX12_isDone_0 rfl (lv_at hl 3 rfl) ?_
  refine lv_aload_n hx hb dX12_isDone_1 rfl (lv_at hl 0 rfl) ?_
  refine lv_iload_n hx hb dX12_isDone_2 rfl (lv_at hl 1 rfl) ?_
  refine lv_iload_n hx hb dX12_isDone_3 rfl (lv_at hl 2 rfl) ?_
  obtain ⟨a_2, a_3, a_4, v_5, a_6, v_7, v_8, v_9, v_10, v_11, v_12, v_13, v_14, v_15, v_16, a_17, a_18, a_19, a_20, a_21, a_22, a_23, a_24, v_25, v_26, v_27, v_28, v_29, a_30, v_31, a_32, a_33, v_34, v_35, a_36, v_37, a_38, a_39, v_40, v_41, a_42, a_43, a_44, v_45, a_46, a_47, a_48, a_49, a_50, a_51, a_52, a_53, a_54, v_55, v_56, a_57, hfo_1, ⟨ma_2, ka_2⟩, ⟨ma_3, ka_3⟩, ⟨ma_4, ka_4⟩, bv_5, ⟨ma_6, ka_6⟩, bv_7, bv_8, bv_13, bv_14, bv_15, ⟨ma_17, ka_17⟩, ⟨ma_18, ka_18⟩, ⟨ma_19, ka_19⟩, ⟨ma_20, ka_20⟩, ⟨ma_21, ka_21⟩, ⟨ma_22, ka_22⟩, ⟨ma_23, ka_23⟩, ⟨ma_24, ka_24⟩, bv_25, bv_27, bv_29, ⟨ma_30, ka_30⟩, bv_31, ⟨ma_32, ka_32⟩, ⟨ma_33, ka_33⟩, bv_34, ⟨ma_36, ka_36⟩, bv_37, ⟨ma_38, ka_38⟩, ⟨ma_39, ka_39⟩, bv_40, ⟨ma_42, ka_42⟩, ⟨ma_43, ka_43⟩, ⟨ma_44, ka_44⟩, bv_45, ⟨ma_46, ka_46⟩, ⟨ma_47, ka_47⟩, ⟨ma_48, ka_48⟩, ⟨ma_49, ka_49⟩, ⟨ma_50, ka_50⟩, ⟨ma_51, ka_51⟩, ⟨ma_52, ka_52⟩, ⟨ma_53, ka_53⟩, ⟨ma_54, ka_54⟩, bv_55, ⟨ma_57, ka_57⟩⟩ := un_12 (hG _ mo0) ko0
  have bv_9 : ((-2147483648) ≤ v_9.toInt ∧ v_9.toInt ≤ 2147483647) := ⟨i32_lo _, i32_hi _⟩
  have bv_10 : ((-2147483648) ≤ v_10.toInt ∧ v_10.toInt ≤ 2147483647) := ⟨i32_lo _, i32_hi _⟩
  have bv_11 : ((-2147483648) ≤ v_11.toInt ∧ v_11.toInt ≤ 2147483647) := ⟨i32_lo _, i32_hi _⟩
  have bv_12 : ((-2147483648) ≤ v_12.toInt ∧ v_12.toInt ≤ 2147483647) := ⟨i32_lo _, i32_hi _⟩
  have bv_16 : ((-2147483648) ≤ v_16.toInt ∧ v_16.toInt ≤ 2147483647) := ⟨i32_lo _, i32_hi _⟩
  have bv_26 : ((-2147483648) ≤ v_26.toInt ∧ v_26.toInt ≤ 2147483647) := ⟨i32_lo _, i32_hi _⟩
  have bv_28 : ((-2147483648) ≤ v_28.toInt ∧ v_28.toInt ≤ 2147483647) := ⟨i32_lo _, i32_hi _⟩
  have bv_35 : ((-2147483648) ≤ v_35.toInt ∧ v_35.toInt ≤ 2147483647) := ⟨i32_lo _, i32_hi _⟩
  have bv_41 : ((-2147483648) ≤ v_41.toInt ∧ v_41.toInt ≤ 2147483647) := ⟨i32_lo _, i32_hi _⟩
  have bv_56 : ((-2147483648) ≤ v_56.toInt ∧ v_56.toInt ≤ 2147483647) := ⟨i32_lo _, i32_hi _⟩
  refine tk_ViP (As := [.int p1, .int p2]) (rest := [.int p3]) (n := 2) hx hb hml hown hU hN hZ (s_X12_itemsOf_k12 l (dC, dI) cI cL cZ cR cG cH Z kd L f hG o0 mo0 ko0 p1 (by constructor <;> omega) p2 (by constructor <;> omega)) wd_882 wd_883 wd_884 wd_5 wd_885 (by decide +kernel) ⟨Nat.le_of_ble_eq_true rfl, Nat.le_of_ble_eq_true rfl⟩ hK hP hD hS mo0 hfo_1 12 rfl rfl rfl hl.1 rfl (Nat.le_of_ble_eq_true rfl) dX12_isDone_4 ⟨Nat.le_of_ble_eq_true rfl, Nat.le_of_ble_eq_true rfl⟩ (fun x_58 f_59 H locs hw hP hD hS => ?_)
  obtain ⟨rfl, bx_58⟩ := hw
  refine lv_ishr hx hb dX12_isDone_7 ?_
  refine lv_topi (fun x_61 ex_61 => ?_)
  have bx_61 : ((-2147483648) ≤ x_61.toInt ∧ x_61.toInt ≤ 2147483647) := ⟨i32_lo _, i32_hi _⟩
  refine lv_iconst (v := 1) hx hb dX12_isDone_8 (by decide) ?_
  refine lv_iand hx hb dX12_isDone_9 ?_
  refine lv_topi (fun x_62 ex_62 => ?_)
  have bx_62 : (0 ≤ x_62.toInt ∧ x_62.toInt ≤ 1) := by rw [ex_62]; have h8 := an_C x_61 (m := 1) (by decide); rw [ti_1] at h8; exact h8
  refine lv_iconst (v := 1) hx hb dX12_isDone_10 (by decide) ?_
  refine lv_icmp_ne (tgt := 18) hx hb dX12_isDone_11 (by decide) (fun c_63 => ?_) (fun c_63 => ?_)
  · skip
    rw [← Int32.toInt_inj, ti_1] at c_63
    refine lv_iconst (v := 0) hx hb dX12_isDone_18 (by decide) ?_
    exact W.zret (v := 0) (ty := .boolean) hx hb hr rfl (fun t ht hW => ⟨⟨0, f, rfl, ⟨rfl, (by decide)⟩, by rw [ht]; exact hP, va_K.moved hW.alike hK, pl_in hD⟩, hS.F ht⟩) hS.2.2 dX12_isDone_19
  · skip
    rw [← Int32.toInt_inj, ti_1] at c_63
    refine lv_iconst (v := 1) hx hb dX12_isDone_14 (by decide) ?_
    refine lv_goto (tgt := 19) hx hb dX12_isDone_15 (by decide) ?_
    exact W.zret (v := 1) (ty := .boolean) hx hb hr rfl (fun t ht hW => ⟨⟨1, f, rfl, ⟨rfl, (by decide)⟩, by rw [ht]; exact hP, va_K.moved hW.alike hK, pl_in hD⟩, hS.F ht⟩) hS.2.2 dX12_isDone_19
set_option maxHeartbeats 8000000 in
set_option maxRecDepth 100000 in
theorem s_X12_holds_k12_a588 (l : Launch) (D : va_G) (cI cL cZ cR cG cH : ClassId) (Z : zT) (kd : Nat → Nat) (L : List Nat) (f : Nat → va_E) (hG : GI (okc cI cL cZ cR cG cH L kd) kd L f) (o0 : Nat) (mo0 : o0 ∈ L) (ko0 : kd o0 = 12) (p1 : Int32) (bp1 : (0 ≤ p1.toInt ∧ p1.toInt ≤ 23)) (p2 : Int32) (bp2 : (0 ≤ p2.toInt ∧ p2.toInt ≤ 19)) (o3 : Nat) (mo3 : o3 ∈ L) (ko3 : kd o3 = 588) (p4 : Int32) (bp4 : (0 ≤ p4.toInt ∧ p4.toInt ≤ 20)) : mPI l D cI cL cZ cR cG cH Z yX12_holds cX12_holds 8 (some .boolean) 3 76 [.ref o0, .int p1, .int p2, .ref o3, .int p4] L f (fun (r : Int32) (f9 : Nat → va_E) => f = f9 ∧ (0 ≤ r.toInt ∧ r.toInt ≤ 1)) := by
  obtain ⟨dC, dI⟩ := D
  refine Met.ofW (cc := cX12_holds) (maxL := 8) (ret := (some .boolean)) (by decide) rfl ?_
  intro p e s m args below meth c s₁ B hml hv
  obtain ⟨rfl, hP, hK, hD0, hN, hZ⟩ := hv
  have hx := B.exec
  have hb := B.bytes
  have hr := B.returns
  have hU : ∀ w ∈ wsU, w.before _ s = true := fun w h => atoms_spec (ws := wU yX12_holds cX12_holds 8 (some .boolean)) B.pre w (List.mem_cons_of_mem _ h)
  have hown : s.vm.findClass RX12 = some m.cls := findClass_of_methodNamed B.named
  have hlocks := B.notSynchronized
  have hD := pl_in hD0
  have hS : va_S (fun q => q ∈ L) s.heap s.heap [] := va_S.rf
  have hl := lv_entry ([.ref o0, .int p1, .int p2, .ref o3, .int p4]) (n := 8) (Nat.le_of_ble_eq_true rfl)
  rw [lg_entry_eq]
  generalize (lg_sl ([.ref o0, .int p1, .int p2, .ref o3, .int p4]) ++ List.replicate (8 - (lg_sl ([.ref o0, .int p1, .int p2, .ref o3, .int p4])).length) Slot.unset).toArray = ls at hl ⊢
  have hl : lv_has ls 8 [(0, .ref o0), (1, .int p1), (2, .int p2), (3, .ref o3), (4, .int p4)] := hl
  refine lv_aload_n hx hb dX12_holds_0 rfl (lv_at hl 0 rfl) ?_
  refine lv_iload_n hx hb dX12_holds_1 rfl (lv_at hl 1 rfl) ?_
  refine lv_iconst (v := 0) hx hb dX12_holds_2 (by decide) ?_
  refine lv_iconst (v := 1) hx hb dX12_holds_3 (by decide) ?_
  obtain ⟨a_2, a_3, a_4, v_5, a_6, v_7, v_8, v_9, v_10, v_11, v_12, v_13, v_14, v_15, v_16, a_17, a_18, a_19, a_20, a_21, a_22, a_23, a_24, v_25, v_26, v_27, v_28, v_29, a_30, v_31, a_32, a_33, v_34, v_35, a_36, v_37, a_38, a_39, v_40, v_41, a_42, a_43, a_44, v_45, a_46, a_47, a_48, a_49, a_50, a_51, a_52, a_53, a_54, v_55, v_56, a_57, hfo_1, ⟨ma_2, ka_2⟩, ⟨ma_3, ka_3⟩, ⟨ma_4, ka_4⟩, bv_5, ⟨ma_6, ka_6⟩, bv_7, bv_8, bv_13, bv_14, bv_15, ⟨ma_17, ka_17⟩, ⟨ma_18, ka_18⟩, ⟨ma_19, ka_19⟩, ⟨ma_20, ka_20⟩, ⟨ma_21, ka_21⟩, ⟨ma_22, ka_22⟩, ⟨ma_23, ka_23⟩, ⟨ma_24, ka_24⟩, bv_25, bv_27, bv_29, ⟨ma_30, ka_30⟩, bv_31, ⟨ma_32, ka_32⟩, ⟨ma_33, ka_33⟩, bv_34, ⟨ma_36, ka_36⟩, bv_37, ⟨ma_38, ka_38⟩, ⟨ma_39, ka_39⟩, bv_40, ⟨ma_42, ka_42⟩, ⟨ma_43, ka_43⟩, ⟨ma_44, ka_44⟩, bv_45, ⟨ma_46, ka_46⟩, ⟨ma_47, ka_47⟩, ⟨ma_48, ka_48⟩, ⟨ma_49, ka_49⟩, ⟨ma_50, ka_50⟩, ⟨ma_51, ka_51⟩, ⟨ma_52, ka_52⟩, ⟨ma_53, ka_53⟩, ⟨ma_54, ka_54⟩, bv_55, ⟨ma_57, ka_57⟩⟩ := un_12 (hG _ mo0) ko0
  have bv_9 : ((-2147483648) ≤ v_9.toInt ∧ v_9.toInt ≤ 2147483647) := ⟨i32_lo _, i32_hi _⟩
  have bv_10 : ((-2147483648) ≤ v_10.toInt ∧ v_10.toInt ≤ 2147483647) := ⟨i32_lo _, i32_hi _⟩
  have bv_11 : ((-2147483648) ≤ v_11.toInt ∧ v_11.toInt ≤ 2147483647) := ⟨i32_lo _, i32_hi _⟩
  have bv_12 : ((-2147483648) ≤ v_12.toInt ∧ v_12.toInt ≤ 2147483647) := ⟨i32_lo _, i32_hi _⟩
  have bv_16 : ((-2147483648) ≤ v_16.toInt ∧ v_16.toInt ≤ 2147483647) := ⟨i32_lo _, i32_hi _⟩
  have bv_26 : ((-2147483648) ≤ v_26.toInt ∧ v_26.toInt ≤ 2147483647) := ⟨i32_lo _, i32_hi _⟩
  have bv_28 : ((-2147483648) ≤ v_28.toInt ∧ v_28.toInt ≤ 2147483647) := ⟨i32_lo _, i32_hi _⟩
  have bv_35 : ((-2147483648) ≤ v_35.toInt ∧ v_35.toInt ≤ 2147483647) := ⟨i32_lo _, i32_hi _⟩
  have bv_41 : ((-2147483648) ≤ v_41.toInt ∧ v_41.toInt ≤ 2147483647) := ⟨i32_lo _, i32_hi _⟩
  have bv_56 : ((-2147483648) ≤ v_56.toInt ∧ v_56.toInt ≤ 2147483647) := ⟨i32_lo _, i32_hi _⟩
  refine tk_ViP (As := [.int p1, .int 0, .int 1]) (rest := []) (n := 3) hx hb hml hown hU hN hZ (s_X12_closed_k12 l (dC, dI) cI cL cZ cR cG cH Z kd L f hG o0 mo0 ko0 p1 (by constructor <;> omega) 0 (by decide) 1 (by decide)) wd_878 wd_879 wd_880 wd_5 wd_881 (by decide +kernel) ⟨Nat.le_of_ble_eq_true rfl, Nat.le_of_ble_eq_true rfl⟩ hK hP hD hS mo0 hfo_1 12 rfl rfl rfl hl.1 rfl (Nat.le_of_ble_eq_true rfl) dX12_holds_4 ⟨Nat.le_of_ble_eq_true rfl, Nat.le_of_ble_eq_true rfl⟩ (fun x_58 f_59 H locs hw hP hD hS => ?_)
  obtain ⟨rfl, bx_58⟩ := hw
  refine lv_istore (lv' := [(5, .int x_58), (0, .ref o0), (1, .int p1), (2, .int p2), (3, .ref o3), (4, .int p4)]) hx hb dX12_holds_7 hl (by decide) rfl (fun ls hl => ?_)
  refine lv_iconst (v := 0) hx hb dX12_holds_9 (by decide) ?_
  refine lv_istore (lv' := [(6, .int 0), (5, .int x_58), (0, .ref o0), (1, .int p1), (2, .int p2), (3, .ref o3), (4, .int p4)]) hx hb dX12_holds_10 hl (by decide) rfl (fun ls hl => ?_)
  have hloop_79 : ∀ (n : Nat), ∀ (y_80 : Int32), (0 ≤ y_80.toInt ∧ y_80.toInt ≤ 19) → ∀ (y_81 : Int32), (0 ≤ y_81.toInt ∧ y_81.toInt ≤ 63) → ∀ (H : Heap) (locs : List Loc), va_P (dC, dI) vwCl (va_pl L f) H → va_S (fun q => q ∈ L) s.heap H locs → 19 - y_80.toInt < (n : Int) → ∀ (ls : Array Slot), lv_has ls 8 [(6, .int y_80), (5, .int y_81), (0, .ref o0), (1, .int p1), (2, .int p2), (3, .ref o3), (4, .int p4)] → W p l e (headSpec (wU yX12_holds cX12_holds 8 (some .boolean)) { frames := 3, cells := 0, slots := 0, locals := 76 }).room s m [.ref o0, .int p1, .int p2, .ref o3, .int p4].toArray below meth c H locs 0 0 (MQ below (va_Qi (fun (r : Int32) (f9 : Nat → va_E) => f = f9 ∧ (0 ≤ r.toInt ∧ r.toInt ≤ 1)) (qP (dC, dI) cI cL cZ cR cG cH L) (fun q => q ∈ L)) [.ref o0, .int p1, .int p2, .ref o3, .int p4].toArray s 0 0 (fun q => q ∈ L)) (F0 m 12 ls []) := by
    intro n
    induction n with
    | zero => intro y_80 by_80 y_81 by_81 H locs hP hS hmuhloop_79 ls hl; exfalso; omega
    | succ n ih_hloop_79 =>
      intro y_80 by_80 y_81 by_81 H locs hP hS hmuhloop_79 ls hl
      refine lv_iload hx hb dX12_holds_12 (lv_at hl 0 rfl) ?_
      refine lv_iload_n hx hb dX12_holds_14 rfl (lv_at hl 4 rfl) ?_
      refine lv_icmp_ge (tgt := 59) hx hb dX12_holds_15 (by decide) (fun c_83 => ?_) (fun c_83 => ?_)
      · skip
        rw [Int32.le_iff_toInt_le] at c_83
        refine lv_aload_n hx hb dX12_holds_59 rfl (lv_at hl 2 rfl) ?_
        refine lv_iload_n hx hb dX12_holds_60 rfl (lv_at hl 3 rfl) ?_
        refine lv_iconst (v := 0) hx hb dX12_holds_61 (by decide) ?_
        refine lv_iload hx hb dX12_holds_62 (lv_at hl 1 rfl) ?_
        refine tk_ViP (As := [.int p1, .int 0, .int y_81]) (rest := []) (n := 3) hx hb hml hown hU hN hZ (s_X12_isDone_k12 l (dC, dI) cI cL cZ cR cG cH Z kd L f hG o0 mo0 ko0 p1 (by constructor <;> omega) 0 (by decide) y_81) wd_898 wd_899 wd_900 wd_5 wd_901 (by decide +kernel) ⟨Nat.le_of_ble_eq_true rfl, Nat.le_of_ble_eq_true rfl⟩ hK hP hD hS mo0 hfo_1 12 rfl rfl rfl hl.1 rfl (Nat.le_of_ble_eq_true rfl) dX12_holds_64 ⟨Nat.le_of_ble_eq_true rfl, Nat.le_of_ble_eq_true rfl⟩ (fun x_84 f_85 H locs hw hP hD hS => ?_)
        obtain ⟨rfl, bx_84⟩ := hw
        refine lv_if_ne (tgt := 72) hx hb dX12_holds_67 (by decide) (fun c_87 => ?_) (fun c_87 => ?_)
        · skip
          rw [← Int32.toInt_inj, ti_0] at c_87
          refine lv_aload_n hx hb dX12_holds_72 rfl (lv_at hl 2 rfl) ?_
          refine lv_iload_n hx hb dX12_holds_73 rfl (lv_at hl 3 rfl) ?_
          refine lv_iconst (v := 1) hx hb dX12_holds_74 (by decide) ?_
          refine lv_iconst (v := 1) hx hb dX12_holds_75 (by decide) ?_
          refine tk_ViP (As := [.int p1, .int 1, .int 1]) (rest := []) (n := 3) hx hb hml hown hU hN hZ (s_X12_closed_k12 l (dC, dI) cI cL cZ cR cG cH Z kd L f hG o0 mo0 ko0 p1 (by constructor <;> omega) 1 (by decide) 1 (by decide)) wd_878 wd_879 wd_880 wd_5 wd_881 (by decide +kernel) ⟨Nat.le_of_ble_eq_true rfl, Nat.le_of_ble_eq_true rfl⟩ hK hP hD hS mo0 hfo_1 12 rfl rfl rfl hl.1 rfl (Nat.le_of_ble_eq_true rfl) dX12_holds_76 ⟨Nat.le_of_ble_eq_true rfl, Nat.le_of_ble_eq_true rfl⟩ (fun x_88 f_89 H locs hw hP hD hS => ?_)
          obtain ⟨rfl, bx_88⟩ := hw
          refine lv_istore (lv' := [(5, .int x_88), (6, .int y_80), (0, .ref o0), (1, .int p1), (2, .int p2), (3, .ref o3), (4, .int p4)]) hx hb dX12_holds_79 hl (by decide) rfl (fun ls hl => ?_)
          refine lv_aload_n hx hb dX12_holds_81 rfl (lv_at hl 2 rfl) ?_
          refine lv_iload_n hx hb dX12_holds_82 rfl (lv_at hl 3 rfl) ?_
          refine lv_iconst (v := 1) hx hb dX12_holds_83 (by decide) ?_
          refine tk_ViP (As := [.int p1, .int 1]) (rest := []) (n := 2) hx hb hml hown hU hN hZ (s_X12_isAnchored_k12 l (dC, dI) cI cL cZ cR cG cH Z kd L f hG o0 mo0 ko0 p1 (by constructor <;> omega) 1 (by decide)) wd_946 wd_947 wd_948 wd_5 wd_949 (by decide +kernel) ⟨Nat.le_of_ble_eq_true rfl, Nat.le_of_ble_eq_true rfl⟩ hK hP hD hS mo0 hfo_1 12 rfl rfl rfl hl.1 rfl (Nat.le_of_ble_eq_true rfl) dX12_holds_84 ⟨Nat.le_of_ble_eq_true rfl, Nat.le_of_ble_eq_true rfl⟩ (fun x_91 f_92 H locs hw hP hD hS => ?_)
          obtain ⟨rfl, bx_91⟩ := hw
          have hcut_95 : ∀ (y_94 : Int32), (0 ≤ y_94.toInt ∧ y_94.toInt ≤ 1) → ∀ (ls : Array Slot), lv_has ls 8 [(5, .int x_88), (6, .int y_80), (0, .ref o0), (1, .int p1), (2, .int p2), (3, .ref o3), (4, .int p4)] → W p l e (headSpec (wU yX12_holds cX12_holds 8 (some .boolean)) { frames := 3, cells := 0, slots := 0, locals := 76 }).room s m [.ref o0, .int p1, .int p2, .ref o3, .int p4].toArray below meth c H locs 0 0 (MQ below (va_Qi (fun (r : Int32) (f9 : Nat → va_E) => f = f9 ∧ (0 ≤ r.toInt ∧ r.toInt ≤ 1)) (qP (dC, dI) cI cL cZ cR cG cH L) (fun q => q ∈ L)) [.ref o0, .int p1, .int p2, .ref o3, .int p4].toArray s 0 0 (fun q => q ∈ L)) (F0 m 95 ls [.int y_94]) := by
            intro y_94 by_94 ls hl
            refine lv_istore (lv' := [(6, .int y_94), (5, .int x_88), (0, .ref o0), (1, .int p1), (2, .int p2), (3, .ref o3), (4, .int p4)]) hx hb dX12_holds_95 hl (by decide) rfl (fun ls hl => ?_)
            refine lv_iload_n hx hb dX12_holds_97 rfl (lv_at hl 4 rfl) ?_
            refine lv_iconst (v := 1) hx hb dX12_holds_98 (by decide) ?_
            refine lv_iadd hx hb dX12_holds_99 ?_
            refine lv_topi (fun x_96 ex_96 => ?_)
            have hx_96 : x_96.toInt = p2.toInt + 1 := by rw [ex_96, ad_I (by rw [ti_1]; omega) (by rw [ti_1]; omega), ti_1]
            have bx_96 : (1 ≤ x_96.toInt ∧ x_96.toInt ≤ 20) := by constructor <;> omega
            refine lv_istore (lv' := [(7, .int x_96), (6, .int y_94), (5, .int x_88), (0, .ref o0), (1, .int p1), (2, .int p2), (3, .ref o3), (4, .int p4)]) hx hb dX12_holds_100 hl (by decide) rfl (fun ls hl => ?_)
            have hloop_103 : ∀ (n : Nat), ∀ (y_104 : Int32), (1 ≤ y_104.toInt ∧ y_104.toInt ≤ 20) → ∀ (y_105 : Int32), (0 ≤ y_105.toInt ∧ y_105.toInt ≤ 63) → ∀ (H : Heap) (locs : List Loc), va_P (dC, dI) vwCl (va_pl L f) H → va_S (fun q => q ∈ L) s.heap H locs → 20 - y_104.toInt < (n : Int) → ∀ (ls : Array Slot), lv_has ls 8 [(7, .int y_104), (6, .int y_94), (5, .int y_105), (0, .ref o0), (1, .int p1), (2, .int p2), (3, .ref o3), (4, .int p4)] → W p l e (headSpec (wU yX12_holds cX12_holds 8 (some .boolean)) { frames := 3, cells := 0, slots := 0, locals := 76 }).room s m [.ref o0, .int p1, .int p2, .ref o3, .int p4].toArray below meth c H locs 0 0 (MQ below (va_Qi (fun (r : Int32) (f9 : Nat → va_E) => f = f9 ∧ (0 ≤ r.toInt ∧ r.toInt ≤ 1)) (qP (dC, dI) cI cL cZ cR cG cH L) (fun q => q ∈ L)) [.ref o0, .int p1, .int p2, .ref o3, .int p4].toArray s 0 0 (fun q => q ∈ L)) (F0 m 102 ls []) := by
              intro n
              induction n with
              | zero => intro y_104 by_104 y_105 by_105 H locs hP hS hmuhloop_103 ls hl; exfalso; omega
              | succ n ih_hloop_103 =>
                intro y_104 by_104 y_105 by_105 H locs hP hS hmuhloop_103 ls hl
                refine lv_iload hx hb dX12_holds_102 (lv_at hl 0 rfl) ?_
                refine lv_iload hx hb dX12_holds_104 (lv_at hl 7 rfl) ?_
                have hcut_108 : ∀ (H : Heap) (locs : List Loc), va_P (dC, dI) vwCl (va_pl L f) H → va_S (fun q => q ∈ L) s.heap H locs → ∀ (ls : Array Slot), lv_has ls 8 [(7, .int y_104), (6, .int y_94), (5, .int y_105), (0, .ref o0), (1, .int p1), (2, .int p2), (3, .ref o3), (4, .int p4)] → W p l e (headSpec (wU yX12_holds cX12_holds 8 (some .boolean)) { frames := 3, cells := 0, slots := 0, locals := 76 }).room s m [.ref o0, .int p1, .int p2, .ref o3, .int p4].toArray below meth c H locs 0 0 (MQ below (va_Qi (fun (r : Int32) (f9 : Nat → va_E) => f = f9 ∧ (0 ≤ r.toInt ∧ r.toInt ≤ 1)) (qP (dC, dI) cI cL cZ cR cG cH L) (fun q => q ∈ L)) [.ref o0, .int p1, .int p2, .ref o3, .int p4].toArray s 0 0 (fun q => q ∈ L)) (F0 m 145 ls []) := by
                  intro H locs hP hS ls hl
                  refine lv_aload_n hx hb dX12_holds_145 rfl (lv_at hl 3 rfl) ?_
                  refine lv_iload_n hx hb dX12_holds_146 rfl (lv_at hl 4 rfl) ?_
                  refine lv_iconst (v := 1) hx hb dX12_holds_147 (by decide) ?_
                  refine lv_iload hx hb dX12_holds_148 (lv_at hl 2 rfl) ?_
                  refine tk_ViP (As := [.int p1, .int 1, .int y_105]) (rest := []) (n := 3) hx hb hml hown hU hN hZ (s_X12_isDone_k12 l (dC, dI) cI cL cZ cR cG cH Z kd L f hG o0 mo0 ko0 p1 (by constructor <;> omega) 1 (by decide) y_105) wd_898 wd_899 wd_900 wd_5 wd_901 (by decide +kernel) ⟨Nat.le_of_ble_eq_true rfl, Nat.le_of_ble_eq_true rfl⟩ hK hP hD hS mo0 hfo_1 12 rfl rfl rfl hl.1 rfl (Nat.le_of_ble_eq_true rfl) dX12_holds_150 ⟨Nat.le_of_ble_eq_true rfl, Nat.le_of_ble_eq_true rfl⟩ (fun x_109 f_110 H locs hw hP hD hS => ?_)
                  obtain ⟨rfl, bx_109⟩ := hw
                  exact W.zret (v := x_109) (ty := .boolean) hx hb hr (zb_n (by constructor <;> omega)) (fun t ht hW => ⟨⟨x_109, f, rfl, ⟨rfl, (by constructor <;> omega)⟩, by rw [ht]; exact hP, va_K.moved hW.alike hK, pl_in hD⟩, hS.F ht⟩) hS.2.2 dX12_holds_153
                refine lv_icmp_ge (tgt := 145) hx hb dX12_holds_106 (by decide) (fun c_112 => ?_) (fun c_112 => ?_)
                · skip
                  rw [Int32.le_iff_toInt_le] at c_112
                  exact hcut_108 _ _ hP hS ls (lv_sub hl [0, 1, 2, 3, 4, 5, 6, 7] rfl)
                · skip
                  rw [Int32.le_iff_toInt_le] at c_112
                  refine lv_iload hx hb dX12_holds_109 (lv_at hl 1 rfl) ?_
                  refine lv_if_eq (tgt := 125) hx hb dX12_holds_111 (by decide) (fun c_113 => ?_) (fun c_113 => ?_)
                  · skip
                    rw [← Int32.toInt_inj, ti_0] at c_113
                    refine lv_aload_n hx hb dX12_holds_125 rfl (lv_at hl 3 rfl) ?_
                    refine lv_iload_n hx hb dX12_holds_126 rfl (lv_at hl 4 rfl) ?_
                    refine lv_iconst (v := 1) hx hb dX12_holds_127 (by decide) ?_
                    refine lv_iload hx hb dX12_holds_128 (lv_at hl 2 rfl) ?_
                    refine lv_aload_n hx hb dX12_holds_130 rfl (lv_at hl 6 rfl) ?_
                    refine lv_iload hx hb dX12_holds_131 (lv_at hl 0 rfl) ?_
                    obtain ⟨g_115, hfo_114, hbg_115⟩ := un_588 (hG _ mo3) ko3
                    refine tk_ildP hx hb hK hP 0 mo3 hfo_114 rfl (vp_in_iff.mpr (by constructor <;> omega)) dX12_holds_133 ?_
                    refine lv_topi (fun x_116 ex_116 => ?_)
                    have bx_116 : ((-2147483648) ≤ x_116.toInt ∧ x_116.toInt ≤ 2147483647) := ⟨i32_lo _, i32_hi _⟩
                    refine tk_ViP (As := [.int p1, .int 1, .int y_105, .int x_116]) (rest := []) (n := 4) hx hb hml hown hU hN hZ (s_X12_goesOn_k12 l (dC, dI) cI cL cZ cR cG cH Z kd L f hG o0 mo0 ko0 p1 (by constructor <;> omega) 1 (by decide) y_105 x_116) wd_942 wd_943 wd_944 wd_5 wd_945 (by decide +kernel) ⟨Nat.le_of_ble_eq_true rfl, Nat.le_of_ble_eq_true rfl⟩ hK hP hD hS mo0 hfo_1 12 rfl rfl rfl hl.1 rfl (Nat.le_of_ble_eq_true rfl) dX12_holds_134 ⟨Nat.le_of_ble_eq_true rfl, Nat.le_of_ble_eq_true rfl⟩ (fun x_117 f_118 H locs hw hP hD hS => ?_)
                    obtain ⟨rfl, bx_117⟩ := hw
                    refine lv_istore (lv' := [(5, .int x_117), (7, .int y_104), (6, .int y_94), (0, .ref o0), (1, .int p1), (2, .int p2), (3, .ref o3), (4, .int p4)]) hx hb dX12_holds_137 hl (by decide) rfl (fun ls hl => ?_)
                    obtain ⟨x_120, ex_120⟩ : ∃ y : Int32, y_104 + 1 = y := ⟨_, rfl⟩
                    have hx_120 : x_120.toInt = y_104.toInt + 1 := by rw [← ex_120, ad_I (by rw [ti_1]; omega) (by rw [ti_1]; omega), ti_1]
                    have bx_120 : (2 ≤ x_120.toInt ∧ x_120.toInt ≤ 20) := by constructor <;> omega
                    refine lv_iinc (v := x_120) (lv' := [(7, .int x_120), (5, .int x_117), (6, .int y_94), (0, .ref o0), (1, .int p1), (2, .int p2), (3, .ref o3), (4, .int p4)]) hx hb dX12_holds_139 hl (k := 1) rfl ex_120 (by decide) rfl (fun ls hl => ?_)
                    refine lv_goto (tgt := 102) hx hb dX12_holds_142 (by decide) ?_
                    exact ih_hloop_103 x_120 (by constructor <;> omega) x_117 (by constructor <;> omega) _ _ hP hS (by omega) ls (lv_sub hl [0, 2, 1, 3, 4, 5, 6, 7] rfl)
                  · skip
                    rw [← Int32.toInt_inj, ti_0] at c_113
                    refine lv_aload_n hx hb dX12_holds_114 rfl (lv_at hl 3 rfl) ?_
                    refine lv_iload_n hx hb dX12_holds_115 rfl (lv_at hl 4 rfl) ?_
                    refine lv_iconst (v := 1) hx hb dX12_holds_116 (by decide) ?_
                    refine lv_iload hx hb dX12_holds_117 (lv_at hl 2 rfl) ?_
                    refine tk_ViP (As := [.int p1, .int 1, .int y_105]) (rest := []) (n := 3) hx hb hml hown hU hN hZ (s_X12_isDone_k12 l (dC, dI) cI cL cZ cR cG cH Z kd L f hG o0 mo0 ko0 p1 (by constructor <;> omega) 1 (by decide) y_105) wd_898 wd_899 wd_900 wd_5 wd_901 (by decide +kernel) ⟨Nat.le_of_ble_eq_true rfl, Nat.le_of_ble_eq_true rfl⟩ hK hP hD hS mo0 hfo_1 12 rfl rfl rfl hl.1 rfl (Nat.le_of_ble_eq_true rfl) dX12_holds_119 ⟨Nat.le_of_ble_eq_true rfl, Nat.le_of_ble_eq_true rfl⟩ (fun x_121 f_122 H locs hw hP hD hS => ?_)
                    obtain ⟨rfl, bx_121⟩ := hw
                    refine lv_if_ne (tgt := 145) hx hb dX12_holds_122 (by decide) (fun c_124 => ?_) (fun c_124 => ?_)
                    · skip
                      rw [← Int32.toInt_inj, ti_0] at c_124
                      exact hcut_108 _ _ hP hS ls (lv_sub hl [0, 1, 2, 3, 4, 5, 6, 7] rfl)
                    · skip
                      rw [← Int32.toInt_inj, ti_0] at c_124
                      refine lv_aload_n hx hb dX12_holds_125 rfl (lv_at hl 3 rfl) ?_
                      refine lv_iload_n hx hb dX12_holds_126 rfl (lv_at hl 4 rfl) ?_
                      refine lv_iconst (v := 1) hx hb dX12_holds_127 (by decide) ?_
                      refine lv_iload hx hb dX12_holds_128 (lv_at hl 2 rfl) ?_
                      refine lv_aload_n hx hb dX12_holds_130 rfl (lv_at hl 6 rfl) ?_
                      refine lv_iload hx hb dX12_holds_131 (lv_at hl 0 rfl) ?_
                      obtain ⟨g_126, hfo_125, hbg_126⟩ := un_588 (hG _ mo3) ko3
                      refine tk_ildP hx hb hK hP 0 mo3 hfo_125 rfl (vp_in_iff.mpr (by constructor <;> omega)) dX12_holds_133 ?_
                      refine lv_topi (fun x_127 ex_127 => ?_)
                      have bx_127 : ((-2147483648) ≤ x_127.toInt ∧ x_127.toInt ≤ 2147483647) := ⟨i32_lo _, i32_hi _⟩
                      refine tk_ViP (As := [.int p1, .int 1, .int y_105, .int x_127]) (rest := []) (n := 4) hx hb hml hown hU hN hZ (s_X12_goesOn_k12 l (dC, dI) cI cL cZ cR cG cH Z kd L f hG o0 mo0 ko0 p1 (by constructor <;> omega) 1 (by decide) y_105 x_127) wd_942 wd_943 wd_944 wd_5 wd_945 (by decide +kernel) ⟨Nat.le_of_ble_eq_true rfl, Nat.le_of_ble_eq_true rfl⟩ hK hP hD hS mo0 hfo_1 12 rfl rfl rfl hl.1 rfl (Nat.le_of_ble_eq_true rfl) dX12_holds_134 ⟨Nat.le_of_ble_eq_true rfl, Nat.le_of_ble_eq_true rfl⟩ (fun x_128 f_129 H locs hw hP hD hS => ?_)
                      obtain ⟨rfl, bx_128⟩ := hw
                      refine lv_istore (lv' := [(5, .int x_128), (7, .int y_104), (6, .int y_94), (0, .ref o0), (1, .int p1), (2, .int p2), (3, .ref o3), (4, .int p4)]) hx hb dX12_holds_137 hl (by decide) rfl (fun ls hl => ?_)
                      obtain ⟨x_131, ex_131⟩ : ∃ y : Int32, y_104 + 1 = y := ⟨_, rfl⟩
                      have hx_131 : x_131.toInt = y_104.toInt + 1 := by rw [← ex_131, ad_I (by rw [ti_1]; omega) (by rw [ti_1]; omega), ti_1]
                      have bx_131 : (2 ≤ x_131.toInt ∧ x_131.toInt ≤ 20) := by constructor <;> omega
                      refine lv_iinc (v := x_131) (lv' := [(7, .int x_131), (5, .int x_128), (6, .int y_94), (0, .ref o0), (1, .int p1), (2, .int p2), (3, .ref o3), (4, .int p4)]) hx hb dX12_holds_139 hl (k := 1) rfl ex_131 (by decide) rfl (fun ls hl => ?_)
                      refine lv_goto (tgt := 102) hx hb dX12_holds_142 (by decide) ?_
                      exact ih_hloop_103 x_131 (by constructor <;> omega) x_128 (by constructor <;> omega) _ _ hP hS (by omega) ls (lv_sub hl [0, 2, 1, 3, 4, 5, 6, 7] rfl)
            exact hloop_103 20 x_96 (by constructor <;> omega) x_88 (by constructor <;> omega) _ _ hP hS (by omega) ls hl
          refine lv_if_ne (tgt := 94) hx hb dX12_holds_87 (by decide) (fun c_132 => ?_) (fun c_132 => ?_)
          · skip
            rw [← Int32.toInt_inj, ti_0] at c_132
            refine lv_iconst (v := 0) hx hb dX12_holds_94 (by decide) ?_
            exact hcut_95 0 (by decide) ls (lv_sub hl [0, 1, 2, 3, 4, 5, 6] rfl)
          · skip
            rw [← Int32.toInt_inj, ti_0] at c_132
            refine lv_iconst (v := 1) hx hb dX12_holds_90 (by decide) ?_
            refine lv_goto (tgt := 95) hx hb dX12_holds_91 (by decide) ?_
            exact hcut_95 1 (by decide) ls (lv_sub hl [0, 1, 2, 3, 4, 5, 6] rfl)
        · skip
          rw [← Int32.toInt_inj, ti_0] at c_87
          refine lv_iconst (v := 0) hx hb dX12_holds_70 (by decide) ?_
          exact W.zret (v := 0) (ty := .boolean) hx hb hr rfl (fun t ht hW => ⟨⟨0, f, rfl, ⟨rfl, (by decide)⟩, by rw [ht]; exact hP, va_K.moved hW.alike hK, pl_in hD⟩, hS.F ht⟩) hS.2.2 dX12_holds_71
      · skip
        rw [Int32.le_iff_toInt_le] at c_83
        refine lv_aload_n hx hb dX12_holds_18 rfl (lv_at hl 2 rfl) ?_
        refine lv_iload_n hx hb dX12_holds_19 rfl (lv_at hl 3 rfl) ?_
        refine lv_iconst (v := 0) hx hb dX12_holds_20 (by decide) ?_
        refine lv_iload hx hb dX12_holds_21 (lv_at hl 1 rfl) ?_
        refine lv_aload_n hx hb dX12_holds_23 rfl (lv_at hl 5 rfl) ?_
        refine lv_iload hx hb dX12_holds_24 (lv_at hl 0 rfl) ?_
        obtain ⟨g_134, hfo_133, hbg_134⟩ := un_588 (hG _ mo3) ko3
        refine tk_ildP hx hb hK hP 0 mo3 hfo_133 rfl (vp_in_iff.mpr (by constructor <;> omega)) dX12_holds_26 ?_
        refine lv_topi (fun x_135 ex_135 => ?_)
        have bx_135 : ((-2147483648) ≤ x_135.toInt ∧ x_135.toInt ≤ 2147483647) := ⟨i32_lo _, i32_hi _⟩
        refine tk_ViP (As := [.int p1, .int 0, .int y_81, .int x_135]) (rest := []) (n := 4) hx hb hml hown hU hN hZ (s_X12_goesOn_k12 l (dC, dI) cI cL cZ cR cG cH Z kd L f hG o0 mo0 ko0 p1 (by constructor <;> omega) 0 (by decide) y_81 x_135) wd_942 wd_943 wd_944 wd_5 wd_945 (by decide +kernel) ⟨Nat.le_of_ble_eq_true rfl, Nat.le_of_ble_eq_true rfl⟩ hK hP hD hS mo0 hfo_1 12 rfl rfl rfl hl.1 rfl (Nat.le_of_ble_eq_true rfl) dX12_holds_27 ⟨Nat.le_of_ble_eq_true rfl, Nat.le_of_ble_eq_true rfl⟩ (fun x_136 f_137 H locs hw hP hD hS => ?_)
        obtain ⟨rfl, bx_136⟩ := hw
        refine lv_aload_n hx hb dX12_holds_30 rfl (lv_at hl 2 rfl) ?_
        refine lv_iload_n hx hb dX12_holds_31 rfl (lv_at hl 3 rfl) ?_
        refine lv_iconst (v := 0) hx hb dX12_holds_32 (by decide) ?_
        refine tk_ViP (As := [.int p1, .int 0]) (rest := [.int x_136]) (n := 2) hx hb hml hown hU hN hZ (s_X12_isAnchored_k12 l (dC, dI) cI cL cZ cR cG cH Z kd L f hG o0 mo0 ko0 p1 (by constructor <;> omega) 0 (by decide)) wd_946 wd_947 wd_948 wd_5 wd_949 (by decide +kernel) ⟨Nat.le_of_ble_eq_true rfl, Nat.le_of_ble_eq_true rfl⟩ hK hP hD hS mo0 hfo_1 12 rfl rfl rfl hl.1 rfl (Nat.le_of_ble_eq_true rfl) dX12_holds_33 ⟨Nat.le_of_ble_eq_true rfl, Nat.le_of_ble_eq_true rfl⟩ (fun x_139 f_140 H locs hw hP hD hS => ?_)
        obtain ⟨rfl, bx_139⟩ := hw
        have hcut_144 : ∀ (y_142 : Int32), (0 ≤ y_142.toInt ∧ y_142.toInt ≤ 63) → ∀ (H : Heap) (locs : List Loc), va_P (dC, dI) vwCl (va_pl L f) H → va_S (fun q => q ∈ L) s.heap H locs → ∀ (ls : Array Slot), lv_has ls 8 [(6, .int y_80), (5, .int y_81), (0, .ref o0), (1, .int p1), (2, .int p2), (3, .ref o3), (4, .int p4)] → W p l e (headSpec (wU yX12_holds cX12_holds 8 (some .boolean)) { frames := 3, cells := 0, slots := 0, locals := 76 }).room s m [.ref o0, .int p1, .int p2, .ref o3, .int p4].toArray below meth c H locs 0 0 (MQ below (va_Qi (fun (r : Int32) (f9 : Nat → va_E) => f = f9 ∧ (0 ≤ r.toInt ∧ r.toInt ≤ 1)) (qP (dC, dI) cI cL cZ cR cG cH L) (fun q => q ∈ L)) [.ref o0, .int p1, .int p2, .ref o3, .int p4].toArray s 0 0 (fun q => q ∈ L)) (F0 m 50 ls [.int y_142, .int x_136]) := by
          intro y_142 by_142 H locs hP hS ls hl
          refine lv_ior hx hb dX12_holds_50 ?_
          refine lv_topi (fun x_145 ex_145 => ?_)
          have bx_145 : (0 ≤ x_145.toInt ∧ x_145.toInt ≤ 63) := by rw [ex_145]; exact or_K 6 (by decide) (by constructor <;> omega) (by constructor <;> omega)
          refine lv_istore (lv' := [(5, .int x_145), (6, .int y_80), (0, .ref o0), (1, .int p1), (2, .int p2), (3, .ref o3), (4, .int p4)]) hx hb dX12_holds_51 hl (by decide) rfl (fun ls hl => ?_)
          obtain ⟨x_146, ex_146⟩ : ∃ y : Int32, y_80 + 1 = y := ⟨_, rfl⟩
          have hx_146 : x_146.toInt = y_80.toInt + 1 := by rw [← ex_146, ad_I (by rw [ti_1]; omega) (by rw [ti_1]; omega), ti_1]
          have bx_146 : (1 ≤ x_146.toInt ∧ x_146.toInt ≤ 19) := by constructor <;> omega
          refine lv_iinc (v := x_146) (lv' := [(6, .int x_146), (5, .int x_145), (0, .ref o0), (1, .int p1), (2, .int p2), (3, .ref o3), (4, .int p4)]) hx hb dX12_holds_53 hl (k := 1) rfl ex_146 (by decide) rfl (fun ls hl => ?_)
          refine lv_goto (tgt := 12) hx hb dX12_holds_56 (by decide) ?_
          exact ih_hloop_79 x_146 (by constructor <;> omega) x_145 (by constructor <;> omega) _ _ hP hS (by omega) ls (lv_sub hl [0, 1, 2, 3, 4, 5, 6] rfl)
        refine lv_if_eq (tgt := 43) hx hb dX12_holds_36 (by decide) (fun c_147 => ?_) (fun c_147 => ?_)
        · skip
          rw [← Int32.toInt_inj, ti_0] at c_147
          refine lv_aload_n hx hb dX12_holds_43 rfl (lv_at hl 2 rfl) ?_
          refine lv_iload_n hx hb dX12_holds_44 rfl (lv_at hl 3 rfl) ?_
          refine lv_iconst (v := 0) hx hb dX12_holds_45 (by decide) ?_
          refine lv_iconst (v := 1) hx hb dX12_holds_46 (by decide) ?_
          refine tk_ViP (As := [.int p1, .int 0, .int 1]) (rest := [.int x_136]) (n := 3) hx hb hml hown hU hN hZ (s_X12_closed_k12 l (dC, dI) cI cL cZ cR cG cH Z kd L f hG o0 mo0 ko0 p1 (by constructor <;> omega) 0 (by decide) 1 (by decide)) wd_878 wd_879 wd_880 wd_5 wd_881 (by decide +kernel) ⟨Nat.le_of_ble_eq_true rfl, Nat.le_of_ble_eq_true rfl⟩ hK hP hD hS mo0 hfo_1 12 rfl rfl rfl hl.1 rfl (Nat.le_of_ble_eq_true rfl) dX12_holds_47 ⟨Nat.le_of_ble_eq_true rfl, Nat.le_of_ble_eq_true rfl⟩ (fun x_148 f_149 H locs hw hP hD hS => ?_)
          obtain ⟨rfl, bx_148⟩ := hw
          exact hcut_144 x_148 (by constructor <;> omega) _ _ hP hS ls (lv_sub hl [0, 1, 2, 3, 4, 5, 6] rfl)
        · skip
          rw [← Int32.toInt_inj, ti_0] at c_147
          refine lv_iconst (v := 0) hx hb dX12_holds_39 (by decide) ?_
          refine lv_goto (tgt := 50) hx hb dX12_holds_40 (by decide) ?_
          exact hcut_144 0 (by decide) _ _ hP hS ls (lv_sub hl [0, 1, 2, 3, 4, 5, 6] rfl)
  exact hloop_79 20 0 (by decide) x_58 (by constructor <;> omega) _ _ hP hS (by (try rw [ti_0]) <;> omega) ls hl
set_option maxHeartbeats 8000000 in
set_option maxRecDepth 100000 in
theorem s_X12_someHolds_k12_a588 (l : Launch) (D : va_G) (cI cL cZ cR cG cH : ClassId) (Z : zT) (kd : Nat → Nat) (L : List Nat) (f : Nat → va_E) (hG : GI (okc cI cL cZ cR cG cH L kd) kd L f) (o0 : Nat) (mo0 : o0 ∈ L) (ko0 : kd o0 = 12) (p1 : Int32) (bp1 : (0 ≤ p1.toInt ∧ p1.toInt ≤ 7)) (p2 : Int32) (bp2 : (0 ≤ p2.toInt ∧ p2.toInt ≤ 19)) (o3 : Nat) (mo3 : o3 ∈ L) (ko3 : kd o3 = 588) (p4 : Int32) (bp4 : (0 ≤ p4.toInt ∧ p4.toInt ≤ 20)) : mPI l D cI cL cZ cR cG cH Z yX12_someHolds cX12_someHolds 6 (some .boolean) 4 103 [.ref o0, .int p1, .int p2, .ref o3, .int p4] L f (fun (r : Int32) (f9 : Nat → va_E) => f = f9 ∧ (0 ≤ r.toInt ∧ r.toInt ≤ 1)) := by
  obtain ⟨dC, dI⟩ := D
  refine Met.ofW (cc := cX12_someHolds) (maxL := 6) (ret := (some .boolean)) (by decide) rfl ?_
  intro p e s m args below meth c s₁ B hml hv
  obtain ⟨rfl, hP, hK, hD0, hN, hZ⟩ := hv
  have hx := B.exec
  have hb := B.bytes
  have hr := B.returns
  have hU : ∀ w ∈ wsU, w.before _ s = true := fun w h => atoms_spec (ws := wU yX12_someHolds cX12_someHolds 6 (some .boolean)) B.pre w (List.mem_cons_of_mem _ h)
  have hown : s.vm.findClass RX12 = some m.cls := findClass_of_methodNamed B.named
  have hlocks := B.notSynchronized
  have hD := pl_in hD0
  have hS : va_S (fun q => q ∈ L) s.heap s.heap [] := va_S.rf
  have hl := lv_entry ([.ref o0, .int p1, .int p2, .ref o3, .int p4]) (n := 6) (Nat.le_of_ble_eq_true rfl)
  rw [lg_entry_eq]
  generalize (lg_sl ([.ref o0, .int p1, .int p2, .ref o3, .int p4]) ++ List.replicate (6 - (lg_sl ([.ref o0, .int p1, .int p2, .ref o3, .int p4])).length) Slot.unset).toArray = ls at hl ⊢
  have hl : lv_has ls 6 [(0, .ref o0), (1, .int p1), (2, .int p2), (3, .ref o3), (4, .int p4)] := hl
  refine lv_iconst (v := 0) hx hb dX12_someHolds_0 (by decide) ?_
  refine lv_istore (lv' := [(5, .int 0), (0, .ref o0), (1, .int p1), (2, .int p2), (3, .ref o3), (4, .int p4)]) hx hb dX12_someHolds_1 hl (by decide) rfl (fun ls hl => ?_)
  have hloop_13 : ∀ (n : Nat), ∀ (y_14 : Int32), (0 ≤ y_14.toInt ∧ y_14.toInt ≤ 3) → ∀ (H : Heap) (locs : List Loc), va_P (dC, dI) vwCl (va_pl L f) H → va_S (fun q => q ∈ L) s.heap H locs → 3 - y_14.toInt < (n : Int) → ∀ (ls : Array Slot), lv_has ls 6 [(5, .int y_14), (0, .ref o0), (1, .int p1), (2, .int p2), (3, .ref o3), (4, .int p4)] → W p l e (headSpec (wU yX12_someHolds cX12_someHolds 6 (some .boolean)) { frames := 4, cells := 0, slots := 0, locals := 103 }).room s m [.ref o0, .int p1, .int p2, .ref o3, .int p4].toArray below meth c H locs 0 0 (MQ below (va_Qi (fun (r : Int32) (f9 : Nat → va_E) => f = f9 ∧ (0 ≤ r.toInt ∧ r.toInt ≤ 1)) (qP (dC, dI) cI cL cZ cR cG cH L) (fun q => q ∈ L)) [.ref o0, .int p1, .int p2, .ref o3, .int p4].toArray s 0 0 (fun q => q ∈ L)) (F0 m 3 ls []) := by
    intro n
    induction n with
    | zero => intro y_14 by_14 H locs hP hS hmuhloop_13 ls hl; exfalso; omega
    | succ n ih_hloop_13 =>
      intro y_14 by_14 H locs hP hS hmuhloop_13 ls hl
      refine lv_iload hx hb dX12_someHolds_3 (lv_at hl 0 rfl) ?_
      refine lv_aload_n hx hb dX12_someHolds_5 rfl (lv_at hl 1 rfl) ?_
      refine lv_iload_n hx hb dX12_someHolds_6 rfl (lv_at hl 2 rfl) ?_
      refine lv_iconst (v := 3) hx hb dX12_someHolds_7 (by decide) ?_
      obtain ⟨a_17, a_18, a_19, v_20, a_21, v_22, v_23, v_24, v_25, v_26, v_27, v_28, v_29, v_30, v_31, a_32, a_33, a_34, a_35, a_36, a_37, a_38, a_39, v_40, v_41, v_42, v_43, v_44, a_45, v_46, a_47, a_48, v_49, v_50, a_51, v_52, a_53, a_54, v_55, v_56, a_57, a_58, a_59, v_60, a_61, a_62, a_63, a_64, a_65, a_66, a_67, a_68, a_69, v_70, v_71, a_72, hfo_16, ⟨ma_17, ka_17⟩, ⟨ma_18, ka_18⟩, ⟨ma_19, ka_19⟩, bv_20, ⟨ma_21, ka_21⟩, bv_22, bv_23, bv_28, bv_29, bv_30, ⟨ma_32, ka_32⟩, ⟨ma_33, ka_33⟩, ⟨ma_34, ka_34⟩, ⟨ma_35, ka_35⟩, ⟨ma_36, ka_36⟩, ⟨ma_37, ka_37⟩, ⟨ma_38, ka_38⟩, ⟨ma_39, ka_39⟩, bv_40, bv_42, bv_44, ⟨ma_45, ka_45⟩, bv_46, ⟨ma_47, ka_47⟩, ⟨ma_48, ka_48⟩, bv_49, ⟨ma_51, ka_51⟩, bv_52, ⟨ma_53, ka_53⟩, ⟨ma_54, ka_54⟩, bv_55, ⟨ma_57, ka_57⟩, ⟨ma_58, ka_58⟩, ⟨ma_59, ka_59⟩, bv_60, ⟨ma_61, ka_61⟩, ⟨ma_62, ka_62⟩, ⟨ma_63, ka_63⟩, ⟨ma_64, ka_64⟩, ⟨ma_65, ka_65⟩, ⟨ma_66, ka_66⟩, ⟨ma_67, ka_67⟩, ⟨ma_68, ka_68⟩, ⟨ma_69, ka_69⟩, bv_70, ⟨ma_72, ka_72⟩⟩ := un_12 (hG _ mo0) ko0
      have bv_24 : ((-2147483648) ≤ v_24.toInt ∧ v_24.toInt ≤ 2147483647) := ⟨i32_lo _, i32_hi _⟩
      have bv_25 : ((-2147483648) ≤ v_25.toInt ∧ v_25.toInt ≤ 2147483647) := ⟨i32_lo _, i32_hi _⟩
      have bv_26 : ((-2147483648) ≤ v_26.toInt ∧ v_26.toInt ≤ 2147483647) := ⟨i32_lo _, i32_hi _⟩
      have bv_27 : ((-2147483648) ≤ v_27.toInt ∧ v_27.toInt ≤ 2147483647) := ⟨i32_lo _, i32_hi _⟩
      have bv_31 : ((-2147483648) ≤ v_31.toInt ∧ v_31.toInt ≤ 2147483647) := ⟨i32_lo _, i32_hi _⟩
      have bv_41 : ((-2147483648) ≤ v_41.toInt ∧ v_41.toInt ≤ 2147483647) := ⟨i32_lo _, i32_hi _⟩
      have bv_43 : ((-2147483648) ≤ v_43.toInt ∧ v_43.toInt ≤ 2147483647) := ⟨i32_lo _, i32_hi _⟩
      have bv_50 : ((-2147483648) ≤ v_50.toInt ∧ v_50.toInt ≤ 2147483647) := ⟨i32_lo _, i32_hi _⟩
      have bv_56 : ((-2147483648) ≤ v_56.toInt ∧ v_56.toInt ≤ 2147483647) := ⟨i32_lo _, i32_hi _⟩
      have bv_71 : ((-2147483648) ≤ v_71.toInt ∧ v_71.toInt ≤ 2147483647) := ⟨i32_lo _, i32_hi _⟩
      refine tk_ViP (As := [.int p1, .int 3]) (rest := [.int y_14]) (n := 2) hx hb hml hown hU hN hZ (s_X12_ofRule_k12_c3_3 l (dC, dI) cI cL cZ cR cG cH Z kd L f hG o0 mo0 ko0 p1 (by constructor <;> omega)) wd_894 wd_895 wd_896 wd_5 wd_897 (by decide +kernel) ⟨Nat.le_of_ble_eq_true rfl, Nat.le_of_ble_eq_true rfl⟩ hK hP hD hS mo0 hfo_16 12 rfl rfl rfl hl.1 rfl (Nat.le_of_ble_eq_true rfl) dX12_someHolds_8 ⟨Nat.le_of_ble_eq_true rfl, Nat.le_of_ble_eq_true rfl⟩ (fun x_73 f_74 H locs hw hP hD hS => ?_)
      obtain ⟨rfl, bx_73⟩ := hw
      refine lv_icmp_ge (tgt := 39) hx hb dX12_someHolds_11 (by decide) (fun c_76 => ?_) (fun c_76 => ?_)
      · skip
        rw [Int32.le_iff_toInt_le] at c_76
        refine lv_iconst (v := 0) hx hb dX12_someHolds_39 (by decide) ?_
        exact W.zret (v := 0) (ty := .boolean) hx hb hr rfl (fun t ht hW => ⟨⟨0, f, rfl, ⟨rfl, (by decide)⟩, by rw [ht]; exact hP, va_K.moved hW.alike hK, pl_in hD⟩, hS.F ht⟩) hS.2.2 dX12_someHolds_40
      · skip
        rw [Int32.le_iff_toInt_le] at c_76
        refine lv_aload_n hx hb dX12_someHolds_14 rfl (lv_at hl 1 rfl) ?_
        refine lv_iconst (v := 3) hx hb dX12_someHolds_15 (by decide) ?_
        refine lv_iload_n hx hb dX12_someHolds_16 rfl (lv_at hl 2 rfl) ?_
        refine lv_imul hx hb dX12_someHolds_17 ?_
        refine lv_topi (fun x_77 ex_77 => ?_)
        have hx_77 : x_77.toInt = 3 * p1.toInt := by rw [ex_77, ml_I (by rw [ti_3]; omega) (by rw [ti_3]; omega), ti_3]
        have bx_77 : (0 ≤ x_77.toInt ∧ x_77.toInt ≤ 21) := by constructor <;> omega
        refine lv_iload hx hb dX12_someHolds_18 (lv_at hl 0 rfl) ?_
        refine lv_iadd hx hb dX12_someHolds_20 ?_
        refine lv_topi (fun x_78 ex_78 => ?_)
        have hx_78 : x_78.toInt = x_77.toInt + y_14.toInt := by rw [ex_78, ad_I (by omega) (by omega)]
        have bx_78 : (0 ≤ x_78.toInt ∧ x_78.toInt ≤ 23) := by constructor <;> omega
        refine lv_iload_n hx hb dX12_someHolds_21 rfl (lv_at hl 3 rfl) ?_
        refine lv_aload_n hx hb dX12_someHolds_22 rfl (lv_at hl 4 rfl) ?_
        refine lv_iload hx hb dX12_someHolds_23 (lv_at hl 5 rfl) ?_
        refine tk_ViP (As := [.int x_78, .int p2, .ref o3, .int p4]) (rest := []) (n := 4) hx hb hml hown hU hN hZ (s_X12_holds_k12_a588 l (dC, dI) cI cL cZ cR cG cH Z kd L f hG o0 mo0 ko0 x_78 (by constructor <;> omega) p2 (by constructor <;> omega) o3 mo3 ko3 p4 (by constructor <;> omega)) wd_938 wd_939 wd_940 wd_5 wd_941 (by decide +kernel) ⟨Nat.le_of_ble_eq_true rfl, Nat.le_of_ble_eq_true rfl⟩ hK hP hD hS mo0 hfo_16 12 rfl rfl rfl hl.1 rfl (Nat.le_of_ble_eq_true rfl) dX12_someHolds_25 ⟨Nat.le_of_ble_eq_true rfl, Nat.le_of_ble_eq_true rfl⟩ (fun x_79 f_80 H locs hw hP hD hS => ?_)
        obtain ⟨rfl, bx_79⟩ := hw
        refine lv_if_eq (tgt := 33) hx hb dX12_someHolds_28 (by decide) (fun c_82 => ?_) (fun c_82 => ?_)
        · skip
          rw [← Int32.toInt_inj, ti_0] at c_82
          obtain ⟨x_83, ex_83⟩ : ∃ y : Int32, y_14 + 1 = y := ⟨_, rfl⟩
          have hx_83 : x_83.toInt = y_14.toInt + 1 := by rw [← ex_83, ad_I (by rw [ti_1]; omega) (by rw [ti_1]; omega), ti_1]
          have bx_83 : (1 ≤ x_83.toInt ∧ x_83.toInt ≤ 3) := by constructor <;> omega
          refine lv_iinc (v := x_83) (lv' := [(5, .int x_83), (0, .ref o0), (1, .int p1), (2, .int p2), (3, .ref o3), (4, .int p4)]) hx hb dX12_someHolds_33 hl (k := 0) rfl ex_83 (by decide) rfl (fun ls hl => ?_)
          refine lv_goto (tgt := 3) hx hb dX12_someHolds_36 (by decide) ?_
          exact ih_hloop_13 x_83 (by constructor <;> omega) _ _ hP hS (by omega) ls (lv_sub hl [0, 1, 2, 3, 4, 5] rfl)
        · skip
          rw [← Int32.toInt_inj, ti_0] at c_82
          refine lv_iconst (v := 1) hx hb dX12_someHolds_31 (by decide) ?_
          exact W.zret (v := 1) (ty := .boolean) hx hb hr rfl (fun t ht hW => ⟨⟨1, f, rfl, ⟨rfl, (by decide)⟩, by rw [ht]; exact hP, va_K.moved hW.alike hK, pl_in hD⟩, hS.F ht⟩) hS.2.2 dX12_someHolds_32
  exact hloop_13 4 0 (by decide) _ _ hP hS (by (try rw [ti_0]) <;> omega) ls hl
set_option maxHeartbeats 8000000 in
set_option maxRecDepth 100000 in
theorem s_X12_holds_k12_a598 (l : Launch) (D : va_G) (cI cL cZ cR cG cH : ClassId) (Z : zT) (kd : Nat → Nat) (L : List Nat) (f : Nat → va_E) (hG : GI (okc cI cL cZ cR cG cH L kd) kd L f) (o0 : Nat) (mo0 : o0 ∈ L) (ko0 : kd o0 = 12) (p1 : Int32) (bp1 : (0 ≤ p1.toInt ∧ p1.toInt ≤ 23)) (p2 : Int32) (bp2 : (0 ≤ p2.toInt ∧ p2.toInt ≤ 15)) (o3 : Nat) (mo3 : o3 ∈ L) (ko3 : kd o3 = 598) (p4 : Int32) (bp4 : (0 ≤ p4.toInt ∧ p4.toInt ≤ 16)) : mPI l D cI cL cZ cR cG cH Z yX12_holds cX12_holds 8 (some .boolean) 3 76 [.ref o0, .int p1, .int p2, .ref o3, .int p4] L f (fun (r : Int32) (f9 : Nat → va_E) => f = f9 ∧ (0 ≤ r.toInt ∧ r.toInt ≤ 1)) := by
  obtain ⟨dC, dI⟩ := D
  refine Met.ofW (cc := cX12_holds) (maxL := 8) (ret := (some .boolean)) (by decide) rfl ?_
  intro p e s m args below meth c s₁ B hml hv
  obtain ⟨rfl, hP, hK, hD0, hN, hZ⟩ := hv
  have hx := B.exec
  have hb := B.bytes
  have hr := B.returns
  have hU : ∀ w ∈ wsU, w.before _ s = true := fun w h => atoms_spec (ws := wU yX12_holds cX12_holds 8 (some .boolean)) B.pre w (List.mem_cons_of_mem _ h)
  have hown : s.vm.findClass RX12 = some m.cls := findClass_of_methodNamed B.named
  have hlocks := B.notSynchronized
  have hD := pl_in hD0
  have hS : va_S (fun q => q ∈ L) s.heap s.heap [] := va_S.rf
  have hl := lv_entry ([.ref o0, .int p1, .int p2, .ref o3, .int p4]) (n := 8) (Nat.le_of_ble_eq_true rfl)
  rw [lg_entry_eq]
  generalize (lg_sl ([.ref o0, .int p1, .int p2, .ref o3, .int p4]) ++ List.replicate (8 - (lg_sl ([.ref o0, .int p1, .int p2, .ref o3, .int p4])).length) Slot.unset).toArray = ls at hl ⊢
  have hl : lv_has ls 8 [(0, .ref o0), (1, .int p1), (2, .int p2), (3, .ref o3), (4, .int p4)] := hl
  refine lv_aload_n hx hb dX12_holds_0 rfl (lv_at hl 0 rfl) ?_
  refine lv_iload_n hx hb dX12_holds_1 rfl (lv_at hl 1 rfl) ?_
  refine lv_iconst (v := 0) hx hb dX12_holds_2 (by decide) ?_
  refine lv_iconst (v := 1) hx hb dX12_holds_3 (by decide) ?_
  obtain ⟨a_2, a_3, a_4, v_5, a_6, v_7, v_8, v_9, v_10, v_11, v_12, v_13, v_14, v_15, v_16, a_17, a_18, a_19, a_20, a_21, a_22, a_23, a_24, v_25, v_26, v_27, v_28, v_29, a_30, v_31, a_32, a_33, v_34, v_35, a_36, v_37, a_38, a_39, v_40, v_41, a_42, a_43, a_44, v_45, a_46, a_47, a_48, a_49, a_50, a_51, a_52, a_53, a_54, v_55, v_56, a_57, hfo_1, ⟨ma_2, ka_2⟩, ⟨ma_3, ka_3⟩, ⟨ma_4, ka_4⟩, bv_5, ⟨ma_6, ka_6⟩, bv_7, bv_8, bv_13, bv_14, bv_15, ⟨ma_17, ka_17⟩, ⟨ma_18, ka_18⟩, ⟨ma_19, ka_19⟩, ⟨ma_20, ka_20⟩, ⟨ma_21, ka_21⟩, ⟨ma_22, ka_22⟩, ⟨ma_23, ka_23⟩, ⟨ma_24, ka_24⟩, bv_25, bv_27, bv_29, ⟨ma_30, ka_30⟩, bv_31, ⟨ma_32, ka_32⟩, ⟨ma_33, ka_33⟩, bv_34, ⟨ma_36, ka_36⟩, bv_37, ⟨ma_38, ka_38⟩, ⟨ma_39, ka_39⟩, bv_40, ⟨ma_42, ka_42⟩, ⟨ma_43, ka_43⟩, ⟨ma_44, ka_44⟩, bv_45, ⟨ma_46, ka_46⟩, ⟨ma_47, ka_47⟩, ⟨ma_48, ka_48⟩, ⟨ma_49, ka_49⟩, ⟨ma_50, ka_50⟩, ⟨ma_51, ka_51⟩, ⟨ma_52, ka_52⟩, ⟨ma_53, ka_53⟩, ⟨ma_54, ka_54⟩, bv_55, ⟨ma_57, ka_57⟩⟩ := un_12 (hG _ mo0) ko0
  have bv_9 : ((-2147483648) ≤ v_9.toInt ∧ v_9.toInt ≤ 2147483647) := ⟨i32_lo _, i32_hi _⟩
  have bv_10 : ((-2147483648) ≤ v_10.toInt ∧ v_10.toInt ≤ 2147483647) := ⟨i32_lo _, i32_hi _⟩
  have bv_11 : ((-2147483648) ≤ v_11.toInt ∧ v_11.toInt ≤ 2147483647) := ⟨i32_lo _, i32_hi _⟩
  have bv_12 : ((-2147483648) ≤ v_12.toInt ∧ v_12.toInt ≤ 2147483647) := ⟨i32_lo _, i32_hi _⟩
  have bv_16 : ((-2147483648) ≤ v_16.toInt ∧ v_16.toInt ≤ 2147483647) := ⟨i32_lo _, i32_hi _⟩
  have bv_26 : ((-2147483648) ≤ v_26.toInt ∧ v_26.toInt ≤ 2147483647) := ⟨i32_lo _, i32_hi _⟩
  have bv_28 : ((-2147483648) ≤ v_28.toInt ∧ v_28.toInt ≤ 2147483647) := ⟨i32_lo _, i32_hi _⟩
  have bv_35 : ((-2147483648) ≤ v_35.toInt ∧ v_35.toInt ≤ 2147483647) := ⟨i32_lo _, i32_hi _⟩
  have bv_41 : ((-2147483648) ≤ v_41.toInt ∧ v_41.toInt ≤ 2147483647) := ⟨i32_lo _, i32_hi _⟩
  have bv_56 : ((-2147483648) ≤ v_56.toInt ∧ v_56.toInt ≤ 2147483647) := ⟨i32_lo _, i32_hi _⟩
  refine tk_ViP (As := [.int p1, .int 0, .int 1]) (rest := []) (n := 3) hx hb hml hown hU hN hZ (s_X12_closed_k12 l (dC, dI) cI cL cZ cR cG cH Z kd L f hG o0 mo0 ko0 p1 (by constructor <;> omega) 0 (by decide) 1 (by decide)) wd_878 wd_879 wd_880 wd_5 wd_881 (by decide +kernel) ⟨Nat.le_of_ble_eq_true rfl, Nat.le_of_ble_eq_true rfl⟩ hK hP hD hS mo0 hfo_1 12 rfl rfl rfl hl.1 rfl (Nat.le_of_ble_eq_true rfl) dX12_holds_4 ⟨Nat.le_of_ble_eq_true rfl, Nat.le_of_ble_eq_true rfl⟩ (fun x_58 f_59 H locs hw hP hD hS => ?_)
  obtain ⟨rfl, bx_58⟩ := hw
  refine lv_istore (lv' := [(5, .int x_58), (0, .ref o0), (1, .int p1), (2, .int p2), (3, .ref o3), (4, .int p4)]) hx hb dX12_holds_7 hl (by decide) rfl (fun ls hl => ?_)
  refine lv_iconst (v := 0) hx hb dX12_holds_9 (by decide) ?_
  refine lv_istore (lv' := [(6, .int 0), (5, .int x_58), (0, .ref o0), (1, .int p1), (2, .int p2), (3, .ref o3), (4, .int p4)]) hx hb dX12_holds_10 hl (by decide) rfl (fun ls hl => ?_)
  have hloop_79 : ∀ (n : Nat), ∀ (y_80 : Int32), (0 ≤ y_80.toInt ∧ y_80.toInt ≤ 15) → ∀ (y_81 : Int32), (0 ≤ y_81.toInt ∧ y_81.toInt ≤ 63) → ∀ (H : Heap) (locs : List Loc), va_P (dC, dI) vwCl (va_pl L f) H → va_S (fun q => q ∈ L) s.heap H locs → 15 - y_80.toInt < (n : Int) → ∀ (ls : Array Slot), lv_has ls 8 [(6, .int y_80), (5, .int y_81), (0, .ref o0), (1, .int p1), (2, .int p2), (3, .ref o3), (4, .int p4)] → W p l e (headSpec (wU yX12_holds cX12_holds 8 (some .boolean)) { frames := 3, cells := 0, slots := 0, locals := 76 }).room s m [.ref o0, .int p1, .int p2, .ref o3, .int p4].toArray below meth c H locs 0 0 (MQ below (va_Qi (fun (r : Int32) (f9 : Nat → va_E) => f = f9 ∧ (0 ≤ r.toInt ∧ r.toInt ≤ 1)) (qP (dC, dI) cI cL cZ cR cG cH L) (fun q => q ∈ L)) [.ref o0, .int p1, .int p2, .ref o3, .int p4].toArray s 0 0 (fun q => q ∈ L)) (F0 m 12 ls []) := by
    intro n
    induction n with
    | zero => intro y_80 by_80 y_81 by_81 H locs hP hS hmuhloop_79 ls hl; exfalso; omega
    | succ n ih_hloop_79 =>
      intro y_80 by_80 y_81 by_81 H locs hP hS hmuhloop_79 ls hl
      refine lv_iload hx hb dX12_holds_12 (lv_at hl 0 rfl) ?_
      refine lv_iload_n hx hb dX12_holds_14 rfl (lv_at hl 4 rfl) ?_
      refine lv_icmp_ge (tgt := 59) hx hb dX12_holds_15 (by decide) (fun c_83 => ?_) (fun c_83 => ?_)
      · skip
        rw [Int32.le_iff_toInt_le] at c_83
        refine lv_aload_n hx hb dX12_holds_59 rfl (lv_at hl 2 rfl) ?_
        refine lv_iload_n hx hb dX12_holds_60 rfl (lv_at hl 3 rfl) ?_
        refine lv_iconst (v := 0) hx hb dX12_holds_61 (by decide) ?_
        refine lv_iload hx hb dX12_holds_62 (lv_at hl 1 rfl) ?_
        refine tk_ViP (As := [.int p1, .int 0, .int y_81]) (rest := []) (n := 3) hx hb hml hown hU hN hZ (s_X12_isDone_k12 l (dC, dI) cI cL cZ cR cG cH Z kd L f hG o0 mo0 ko0 p1 (by constructor <;> omega) 0 (by decide) y_81) wd_898 wd_899 wd_900 wd_5 wd_901 (by decide +kernel) ⟨Nat.le_of_ble_eq_true rfl, Nat.le_of_ble_eq_true rfl⟩ hK hP hD hS mo0 hfo_1 12 rfl rfl rfl hl.1 rfl (Nat.le_of_ble_eq_true rfl) dX12_holds_64 ⟨Nat.le_of_ble_eq_true rfl, Nat.le_of_ble_eq_true rfl⟩ (fun x_84 f_85 H locs hw hP hD hS => ?_)
        obtain ⟨rfl, bx_84⟩ := hw
        refine lv_if_ne (tgt := 72) hx hb dX12_holds_67 (by decide) (fun c_87 => ?_) (fun c_87 => ?_)
        · skip
          rw [← Int32.toInt_inj, ti_0] at c_87
          refine lv_aload_n hx hb dX12_holds_72 rfl (lv_at hl 2 rfl) ?_
          refine lv_iload_n hx hb dX12_holds_73 rfl (lv_at hl 3 rfl) ?_
          refine lv_iconst (v := 1) hx hb dX12_holds_74 (by decide) ?_
          refine lv_iconst (v := 1) hx hb dX12_holds_75 (by decide) ?_
          refine tk_ViP (As := [.int p1, .int 1, .int 1]) (rest := []) (n := 3) hx hb hml hown hU hN hZ (s_X12_closed_k12 l (dC, dI) cI cL cZ cR cG cH Z kd L f hG o0 mo0 ko0 p1 (by constructor <;> omega) 1 (by decide) 1 (by decide)) wd_878 wd_879 wd_880 wd_5 wd_881 (by decide +kernel) ⟨Nat.le_of_ble_eq_true rfl, Nat.le_of_ble_eq_true rfl⟩ hK hP hD hS mo0 hfo_1 12 rfl rfl rfl hl.1 rfl (Nat.le_of_ble_eq_true rfl) dX12_holds_76 ⟨Nat.le_of_ble_eq_true rfl, Nat.le_of_ble_eq_true rfl⟩ (fun x_88 f_89 H locs hw hP hD hS => ?_)
          obtain ⟨rfl, bx_88⟩ := hw
          refine lv_istore (lv' := [(5, .int x_88), (6, .int y_80), (0, .ref o0), (1, .int p1), (2, .int p2), (3, .ref o3), (4, .int p4)]) hx hb dX12_holds_79 hl (by decide) rfl (fun ls hl => ?_)
          refine lv_aload_n hx hb dX12_holds_81 rfl (lv_at hl 2 rfl) ?_
          refine lv_iload_n hx hb dX12_holds_82 rfl (lv_at hl 3 rfl) ?_
          refine lv_iconst (v := 1) hx hb dX12_holds_83 (by decide) ?_
          refine tk_ViP (As := [.int p1, .int 1]) (rest := []) (n := 2) hx hb hml hown hU hN hZ (s_X12_isAnchored_k12 l (dC, dI) cI cL cZ cR cG cH Z kd L f hG o0 mo0 ko0 p1 (by constructor <;> omega) 1 (by decide)) wd_946 wd_947 wd_948 wd_5 wd_949 (by decide +kernel) ⟨Nat.le_of_ble_eq_true rfl, Nat.le_of_ble_eq_true rfl⟩ hK hP hD hS mo0 hfo_1 12 rfl rfl rfl hl.1 rfl (Nat.le_of_ble_eq_true rfl) dX12_holds_84 ⟨Nat.le_of_ble_eq_true rfl, Nat.le_of_ble_eq_true rfl⟩ (fun x_91 f_92 H locs hw hP hD hS => ?_)
          obtain ⟨rfl, bx_91⟩ := hw
          have hcut_95 : ∀ (y_94 : Int32), (0 ≤ y_94.toInt ∧ y_94.toInt ≤ 1) → ∀ (ls : Array Slot), lv_has ls 8 [(5, .int x_88), (6, .int y_80), (0, .ref o0), (1, .int p1), (2, .int p2), (3, .ref o3), (4, .int p4)] → W p l e (headSpec (wU yX12_holds cX12_holds 8 (some .boolean)) { frames := 3, cells := 0, slots := 0, locals := 76 }).room s m [.ref o0, .int p1, .int p2, .ref o3, .int p4].toArray below meth c H locs 0 0 (MQ below (va_Qi (fun (r : Int32) (f9 : Nat → va_E) => f = f9 ∧ (0 ≤ r.toInt ∧ r.toInt ≤ 1)) (qP (dC, dI) cI cL cZ cR cG cH L) (fun q => q ∈ L)) [.ref o0, .int p1, .int p2, .ref o3, .int p4].toArray s 0 0 (fun q => q ∈ L)) (F0 m 95 ls [.int y_94]) := by
            intro y_94 by_94 ls hl
            refine lv_istore (lv' := [(6, .int y_94), (5, .int x_88), (0, .ref o0), (1, .int p1), (2, .int p2), (3, .ref o3), (4, .int p4)]) hx hb dX12_holds_95 hl (by decide) rfl (fun ls hl => ?_)
            refine lv_iload_n hx hb dX12_holds_97 rfl (lv_at hl 4 rfl) ?_
            refine lv_iconst (v := 1) hx hb dX12_holds_98 (by decide) ?_
            refine lv_iadd hx hb dX12_holds_99 ?_
            refine lv_topi (fun x_96 ex_96 => ?_)
            have hx_96 : x_96.toInt = p2.toInt + 1 := by rw [ex_96, ad_I (by rw [ti_1]; omega) (by rw [ti_1]; omega), ti_1]
            have bx_96 : (1 ≤ x_96.toInt ∧ x_96.toInt ≤ 16) := by constructor <;> omega
            refine lv_istore (lv' := [(7, .int x_96), (6, .int y_94), (5, .int x_88), (0, .ref o0), (1, .int p1), (2, .int p2), (3, .ref o3), (4, .int p4)]) hx hb dX12_holds_100 hl (by decide) rfl (fun ls hl => ?_)
            have hloop_103 : ∀ (n : Nat), ∀ (y_104 : Int32), (1 ≤ y_104.toInt ∧ y_104.toInt ≤ 16) → ∀ (y_105 : Int32), (0 ≤ y_105.toInt ∧ y_105.toInt ≤ 63) → ∀ (H : Heap) (locs : List Loc), va_P (dC, dI) vwCl (va_pl L f) H → va_S (fun q => q ∈ L) s.heap H locs → 16 - y_104.toInt < (n : Int) → ∀ (ls : Array Slot), lv_has ls 8 [(7, .int y_104), (6, .int y_94), (5, .int y_105), (0, .ref o0), (1, .int p1), (2, .int p2), (3, .ref o3), (4, .int p4)] → W p l e (headSpec (wU yX12_holds cX12_holds 8 (some .boolean)) { frames := 3, cells := 0, slots := 0, locals := 76 }).room s m [.ref o0, .int p1, .int p2, .ref o3, .int p4].toArray below meth c H locs 0 0 (MQ below (va_Qi (fun (r : Int32) (f9 : Nat → va_E) => f = f9 ∧ (0 ≤ r.toInt ∧ r.toInt ≤ 1)) (qP (dC, dI) cI cL cZ cR cG cH L) (fun q => q ∈ L)) [.ref o0, .int p1, .int p2, .ref o3, .int p4].toArray s 0 0 (fun q => q ∈ L)) (F0 m 102 ls []) := by
              intro n
              induction n with
              | zero => intro y_104 by_104 y_105 by_105 H locs hP hS hmuhloop_103 ls hl; exfalso; omega
              | succ n ih_hloop_103 =>
                intro y_104 by_104 y_105 by_105 H locs hP hS hmuhloop_103 ls hl
                refine lv_iload hx hb dX12_holds_102 (lv_at hl 0 rfl) ?_
                refine lv_iload hx hb dX12_holds_104 (lv_at hl 7 rfl) ?_
                have hcut_108 : ∀ (H : Heap) (locs : List Loc), va_P (dC, dI) vwCl (va_pl L f) H → va_S (fun q => q ∈ L) s.heap H locs → ∀ (ls : Array Slot), lv_has ls 8 [(7, .int y_104), (6, .int y_94), (5, .int y_105), (0, .ref o0), (1, .int p1), (2, .int p2), (3, .ref o3), (4, .int p4)] → W p l e (headSpec (wU yX12_holds cX12_holds 8 (some .boolean)) { frames := 3, cells := 0, slots := 0, locals := 76 }).room s m [.ref o0, .int p1, .int p2, .ref o3, .int p4].toArray below meth c H locs 0 0 (MQ below (va_Qi (fun (r : Int32) (f9 : Nat → va_E) => f = f9 ∧ (0 ≤ r.toInt ∧ r.toInt ≤ 1)) (qP (dC, dI) cI cL cZ cR cG cH L) (fun q => q ∈ L)) [.ref o0, .int p1, .int p2, .ref o3, .int p4].toArray s 0 0 (fun q => q ∈ L)) (F0 m 145 ls []) := by
                  intro H locs hP hS ls hl
                  refine lv_aload_n hx hb dX12_holds_145 rfl (lv_at hl 3 rfl) ?_
                  refine lv_iload_n hx hb dX12_holds_146 rfl (lv_at hl 4 rfl) ?_
                  refine lv_iconst (v := 1) hx hb dX12_holds_147 (by decide) ?_
                  refine lv_iload hx hb dX12_holds_148 (lv_at hl 2 rfl) ?_
                  refine tk_ViP (As := [.int p1, .int 1, .int y_105]) (rest := []) (n := 3) hx hb hml hown hU hN hZ (s_X12_isDone_k12 l (dC, dI) cI cL cZ cR cG cH Z kd L f hG o0 mo0 ko0 p1 (by constructor <;> omega) 1 (by decide) y_105) wd_898 wd_899 wd_900 wd_5 wd_901 (by decide +kernel) ⟨Nat.le_of_ble_eq_true rfl, Nat.le_of_ble_eq_true rfl⟩ hK hP hD hS mo0 hfo_1 12 rfl rfl rfl hl.1 rfl (Nat.le_of_ble_eq_true rfl) dX12_holds_150 ⟨Nat.le_of_ble_eq_true rfl, Nat.le_of_ble_eq_true rfl⟩ (fun x_109 f_110 H locs hw hP hD hS => ?_)
                  obtain ⟨rfl, bx_109⟩ := hw
                  exact W.zret (v := x_109) (ty := .boolean) hx hb hr (zb_n (by constructor <;> omega)) (fun t ht hW => ⟨⟨x_109, f, rfl, ⟨rfl, (by constructor <;> omega)⟩, by rw [ht]; exact hP, va_K.moved hW.alike hK, pl_in hD⟩, hS.F ht⟩) hS.2.2 dX12_holds_153
                refine lv_icmp_ge (tgt := 145) hx hb dX12_holds_106 (by decide) (fun c_112 => ?_) (fun c_112 => ?_)
                · skip
                  rw [Int32.le_iff_toInt_le] at c_112
                  exact hcut_108 _ _ hP hS ls (lv_sub hl [0, 1, 2, 3, 4, 5, 6, 7] rfl)
                · skip
                  rw [Int32.le_iff_toInt_le] at c_112
                  refine lv_iload hx hb dX12_holds_109 (lv_at hl 1 rfl) ?_
                  refine lv_if_eq (tgt := 125) hx hb dX12_holds_111 (by decide) (fun c_113 => ?_) (fun c_113 => ?_)
                  · skip
                    rw [← Int32.toInt_inj, ti_0] at c_113
                    refine lv_aload_n hx hb dX12_holds_125 rfl (lv_at hl 3 rfl) ?_
                    refine lv_iload_n hx hb dX12_holds_126 rfl (lv_at hl 4 rfl) ?_
                    refine lv_iconst (v := 1) hx hb dX12_holds_127 (by decide) ?_
                    refine lv_iload hx hb dX12_holds_128 (lv_at hl 2 rfl) ?_
                    refine lv_aload_n hx hb dX12_holds_130 rfl (lv_at hl 6 rfl) ?_
                    refine lv_iload hx hb dX12_holds_131 (lv_at hl 0 rfl) ?_
                    obtain ⟨g_115, hfo_114, hbg_115⟩ := un_598 (hG _ mo3) ko3
                    refine tk_ildP hx hb hK hP 0 mo3 hfo_114 rfl (vp_in_iff.mpr (by constructor <;> omega)) dX12_holds_133 ?_
                    refine lv_topi (fun x_116 ex_116 => ?_)
                    have bx_116 : ((-2147483648) ≤ x_116.toInt ∧ x_116.toInt ≤ 2147483647) := ⟨i32_lo _, i32_hi _⟩
                    refine tk_ViP (As := [.int p1, .int 1, .int y_105, .int x_116]) (rest := []) (n := 4) hx hb hml hown hU hN hZ (s_X12_goesOn_k12 l (dC, dI) cI cL cZ cR cG cH Z kd L f hG o0 mo0 ko0 p1 (by constructor <;> omega) 1 (by decide) y_105 x_116) wd_942 wd_943 wd_944 wd_5 wd_945 (by decide +kernel) ⟨Nat.le_of_ble_eq_true rfl, Nat.le_of_ble_eq_true rfl⟩ hK hP hD hS mo0 hfo_1 12 rfl rfl rfl hl.1 rfl (Nat.le_of_ble_eq_true rfl) dX12_holds_134 ⟨Nat.le_of_ble_eq_true rfl, Nat.le_of_ble_eq_true rfl⟩ (fun x_117 f_118 H locs hw hP hD hS => ?_)
                    obtain ⟨rfl, bx_117⟩ := hw
                    refine lv_istore (lv' := [(5, .int x_117), (7, .int y_104), (6, .int y_94), (0, .ref o0), (1, .int p1), (2, .int p2), (3, .ref o3), (4, .int p4)]) hx hb dX12_holds_137 hl (by decide) rfl (fun ls hl => ?_)
                    obtain ⟨x_120, ex_120⟩ : ∃ y : Int32, y_104 + 1 = y := ⟨_, rfl⟩
                    have hx_120 : x_120.toInt = y_104.toInt + 1 := by rw [← ex_120, ad_I (by rw [ti_1]; omega) (by rw [ti_1]; omega), ti_1]
                    have bx_120 : (2 ≤ x_120.toInt ∧ x_120.toInt ≤ 16) := by constructor <;> omega
                    refine lv_iinc (v := x_120) (lv' := [(7, .int x_120), (5, .int x_117), (6, .int y_94), (0, .ref o0), (1, .int p1), (2, .int p2), (3, .ref o3), (4, .int p4)]) hx hb dX12_holds_139 hl (k := 1) rfl ex_120 (by decide) rfl (fun ls hl => ?_)
                    refine lv_goto (tgt := 102) hx hb dX12_holds_142 (by decide) ?_
                    exact ih_hloop_103 x_120 (by constructor <;> omega) x_117 (by constructor <;> omega) _ _ hP hS (by omega) ls (lv_sub hl [0, 2, 1, 3, 4, 5, 6, 7] rfl)
                  · skip
                    rw [← Int32.toInt_inj, ti_0] at c_113
                    refine lv_aload_n hx hb dX12_holds_114 rfl (lv_at hl 3 rfl) ?_
                    refine lv_iload_n hx hb dX12_holds_115 rfl (lv_at hl 4 rfl) ?_
                    refine lv_iconst (v := 1) hx hb dX12_holds_116 (by decide) ?_
                    refine lv_iload hx hb dX12_holds_117 (lv_at hl 2 rfl) ?_
                    refine tk_ViP (As := [.int p1, .int 1, .int y_105]) (rest := []) (n := 3) hx hb hml hown hU hN hZ (s_X12_isDone_k12 l (dC, dI) cI cL cZ cR cG cH Z kd L f hG o0 mo0 ko0 p1 (by constructor <;> omega) 1 (by decide) y_105) wd_898 wd_899 wd_900 wd_5 wd_901 (by decide +kernel) ⟨Nat.le_of_ble_eq_true rfl, Nat.le_of_ble_eq_true rfl⟩ hK hP hD hS mo0 hfo_1 12 rfl rfl rfl hl.1 rfl (Nat.le_of_ble_eq_true rfl) dX12_holds_119 ⟨Nat.le_of_ble_eq_true rfl, Nat.le_of_ble_eq_true rfl⟩ (fun x_121 f_122 H locs hw hP hD hS => ?_)
                    obtain ⟨rfl, bx_121⟩ := hw
                    refine lv_if_ne (tgt := 145) hx hb dX12_holds_122 (by decide) (fun c_124 => ?_) (fun c_124 => ?_)
                    · skip
                      rw [← Int32.toInt_inj, ti_0] at c_124
                      exact hcut_108 _ _ hP hS ls (lv_sub hl [0, 1, 2, 3, 4, 5, 6, 7] rfl)
                    · skip
                      rw [← Int32.toInt_inj, ti_0] at c_124
                      refine lv_aload_n hx hb dX12_holds_125 rfl (lv_at hl 3 rfl) ?_
                      refine lv_iload_n hx hb dX12_holds_126 rfl (lv_at hl 4 rfl) ?_
                      refine lv_iconst (v := 1) hx hb dX12_holds_127 (by decide) ?_
                      refine lv_iload hx hb dX12_holds_128 (lv_at hl 2 rfl) ?_
                      refine lv_aload_n hx hb dX12_holds_130 rfl (lv_at hl 6 rfl) ?_
                      refine lv_iload hx hb dX12_holds_131 (lv_at hl 0 rfl) ?_
                      obtain ⟨g_126, hfo_125, hbg_126⟩ := un_598 (hG _ mo3) ko3
                      refine tk_ildP hx hb hK hP 0 mo3 hfo_125 rfl (vp_in_iff.mpr (by constructor <;> omega)) dX12_holds_133 ?_
                      refine lv_topi (fun x_127 ex_127 => ?_)
                      have bx_127 : ((-2147483648) ≤ x_127.toInt ∧ x_127.toInt ≤ 2147483647) := ⟨i32_lo _, i32_hi _⟩
                      refine tk_ViP (As := [.int p1, .int 1, .int y_105, .int x_127]) (rest := []) (n := 4) hx hb hml hown hU hN hZ (s_X12_goesOn_k12 l (dC, dI) cI cL cZ cR cG cH Z kd L f hG o0 mo0 ko0 p1 (by constructor <;> omega) 1 (by decide) y_105 x_127) wd_942 wd_943 wd_944 wd_5 wd_945 (by decide +kernel) ⟨Nat.le_of_ble_eq_true rfl, Nat.le_of_ble_eq_true rfl⟩ hK hP hD hS mo0 hfo_1 12 rfl rfl rfl hl.1 rfl (Nat.le_of_ble_eq_true rfl) dX12_holds_134 ⟨Nat.le_of_ble_eq_true rfl, Nat.le_of_ble_eq_true rfl⟩ (fun x_128 f_129 H locs hw hP hD hS => ?_)
                      obtain ⟨rfl, bx_128⟩ := hw
                      refine lv_istore (lv' := [(5, .int x_128), (7, .int y_104), (6, .int y_94), (0, .ref o0), (1, .int p1), (2, .int p2), (3, .ref o3), (4, .int p4)]) hx hb dX12_holds_137 hl (by decide) rfl (fun ls hl => ?_)
                      obtain ⟨x_131, ex_131⟩ : ∃ y : Int32, y_104 + 1 = y := ⟨_, rfl⟩
                      have hx_131 : x_131.toInt = y_104.toInt + 1 := by rw [← ex_131, ad_I (by rw [ti_1]; omega) (by rw [ti_1]; omega), ti_1]
                      have bx_131 : (2 ≤ x_131.toInt ∧ x_131.toInt ≤ 16) := by constructor <;> omega
                      refine lv_iinc (v := x_131) (lv' := [(7, .int x_131), (5, .int x_128), (6, .int y_94), (0, .ref o0), (1, .int p1), (2, .int p2), (3, .ref o3), (4, .int p4)]) hx hb dX12_holds_139 hl (k := 1) rfl ex_131 (by decide) rfl (fun ls hl => ?_)
                      refine lv_goto (tgt := 102) hx hb dX12_holds_142 (by decide) ?_
                      exact ih_hloop_103 x_131 (by constructor <;> omega) x_128 (by constructor <;> omega) _ _ hP hS (by omega) ls (lv_sub hl [0, 2, 1, 3, 4, 5, 6, 7] rfl)
            exact hloop_103 16 x_96 (by constructor <;> omega) x_88 (by constructor <;> omega) _ _ hP hS (by omega) ls hl
          refine lv_if_ne (tgt := 94) hx hb dX12_holds_87 (by decide) (fun c_132 => ?_) (fun c_132 => ?_)
          · skip
            rw [← Int32.toInt_inj, ti_0] at c_132
            refine lv_iconst (v := 0) hx hb dX12_holds_94 (by decide) ?_
            exact hcut_95 0 (by decide) ls (lv_sub hl [0, 1, 2, 3, 4, 5, 6] rfl)
          · skip
            rw [← Int32.toInt_inj, ti_0] at c_132
            refine lv_iconst (v := 1) hx hb dX12_holds_90 (by decide) ?_
            refine lv_goto (tgt := 95) hx hb dX12_holds_91 (by decide) ?_
            exact hcut_95 1 (by decide) ls (lv_sub hl [0, 1, 2, 3, 4, 5, 6] rfl)
        · skip
          rw [← Int32.toInt_inj, ti_0] at c_87
          refine lv_iconst (v := 0) hx hb dX12_holds_70 (by decide) ?_
          exact W.zret (v := 0) (ty := .boolean) hx hb hr rfl (fun t ht hW => ⟨⟨0, f, rfl, ⟨rfl, (by decide)⟩, by rw [ht]; exact hP, va_K.moved hW.alike hK, pl_in hD⟩, hS.F ht⟩) hS.2.2 dX12_holds_71
      · skip
        rw [Int32.le_iff_toInt_le] at c_83
        refine lv_aload_n hx hb dX12_holds_18 rfl (lv_at hl 2 rfl) ?_
        refine lv_iload_n hx hb dX12_holds_19 rfl (lv_at hl 3 rfl) ?_
        refine lv_iconst (v := 0) hx hb dX12_holds_20 (by decide) ?_
        refine lv_iload hx hb dX12_holds_21 (lv_at hl 1 rfl) ?_
        refine lv_aload_n hx hb dX12_holds_23 rfl (lv_at hl 5 rfl) ?_
        refine lv_iload hx hb dX12_holds_24 (lv_at hl 0 rfl) ?_
        obtain ⟨g_134, hfo_133, hbg_134⟩ := un_598 (hG _ mo3) ko3
        refine tk_ildP hx hb hK hP 0 mo3 hfo_133 rfl (vp_in_iff.mpr (by constructor <;> omega)) dX12_holds_26 ?_
        refine lv_topi (fun x_135 ex_135 => ?_)
        have bx_135 : ((-2147483648) ≤ x_135.toInt ∧ x_135.toInt ≤ 2147483647) := ⟨i32_lo _, i32_hi _⟩
        refine tk_ViP (As := [.int p1, .int 0, .int y_81, .int x_135]) (rest := []) (n := 4) hx hb hml hown hU hN hZ (s_X12_goesOn_k12 l (dC, dI) cI cL cZ cR cG cH Z kd L f hG o0 mo0 ko0 p1 (by constructor <;> omega) 0 (by decide) y_81 x_135) wd_942 wd_943 wd_944 wd_5 wd_945 (by decide +kernel) ⟨Nat.le_of_ble_eq_true rfl, Nat.le_of_ble_eq_true rfl⟩ hK hP hD hS mo0 hfo_1 12 rfl rfl rfl hl.1 rfl (Nat.le_of_ble_eq_true rfl) dX12_holds_27 ⟨Nat.le_of_ble_eq_true rfl, Nat.le_of_ble_eq_true rfl⟩ (fun x_136 f_137 H locs hw hP hD hS => ?_)
        obtain ⟨rfl, bx_136⟩ := hw
        refine lv_aload_n hx hb dX12_holds_30 rfl (lv_at hl 2 rfl) ?_
        refine lv_iload_n hx hb dX12_holds_31 rfl (lv_at hl 3 rfl) ?_
        refine lv_iconst (v := 0) hx hb dX12_holds_32 (by decide) ?_
        refine tk_ViP (As := [.int p1, .int 0]) (rest := [.int x_136]) (n := 2) hx hb hml hown hU hN hZ (s_X12_isAnchored_k12 l (dC, dI) cI cL cZ cR cG cH Z kd L f hG o0 mo0 ko0 p1 (by constructor <;> omega) 0 (by decide)) wd_946 wd_947 wd_948 wd_5 wd_949 (by decide +kernel) ⟨Nat.le_of_ble_eq_true rfl, Nat.le_of_ble_eq_true rfl⟩ hK hP hD hS mo0 hfo_1 12 rfl rfl rfl hl.1 rfl (Nat.le_of_ble_eq_true rfl) dX12_holds_33 ⟨Nat.le_of_ble_eq_true rfl, Nat.le_of_ble_eq_true rfl⟩ (fun x_139 f_140 H locs hw hP hD hS => ?_)
        obtain ⟨rfl, bx_139⟩ := hw
        have hcut_144 : ∀ (y_142 : Int32), (0 ≤ y_142.toInt ∧ y_142.toInt ≤ 63) → ∀ (H : Heap) (locs : List Loc), va_P (dC, dI) vwCl (va_pl L f) H → va_S (fun q => q ∈ L) s.heap H locs → ∀ (ls : Array Slot), lv_has ls 8 [(6, .int y_80), (5, .int y_81), (0, .ref o0), (1, .int p1), (2, .int p2), (3, .ref o3), (4, .int p4)] → W p l e (headSpec (wU yX12_holds cX12_holds 8 (some .boolean)) { frames := 3, cells := 0, slots := 0, locals := 76 }).room s m [.ref o0, .int p1, .int p2, .ref o3, .int p4].toArray below meth c H locs 0 0 (MQ below (va_Qi (fun (r : Int32) (f9 : Nat → va_E) => f = f9 ∧ (0 ≤ r.toInt ∧ r.toInt ≤ 1)) (qP (dC, dI) cI cL cZ cR cG cH L) (fun q => q ∈ L)) [.ref o0, .int p1, .int p2, .ref o3, .int p4].toArray s 0 0 (fun q => q ∈ L)) (F0 m 50 ls [.int y_142, .int x_136]) := by
          intro y_142 by_142 H locs hP hS ls hl
          refine lv_ior hx hb dX12_holds_50 ?_
          refine lv_topi (fun x_145 ex_145 => ?_)
          have bx_145 : (0 ≤ x_145.toInt ∧ x_145.toInt ≤ 63) := by rw [ex_145]; exact or_K 6 (by decide) (by constructor <;> omega) (by constructor <;> omega)
          refine lv_istore (lv' := [(5, .int x_145), (6, .int y_80), (0, .ref o0), (1, .int p1), (2, .int p2), (3, .ref o3), (4, .int p4)]) hx hb dX12_holds_51 hl (by decide) rfl (fun ls hl => ?_)
          obtain ⟨x_146, ex_146⟩ : ∃ y : Int32, y_80 + 1 = y := ⟨_, rfl⟩
          have hx_146 : x_146.toInt = y_80.toInt + 1 := by rw [← ex_146, ad_I (by rw [ti_1]; omega) (by rw [ti_1]; omega), ti_1]
          have bx_146 : (1 ≤ x_146.toInt ∧ x_146.toInt ≤ 15) := by constructor <;> omega
          refine lv_iinc (v := x_146) (lv' := [(6, .int x_146), (5, .int x_145), (0, .ref o0), (1, .int p1), (2, .int p2), (3, .ref o3), (4, .int p4)]) hx hb dX12_holds_53 hl (k := 1) rfl ex_146 (by decide) rfl (fun ls hl => ?_)
          refine lv_goto (tgt := 12) hx hb dX12_holds_56 (by decide) ?_
          exact ih_hloop_79 x_146 (by constructor <;> omega) x_145 (by constructor <;> omega) _ _ hP hS (by omega) ls (lv_sub hl [0, 1, 2, 3, 4, 5, 6] rfl)
        refine lv_if_eq (tgt := 43) hx hb dX12_holds_36 (by decide) (fun c_147 => ?_) (fun c_147 => ?_)
        · skip
          rw [← Int32.toInt_inj, ti_0] at c_147
          refine lv_aload_n hx hb dX12_holds_43 rfl (lv_at hl 2 rfl) ?_
          refine lv_iload_n hx hb dX12_holds_44 rfl (lv_at hl 3 rfl) ?_
          refine lv_iconst (v := 0) hx hb dX12_holds_45 (by decide) ?_
          refine lv_iconst (v := 1) hx hb dX12_holds_46 (by decide) ?_
          refine tk_ViP (As := [.int p1, .int 0, .int 1]) (rest := [.int x_136]) (n := 3) hx hb hml hown hU hN hZ (s_X12_closed_k12 l (dC, dI) cI cL cZ cR cG cH Z kd L f hG o0 mo0 ko0 p1 (by constructor <;> omega) 0 (by decide) 1 (by decide)) wd_878 wd_879 wd_880 wd_5 wd_881 (by decide +kernel) ⟨Nat.le_of_ble_eq_true rfl, Nat.le_of_ble_eq_true rfl⟩ hK hP hD hS mo0 hfo_1 12 rfl rfl rfl hl.1 rfl (Nat.le_of_ble_eq_true rfl) dX12_holds_47 ⟨Nat.le_of_ble_eq_true rfl, Nat.le_of_ble_eq_true rfl⟩ (fun x_148 f_149 H locs hw hP hD hS => ?_)
          obtain ⟨rfl, bx_148⟩ := hw
          exact hcut_144 x_148 (by constructor <;> omega) _ _ hP hS ls (lv_sub hl [0, 1, 2, 3, 4, 5, 6] rfl)
        · skip
          rw [← Int32.toInt_inj, ti_0] at c_147
          refine lv_iconst (v := 0) hx hb dX12_holds_39 (by decide) ?_
          refine lv_goto (tgt := 50) hx hb dX12_holds_40 (by decide) ?_
          exact hcut_144 0 (by decide) _ _ hP hS ls (lv_sub hl [0, 1, 2, 3, 4, 5, 6] rfl)
  exact hloop_79 16 0 (by decide) x_58 (by constructor <;> omega) _ _ hP hS (by (try rw [ti_0]) <;> omega) ls hl
