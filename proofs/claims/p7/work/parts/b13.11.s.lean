set_option maxHeartbeats 8000000 in
set_option maxRecDepth 100000 in
theorem s_X12_quarrel_k12 (l : Launch) (D : va_G) (cI cL cZ cR cG cH : ClassId) (Z : zT) (kd : Nat → Nat) (L : List Nat) (f : Nat → va_E) (hG : GI (okc cI cL cZ cR cG cH L kd) kd L f) (o0 : Nat) (mo0 : o0 ∈ L) (ko0 : kd o0 = 12) (p1 : Int32) (p2 : Int32) : mPI l D cI cL cZ cR cG cH Z yX12_quarrel cX12_quarrel 8 (some .int) 5 129 [.ref o0, .int p1, .int p2] L f (fun (r : Int32) (f9 : Nat → va_E) => GI (okc cI cL cZ cR cG cH L kd) kd L f9 ∧ ((-2147483648) ≤ r.toInt ∧ r.toInt ≤ 2147483647) ∧ (∀ b, kd b ≠ 600 → kd b ≠ 601 → f9 b = f b)) := by
  obtain ⟨dC, dI⟩ := D
  refine Met.ofW (cc := cX12_quarrel) (maxL := 8) (ret := (some .int)) (by decide) rfl ?_
  intro p e s m args below meth c s₁ B hml hv
  obtain ⟨rfl, hP, hK, hD0, hN, hZ⟩ := hv
  have hx := B.exec
  have hb := B.bytes
  have hr := B.returns
  have hU : ∀ w ∈ wsU, w.before _ s = true := fun w h => atoms_spec (ws := wU yX12_quarrel cX12_quarrel 8 (some .int)) B.pre w (List.mem_cons_of_mem _ h)
  have hown : s.vm.findClass RX12 = some m.cls := findClass_of_methodNamed B.named
  have hlocks := B.notSynchronized
  have hD := pl_in hD0
  have hS : va_S (fun q => q ∈ L) s.heap s.heap [] := va_S.rf
  have hl := lv_entry ([.ref o0, .int p1, .int p2]) (n := 8) (Nat.le_of_ble_eq_true rfl)
  rw [lg_entry_eq]
  generalize (lg_sl ([.ref o0, .int p1, .int p2]) ++ List.replicate (8 - (lg_sl ([.ref o0, .int p1, .int p2])).length) Slot.unset).toArray = ls at hl ⊢
  have hl : lv_has ls 8 [(0, .ref o0), (1, .int p1), (2, .int p2)] := hl
  have bp1 : ((-2147483648) ≤ p1.toInt ∧ p1.toInt ≤ 2147483647) := ⟨i32_lo _, i32_hi _⟩
  have bp2 : ((-2147483648) ≤ p2.toInt ∧ p2.toInt ≤ 2147483647) := ⟨i32_lo _, i32_hi _⟩
  have hfr0 : ∀ b, kd b ≠ 600 → kd b ≠ 601 → f b = f b := fun _ _ _ => rfl
  refine lv_aload_n hx hb dX12_quarrel_0 rfl (lv_at hl 0 rfl) ?_
  refine lv_iload_n hx hb dX12_quarrel_1 rfl (lv_at hl 1 rfl) ?_
  obtain ⟨a_2, a_3, a_4, v_5, a_6, v_7, v_8, v_9, v_10, v_11, v_12, v_13, v_14, v_15, v_16, a_17, a_18, a_19, a_20, a_21, a_22, a_23, a_24, v_25, v_26, v_27, v_28, v_29, a_30, v_31, a_32, a_33, v_34, v_35, a_36, v_37, a_38, a_39, v_40, v_41, a_42, a_43, a_44, v_45, a_46, a_47, a_48, a_49, a_50, a_51, a_52, a_53, a_54, v_55, v_56, a_57, hfo_1, ⟨ma_2, ka_2⟩, ⟨ma_3, ka_3⟩, ⟨ma_4, ka_4⟩, bv_5, ⟨ma_6, ka_6⟩, bv_7, bv_8, bv_13, bv_14, bv_15, ⟨ma_17, ka_17⟩, ⟨ma_18, ka_18⟩, ⟨ma_19, ka_19⟩, ⟨ma_20, ka_20⟩, ⟨ma_21, ka_21⟩, ⟨ma_22, ka_22⟩, ⟨ma_23, ka_23⟩, ⟨ma_24, ka_24⟩, bv_25, bv_27, bv_29, ⟨ma_30, ka_30⟩, bv_31, ⟨ma_32, ka_32⟩, ⟨ma_33, ka_33⟩, bv_34, ⟨ma_36, ka_36⟩, bv_37, ⟨ma_38, ka_38⟩, ⟨ma_39, ka_39⟩, bv_40, ⟨ma_42, ka_42⟩, ⟨ma_43, ka_43⟩, ⟨ma_44, ka_44⟩, bv_45, ⟨ma_46, ka_46⟩, ⟨ma_47, ka_47⟩, ⟨ma_48, ka_48⟩, ⟨ma_49, ka_49⟩, ⟨ma_50, ka_50⟩, ⟨ma_51, ka_51⟩, ⟨ma_52, ka_52⟩, ⟨ma_53, ka_53⟩, ⟨ma_54, ka_54⟩, bv_55, ⟨ma_57, ka_57⟩⟩ := un_12 (hG _ mo0) ko0
  have bv_9 : ((-2147483648) ≤ v_9.toInt ∧ v_9.toInt ≤ 2147483647) := ⟨i32_lo _, i32_hi _⟩
  have bv_10 : ((-2147483648) ≤ v_10.toInt ∧ v_10.toInt ≤ 2147483647) := ⟨i32_lo _, i32_hi _⟩
  have bv_11 : ((-2147483648) ≤ v_11.toInt ∧ v_11.toInt ≤ 2147483647) := ⟨i32_lo _, i32_hi _⟩
  have bv_12 : ((-2147483648) ≤ v_12.toInt ∧ v_12.toInt ≤ 2147483647) := ⟨i32_lo _, i32_hi _⟩
  have bv_16 : ((-2147483648) ≤ v_16.toInt ∧ v_16.toInt ≤ 2147483647) := ⟨i32_lo _, i32_hi _⟩
  have bv_26 : ((-2147483648) ≤ v_26.toInt ∧ v_26.toInt ≤ 2147483647) := ⟨i32_lo _, i32_hi _⟩
  have bv_28 : ((-2147483648) ≤ v_28.toInt ∧ v_28.toInt ≤ 2147483647) := ⟨i32_lo _, i32_hi _⟩
  have bv_35 : ((-2147483648) ≤ v_35.toInt ∧ v_35.toInt ≤ 2147483647) := ⟨i32_lo _, i32_hi _⟩
  have bv_41 : ((-2147483648) ≤ v_41.toInt ∧ v_41.toInt ≤ 2147483647) := ⟨i32_lo _, i32_hi _⟩
  have bv_56 : ((-2147483648) ≤ v_56.toInt ∧ v_56.toInt ≤ 2147483647) := ⟨i32_lo _, i32_hi _⟩
  refine tk_ViP (As := [.int p1]) (rest := []) (n := 1) hx hb hml hown hU hN hZ (s_X12_isRule_k12 l (dC, dI) cI cL cZ cR cG cH Z kd L f hG o0 mo0 ko0 p1) wd_1289 wd_1290 wd_1291 wd_5 wd_1292 (by decide +kernel) ⟨Nat.le_of_ble_eq_true rfl, Nat.le_of_ble_eq_true rfl⟩ hK hP hD hS mo0 hfo_1 12 rfl rfl rfl hl.1 rfl (Nat.le_of_ble_eq_true rfl) dX12_quarrel_2 ⟨Nat.le_of_ble_eq_true rfl, Nat.le_of_ble_eq_true rfl⟩ (fun x_58 f_59 H locs hw hP hD hS => ?_)
  obtain ⟨rfl, bx_58, relx_58⟩ := hw
  refine lv_if_eq (tgt := 30) hx hb dX12_quarrel_5 (by decide) (fun c_61 => ?_) (fun c_61 => ?_)
  · skip
    rw [← Int32.toInt_inj, ti_0] at c_61
    refine lv_iconst (v := (-1)) hx hb dX12_quarrel_30 (by decide) ?_
    exact W.iret (v := (-1)) hx hb hr (fun t ht hW => ⟨⟨(-1), f, rfl, ⟨hG, (by decide), hfr0⟩, by rw [ht]; exact hP, va_K.moved hW.alike hK, pl_in hD⟩, hS.F ht⟩) hS.2.2 dX12_quarrel_31
  · skip
    rw [← Int32.toInt_inj, ti_0] at c_61
    refine lv_aload_n hx hb dX12_quarrel_8 rfl (lv_at hl 0 rfl) ?_
    refine lv_iload_n hx hb dX12_quarrel_9 rfl (lv_at hl 2 rfl) ?_
    refine tk_ViP (As := [.int p2]) (rest := []) (n := 1) hx hb hml hown hU hN hZ (s_X12_isRule_k12 l (dC, dI) cI cL cZ cR cG cH Z kd L f hG o0 mo0 ko0 p2) wd_1289 wd_1290 wd_1291 wd_5 wd_1292 (by decide +kernel) ⟨Nat.le_of_ble_eq_true rfl, Nat.le_of_ble_eq_true rfl⟩ hK hP hD hS mo0 hfo_1 12 rfl rfl rfl hl.1 rfl (Nat.le_of_ble_eq_true rfl) dX12_quarrel_10 ⟨Nat.le_of_ble_eq_true rfl, Nat.le_of_ble_eq_true rfl⟩ (fun x_62 f_63 H locs hw hP hD hS => ?_)
    obtain ⟨rfl, bx_62, relx_62⟩ := hw
    refine lv_if_eq (tgt := 30) hx hb dX12_quarrel_13 (by decide) (fun c_65 => ?_) (fun c_65 => ?_)
    · skip
      rw [← Int32.toInt_inj, ti_0] at c_65
      refine lv_iconst (v := (-1)) hx hb dX12_quarrel_30 (by decide) ?_
      exact W.iret (v := (-1)) hx hb hr (fun t ht hW => ⟨⟨(-1), f, rfl, ⟨hG, (by decide), hfr0⟩, by rw [ht]; exact hP, va_K.moved hW.alike hK, pl_in hD⟩, hS.F ht⟩) hS.2.2 dX12_quarrel_31
    · skip
      rw [← Int32.toInt_inj, ti_0] at c_65
      refine lv_iload_n hx hb dX12_quarrel_16 rfl (lv_at hl 1 rfl) ?_
      refine lv_iload_n hx hb dX12_quarrel_17 rfl (lv_at hl 2 rfl) ?_
      refine lv_icmp_eq (tgt := 30) hx hb dX12_quarrel_18 (by decide) (fun c_66 => ?_) (fun c_66 => ?_)
      · skip
        rw [← Int32.toInt_inj] at c_66
        refine lv_iconst (v := (-1)) hx hb dX12_quarrel_30 (by decide) ?_
        exact W.iret (v := (-1)) hx hb hr (fun t ht hW => ⟨⟨(-1), f, rfl, ⟨hG, (by decide), hfr0⟩, by rw [ht]; exact hP, va_K.moved hW.alike hK, pl_in hD⟩, hS.F ht⟩) hS.2.2 dX12_quarrel_31
      · skip
        rw [← Int32.toInt_inj] at c_66
        refine lv_aload_n hx hb dX12_quarrel_21 rfl (lv_at hl 0 rfl) ?_
        refine lv_iload_n hx hb dX12_quarrel_22 rfl (lv_at hl 1 rfl) ?_
        refine lv_iload_n hx hb dX12_quarrel_23 rfl (lv_at hl 2 rfl) ?_
        refine tk_ViP (As := [.int p1, .int p2]) (rest := []) (n := 2) hx hb hml hown hU hN hZ (s_X12_canQuarrel_k12 l (dC, dI) cI cL cZ cR cG cH Z kd L f hG o0 mo0 ko0 p1 (by constructor <;> omega) p2 (by constructor <;> omega)) wd_1293 wd_1294 wd_1295 wd_5 wd_1296 (by decide +kernel) ⟨Nat.le_of_ble_eq_true rfl, Nat.le_of_ble_eq_true rfl⟩ hK hP hD hS mo0 hfo_1 12 rfl rfl rfl hl.1 rfl (Nat.le_of_ble_eq_true rfl) dX12_quarrel_24 ⟨Nat.le_of_ble_eq_true rfl, Nat.le_of_ble_eq_true rfl⟩ (fun x_67 f_68 H locs hw hP hD hS => ?_)
        obtain ⟨rfl, bx_67⟩ := hw
        refine lv_if_ne (tgt := 32) hx hb dX12_quarrel_27 (by decide) (fun c_70 => ?_) (fun c_70 => ?_)
        · skip
          rw [← Int32.toInt_inj, ti_0] at c_70
          refine lv_iconst (v := (-1)) hx hb dX12_quarrel_32 (by decide) ?_
          refine lv_istore_n (lv' := [(3, .int (-1)), (0, .ref o0), (1, .int p1), (2, .int p2)]) hx hb dX12_quarrel_33 rfl hl (by decide) rfl (fun ls hl => ?_)
          refine lv_iconst (v := 0) hx hb dX12_quarrel_34 (by decide) ?_
          refine lv_istore (lv' := [(4, .int 0), (3, .int (-1)), (0, .ref o0), (1, .int p1), (2, .int p2)]) hx hb dX12_quarrel_35 hl (by decide) rfl (fun ls hl => ?_)
          have hloop_89 : ∀ (n : Nat), ∀ (y_90 : Int32), (0 ≤ y_90.toInt ∧ y_90.toInt ≤ 3) → ∀ (y_91 : Int32), ((-2147483648) ≤ y_91.toInt ∧ y_91.toInt ≤ 2147483647) → ∀ (f_93 : Nat → va_E), GI (okc cI cL cZ cR cG cH L kd) kd L f_93 → ∀ (H : Heap) (locs : List Loc), va_P (dC, dI) vwCl (va_pl L f_93) H → va_S (fun q => q ∈ L) s.heap H locs → va_D (fun q => q ∈ L) (va_pl L f_93) → (∀ b, kd b ≠ 600 → kd b ≠ 601 → f_93 b = f b) → (f_93 o0 = .inr (12, [.ref a_2, .ref a_3, .ref a_4, .int v_5, .ref a_6, .int v_7, .int v_8, .int v_9, .int v_10, .int v_11, .int v_12, .int v_13, .int v_14, .int v_15, .int v_16, .ref a_17, .ref a_18, .ref a_19, .ref a_20, .ref a_21, .ref a_22, .ref a_23, .ref a_24, .int v_25, .int v_26, .int v_27, .int v_28, .int v_29, .ref a_30, .int v_31, .ref a_32, .ref a_33, .int v_34, .int v_35, .ref a_36, .int v_37, .ref a_38, .ref a_39, .int v_40, .int v_41, .ref a_42, .ref a_43, .ref a_44, .int v_45, .ref a_46, .ref a_47, .ref a_48, .ref a_49, .ref a_50, .ref a_51, .ref a_52, .ref a_53, .ref a_54, .int v_55, .int v_56, .ref a_57])) → 3 - y_90.toInt < (n : Int) → ∀ (ls : Array Slot), lv_has ls 8 [(4, .int y_90), (3, .int y_91), (0, .ref o0), (1, .int p1), (2, .int p2)] → W p l e (headSpec (wU yX12_quarrel cX12_quarrel 8 (some .int)) { frames := 5, cells := 0, slots := 0, locals := 129 }).room s m [.ref o0, .int p1, .int p2].toArray below meth c H locs 0 0 (MQ below (va_Qi (fun (r : Int32) (f9 : Nat → va_E) => GI (okc cI cL cZ cR cG cH L kd) kd L f9 ∧ ((-2147483648) ≤ r.toInt ∧ r.toInt ≤ 2147483647) ∧ (∀ b, kd b ≠ 600 → kd b ≠ 601 → f9 b = f b)) (qP (dC, dI) cI cL cZ cR cG cH L) (fun q => q ∈ L)) [.ref o0, .int p1, .int p2].toArray s 0 0 (fun q => q ∈ L)) (F0 m 37 ls []) := by
            intro n
            induction n with
            | zero => intro y_90 by_90 y_91 by_91 f_93 hG H locs hP hS hD hfr0 hfo_94 hmuhloop_89 ls hl; exfalso; omega
            | succ n ih_hloop_89 =>
              intro y_90 by_90 y_91 by_91 f_93 hG H locs hP hS hD hfr0 hfo_94 hmuhloop_89 ls hl
              refine lv_iload hx hb dX12_quarrel_37 (lv_at hl 0 rfl) ?_
              refine lv_aload_n hx hb dX12_quarrel_39 rfl (lv_at hl 2 rfl) ?_
              refine lv_iload_n hx hb dX12_quarrel_40 rfl (lv_at hl 3 rfl) ?_
              refine lv_iconst (v := 3) hx hb dX12_quarrel_41 (by decide) ?_
              refine tk_ViP (As := [.int p1, .int 3]) (rest := [.int y_90]) (n := 2) hx hb hml hown hU hN hZ (s_X12_ofRule_k12_c3_3 l (dC, dI) cI cL cZ cR cG cH Z kd L f_93 hG o0 mo0 ko0 p1 (by constructor <;> omega)) wd_894 wd_895 wd_896 wd_5 wd_897 (by decide +kernel) ⟨Nat.le_of_ble_eq_true rfl, Nat.le_of_ble_eq_true rfl⟩ hK hP hD hS mo0 hfo_94 12 rfl rfl rfl hl.1 rfl (Nat.le_of_ble_eq_true rfl) dX12_quarrel_42 ⟨Nat.le_of_ble_eq_true rfl, Nat.le_of_ble_eq_true rfl⟩ (fun x_95 f_96 H locs hw hP hD hS => ?_)
              obtain ⟨rfl, bx_95⟩ := hw
              refine lv_icmp_ge (tgt := 155) hx hb dX12_quarrel_45 (by decide) (fun c_98 => ?_) (fun c_98 => ?_)
              · skip
                rw [Int32.le_iff_toInt_le] at c_98
                refine lv_iload_n hx hb dX12_quarrel_155 rfl (lv_at hl 1 rfl) ?_
                exact W.iret (v := y_91) hx hb hr (fun t ht hW => ⟨⟨y_91, f_93, rfl, ⟨hG, (by constructor <;> omega), hfr0⟩, by rw [ht]; exact hP, va_K.moved hW.alike hK, pl_in hD⟩, hS.F ht⟩) hS.2.2 dX12_quarrel_156
              · skip
                rw [Int32.le_iff_toInt_le] at c_98
                refine lv_iconst (v := 0) hx hb dX12_quarrel_48 (by decide) ?_
                refine lv_istore (lv' := [(5, .int 0), (4, .int y_90), (3, .int y_91), (0, .ref o0), (1, .int p1), (2, .int p2)]) hx hb dX12_quarrel_49 hl (by decide) rfl (fun ls hl => ?_)
                have hloop_117 : ∀ (n : Nat), ∀ (y_118 : Int32), (0 ≤ y_118.toInt ∧ y_118.toInt ≤ 3) → ∀ (y_119 : Int32), ((-2147483648) ≤ y_119.toInt ∧ y_119.toInt ≤ 2147483647) → ∀ (f_121 : Nat → va_E), GI (okc cI cL cZ cR cG cH L kd) kd L f_121 → ∀ (H : Heap) (locs : List Loc), va_P (dC, dI) vwCl (va_pl L f_121) H → va_S (fun q => q ∈ L) s.heap H locs → va_D (fun q => q ∈ L) (va_pl L f_121) → (∀ b, kd b ≠ 600 → kd b ≠ 601 → f_121 b = f b) → (f_121 o0 = .inr (12, [.ref a_2, .ref a_3, .ref a_4, .int v_5, .ref a_6, .int v_7, .int v_8, .int v_9, .int v_10, .int v_11, .int v_12, .int v_13, .int v_14, .int v_15, .int v_16, .ref a_17, .ref a_18, .ref a_19, .ref a_20, .ref a_21, .ref a_22, .ref a_23, .ref a_24, .int v_25, .int v_26, .int v_27, .int v_28, .int v_29, .ref a_30, .int v_31, .ref a_32, .ref a_33, .int v_34, .int v_35, .ref a_36, .int v_37, .ref a_38, .ref a_39, .int v_40, .int v_41, .ref a_42, .ref a_43, .ref a_44, .int v_45, .ref a_46, .ref a_47, .ref a_48, .ref a_49, .ref a_50, .ref a_51, .ref a_52, .ref a_53, .ref a_54, .int v_55, .int v_56, .ref a_57])) → 3 - y_118.toInt < (n : Int) → ∀ (ls : Array Slot), lv_has ls 8 [(5, .int y_118), (4, .int y_90), (3, .int y_119), (0, .ref o0), (1, .int p1), (2, .int p2)] → W p l e (headSpec (wU yX12_quarrel cX12_quarrel 8 (some .int)) { frames := 5, cells := 0, slots := 0, locals := 129 }).room s m [.ref o0, .int p1, .int p2].toArray below meth c H locs 0 0 (MQ below (va_Qi (fun (r : Int32) (f9 : Nat → va_E) => GI (okc cI cL cZ cR cG cH L kd) kd L f9 ∧ ((-2147483648) ≤ r.toInt ∧ r.toInt ≤ 2147483647) ∧ (∀ b, kd b ≠ 600 → kd b ≠ 601 → f9 b = f b)) (qP (dC, dI) cI cL cZ cR cG cH L) (fun q => q ∈ L)) [.ref o0, .int p1, .int p2].toArray s 0 0 (fun q => q ∈ L)) (F0 m 51 ls []) := by
                  intro n
                  induction n with
                  | zero => intro y_118 by_118 y_119 by_119 f_121 hG H locs hP hS hD hfr0 hfo_122 hmuhloop_117 ls hl; exfalso; omega
                  | succ n ih_hloop_117 =>
                    intro y_118 by_118 y_119 by_119 f_121 hG H locs hP hS hD hfr0 hfo_122 hmuhloop_117 ls hl
                    refine lv_iload hx hb dX12_quarrel_51 (lv_at hl 0 rfl) ?_
                    refine lv_aload_n hx hb dX12_quarrel_53 rfl (lv_at hl 3 rfl) ?_
                    refine lv_iload_n hx hb dX12_quarrel_54 rfl (lv_at hl 5 rfl) ?_
                    refine lv_iconst (v := 3) hx hb dX12_quarrel_55 (by decide) ?_
                    refine tk_ViP (As := [.int p2, .int 3]) (rest := [.int y_118]) (n := 2) hx hb hml hown hU hN hZ (s_X12_ofRule_k12_c3_3 l (dC, dI) cI cL cZ cR cG cH Z kd L f_121 hG o0 mo0 ko0 p2 (by constructor <;> omega)) wd_894 wd_895 wd_896 wd_5 wd_897 (by decide +kernel) ⟨Nat.le_of_ble_eq_true rfl, Nat.le_of_ble_eq_true rfl⟩ hK hP hD hS mo0 hfo_122 12 rfl rfl rfl hl.1 rfl (Nat.le_of_ble_eq_true rfl) dX12_quarrel_56 ⟨Nat.le_of_ble_eq_true rfl, Nat.le_of_ble_eq_true rfl⟩ (fun x_123 f_124 H locs hw hP hD hS => ?_)
                    obtain ⟨rfl, bx_123⟩ := hw
                    refine lv_icmp_ge (tgt := 149) hx hb dX12_quarrel_59 (by decide) (fun c_126 => ?_) (fun c_126 => ?_)
                    · skip
                      rw [Int32.le_iff_toInt_le] at c_126
                      obtain ⟨x_127, ex_127⟩ : ∃ y : Int32, y_90 + 1 = y := ⟨_, rfl⟩
                      have hx_127 : x_127.toInt = y_90.toInt + 1 := by rw [← ex_127, ad_I (by rw [ti_1]; omega) (by rw [ti_1]; omega), ti_1]
                      have bx_127 : (1 ≤ x_127.toInt ∧ x_127.toInt ≤ 3) := by constructor <;> omega
                      refine lv_iinc (v := x_127) (lv' := [(4, .int x_127), (5, .int y_118), (3, .int y_119), (0, .ref o0), (1, .int p1), (2, .int p2)]) hx hb dX12_quarrel_149 hl (k := 1) rfl ex_127 (by decide) rfl (fun ls hl => ?_)
                      refine lv_goto (tgt := 37) hx hb dX12_quarrel_152 (by decide) ?_
                      exact ih_hloop_89 x_127 (by constructor <;> omega) y_119 (by constructor <;> omega) f_121 hG _ _ hP hS hD hfr0 hfo_122 (by omega) ls (lv_sub hl [0, 2, 3, 4, 5] rfl)
                    · skip
                      rw [Int32.le_iff_toInt_le] at c_126
                      refine lv_aload_n hx hb dX12_quarrel_62 rfl (lv_at hl 3 rfl) ?_
                      refine lv_iconst (v := 3) hx hb dX12_quarrel_63 (by decide) ?_
                      refine lv_iload_n hx hb dX12_quarrel_64 rfl (lv_at hl 4 rfl) ?_
                      refine lv_imul hx hb dX12_quarrel_65 ?_
                      refine lv_topi (fun x_128 ex_128 => ?_)
                      have hx_128 : x_128.toInt = 3 * p1.toInt := by rw [ex_128, ml_I (by rw [ti_3]; omega) (by rw [ti_3]; omega), ti_3]
                      have bx_128 : (0 ≤ x_128.toInt ∧ x_128.toInt ≤ 21) := by constructor <;> omega
                      refine lv_iload hx hb dX12_quarrel_66 (lv_at hl 1 rfl) ?_
                      refine lv_iadd hx hb dX12_quarrel_68 ?_
                      refine lv_topi (fun x_129 ex_129 => ?_)
                      have hx_129 : x_129.toInt = x_128.toInt + y_90.toInt := by rw [ex_129, ad_I (by omega) (by omega)]
                      have bx_129 : (0 ≤ x_129.toInt ∧ x_129.toInt ≤ 23) := by constructor <;> omega
                      refine lv_iconst (v := 3) hx hb dX12_quarrel_69 (by decide) ?_
                      refine lv_iload_n hx hb dX12_quarrel_70 rfl (lv_at hl 5 rfl) ?_
                      refine lv_imul hx hb dX12_quarrel_71 ?_
                      refine lv_topi (fun x_130 ex_130 => ?_)
                      have hx_130 : x_130.toInt = 3 * p2.toInt := by rw [ex_130, ml_I (by rw [ti_3]; omega) (by rw [ti_3]; omega), ti_3]
                      have bx_130 : (0 ≤ x_130.toInt ∧ x_130.toInt ≤ 21) := by constructor <;> omega
                      refine lv_iload hx hb dX12_quarrel_72 (lv_at hl 0 rfl) ?_
                      refine lv_iadd hx hb dX12_quarrel_74 ?_
                      refine lv_topi (fun x_131 ex_131 => ?_)
                      have hx_131 : x_131.toInt = x_130.toInt + y_118.toInt := by rw [ex_131, ad_I (by omega) (by omega)]
                      have bx_131 : (0 ≤ x_131.toInt ∧ x_131.toInt ≤ 23) := by constructor <;> omega
                      refine lv_iconst (v := 0) hx hb dX12_quarrel_75 (by decide) ?_
                      refine tk_ViP (As := [.int x_129, .int x_131, .int 0]) (rest := []) (n := 3) hx hb hml hown hU hN hZ (s_X12_fewestPairs_k12 l (dC, dI) cI cL cZ cR cG cH Z kd L f_121 hG o0 mo0 ko0 x_129 (by constructor <;> omega) x_131 (by constructor <;> omega) 0 (by decide)) wd_1301 wd_1302 wd_1303 wd_5 wd_1304 (by decide +kernel) ⟨Nat.le_of_ble_eq_true rfl, Nat.le_of_ble_eq_true rfl⟩ hK hP hD hS mo0 hfo_122 12 rfl rfl rfl hl.1 rfl (Nat.le_of_ble_eq_true rfl) dX12_quarrel_76 ⟨Nat.le_of_ble_eq_true rfl, Nat.le_of_ble_eq_true rfl⟩ (fun x_132 f_133 H locs hw hP hD hS => ?_)
                      obtain ⟨hG, bx_132, hkc_134⟩ := hw
                      have hfo_136 : f_133 o0 = .inr (12, [.ref a_2, .ref a_3, .ref a_4, .int v_5, .ref a_6, .int v_7, .int v_8, .int v_9, .int v_10, .int v_11, .int v_12, .int v_13, .int v_14, .int v_15, .int v_16, .ref a_17, .ref a_18, .ref a_19, .ref a_20, .ref a_21, .ref a_22, .ref a_23, .ref a_24, .int v_25, .int v_26, .int v_27, .int v_28, .int v_29, .ref a_30, .int v_31, .ref a_32, .ref a_33, .int v_34, .int v_35, .ref a_36, .int v_37, .ref a_38, .ref a_39, .int v_40, .int v_41, .ref a_42, .ref a_43, .ref a_44, .int v_45, .ref a_46, .ref a_47, .ref a_48, .ref a_49, .ref a_50, .ref a_51, .ref a_52, .ref a_53, .ref a_54, .int v_55, .int v_56, .ref a_57]) := by rw [hkc_134 o0 (by rw [ko0]; decide) (by rw [ko0]; decide)]; exact hfo_122
                      have hfr0 : ∀ b, kd b ≠ 600 → kd b ≠ 601 → f_133 b = f b := fun b q600 q601 => (hkc_134 b q600 q601).trans (hfr0 b q600 q601)
                      refine lv_istore (lv' := [(6, .int x_132), (5, .int y_118), (4, .int y_90), (3, .int y_119), (0, .ref o0), (1, .int p1), (2, .int p2)]) hx hb dX12_quarrel_79 hl (by decide) rfl (fun ls hl => ?_)
                      refine lv_aload_n hx hb dX12_quarrel_81 rfl (lv_at hl 4 rfl) ?_
                      refine lv_iconst (v := 3) hx hb dX12_quarrel_82 (by decide) ?_
                      refine lv_iload_n hx hb dX12_quarrel_83 rfl (lv_at hl 5 rfl) ?_
                      refine lv_imul hx hb dX12_quarrel_84 ?_
                      refine lv_topi (fun x_137 ex_137 => ?_)
                      have hx_137 : x_137.toInt = 3 * p1.toInt := by rw [ex_137, ml_I (by rw [ti_3]; omega) (by rw [ti_3]; omega), ti_3]
                      have bx_137 : (0 ≤ x_137.toInt ∧ x_137.toInt ≤ 21) := by constructor <;> omega
                      refine lv_iload hx hb dX12_quarrel_85 (lv_at hl 2 rfl) ?_
                      refine lv_iadd hx hb dX12_quarrel_87 ?_
                      refine lv_topi (fun x_138 ex_138 => ?_)
                      have hx_138 : x_138.toInt = x_137.toInt + y_90.toInt := by rw [ex_138, ad_I (by omega) (by omega)]
                      have bx_138 : (0 ≤ x_138.toInt ∧ x_138.toInt ≤ 23) := by constructor <;> omega
                      refine lv_iconst (v := 3) hx hb dX12_quarrel_88 (by decide) ?_
                      refine lv_iload_n hx hb dX12_quarrel_89 rfl (lv_at hl 6 rfl) ?_
                      refine lv_imul hx hb dX12_quarrel_90 ?_
                      refine lv_topi (fun x_139 ex_139 => ?_)
                      have hx_139 : x_139.toInt = 3 * p2.toInt := by rw [ex_139, ml_I (by rw [ti_3]; omega) (by rw [ti_3]; omega), ti_3]
                      have bx_139 : (0 ≤ x_139.toInt ∧ x_139.toInt ≤ 21) := by constructor <;> omega
                      refine lv_iload hx hb dX12_quarrel_91 (lv_at hl 1 rfl) ?_
                      refine lv_iadd hx hb dX12_quarrel_93 ?_
                      refine lv_topi (fun x_140 ex_140 => ?_)
                      have hx_140 : x_140.toInt = x_139.toInt + y_118.toInt := by rw [ex_140, ad_I (by omega) (by omega)]
                      have bx_140 : (0 ≤ x_140.toInt ∧ x_140.toInt ≤ 23) := by constructor <;> omega
                      refine lv_iconst (v := 1) hx hb dX12_quarrel_94 (by decide) ?_
                      refine tk_ViP (As := [.int x_138, .int x_140, .int 1]) (rest := []) (n := 3) hx hb hml hown hU hN hZ (s_X12_fewestPairs_k12 l (dC, dI) cI cL cZ cR cG cH Z kd L f_133 hG o0 mo0 ko0 x_138 (by constructor <;> omega) x_140 (by constructor <;> omega) 1 (by decide)) wd_1301 wd_1302 wd_1303 wd_5 wd_1304 (by decide +kernel) ⟨Nat.le_of_ble_eq_true rfl, Nat.le_of_ble_eq_true rfl⟩ hK hP hD hS mo0 hfo_136 12 rfl rfl rfl hl.1 rfl (Nat.le_of_ble_eq_true rfl) dX12_quarrel_95 ⟨Nat.le_of_ble_eq_true rfl, Nat.le_of_ble_eq_true rfl⟩ (fun x_141 f_142 H locs hw hP hD hS => ?_)
                      obtain ⟨hG, bx_141, hkc_143⟩ := hw
                      have hfo_145 : f_142 o0 = .inr (12, [.ref a_2, .ref a_3, .ref a_4, .int v_5, .ref a_6, .int v_7, .int v_8, .int v_9, .int v_10, .int v_11, .int v_12, .int v_13, .int v_14, .int v_15, .int v_16, .ref a_17, .ref a_18, .ref a_19, .ref a_20, .ref a_21, .ref a_22, .ref a_23, .ref a_24, .int v_25, .int v_26, .int v_27, .int v_28, .int v_29, .ref a_30, .int v_31, .ref a_32, .ref a_33, .int v_34, .int v_35, .ref a_36, .int v_37, .ref a_38, .ref a_39, .int v_40, .int v_41, .ref a_42, .ref a_43, .ref a_44, .int v_45, .ref a_46, .ref a_47, .ref a_48, .ref a_49, .ref a_50, .ref a_51, .ref a_52, .ref a_53, .ref a_54, .int v_55, .int v_56, .ref a_57]) := by rw [hkc_143 o0 (by rw [ko0]; decide) (by rw [ko0]; decide)]; exact hfo_136
                      have hfr0 : ∀ b, kd b ≠ 600 → kd b ≠ 601 → f_142 b = f b := fun b q600 q601 => (hkc_143 b q600 q601).trans (hfr0 b q600 q601)
                      refine lv_istore (lv' := [(7, .int x_141), (6, .int x_132), (5, .int y_118), (4, .int y_90), (3, .int y_119), (0, .ref o0), (1, .int p1), (2, .int p2)]) hx hb dX12_quarrel_98 hl (by decide) rfl (fun ls hl => ?_)
                      refine lv_iload hx hb dX12_quarrel_100 (lv_at hl 1 rfl) ?_
                      refine lv_iconst (v := (-1)) hx hb dX12_quarrel_102 (by decide) ?_
                      have hcut_147 : ∀ (y_146 : Int32), ((-2147483648) ≤ y_146.toInt ∧ y_146.toInt ≤ 2147483647) → ∀ (ls : Array Slot), lv_has ls 8 [(7, .int x_141), (6, .int x_132), (5, .int y_118), (4, .int y_90), (3, .int y_146), (0, .ref o0), (1, .int p1), (2, .int p2)] → W p l e (headSpec (wU yX12_quarrel cX12_quarrel 8 (some .int)) { frames := 5, cells := 0, slots := 0, locals := 129 }).room s m [.ref o0, .int p1, .int p2].toArray below meth c H locs 0 0 (MQ below (va_Qi (fun (r : Int32) (f9 : Nat → va_E) => GI (okc cI cL cZ cR cG cH L kd) kd L f9 ∧ ((-2147483648) ≤ r.toInt ∧ r.toInt ≤ 2147483647) ∧ (∀ b, kd b ≠ 600 → kd b ≠ 601 → f9 b = f b)) (qP (dC, dI) cI cL cZ cR cG cH L) (fun q => q ∈ L)) [.ref o0, .int p1, .int p2].toArray s 0 0 (fun q => q ∈ L)) (F0 m 143 ls []) := by
                        intro y_146 by_146 ls hl
                        obtain ⟨x_148, ex_148⟩ : ∃ y : Int32, y_118 + 1 = y := ⟨_, rfl⟩
                        have hx_148 : x_148.toInt = y_118.toInt + 1 := by rw [← ex_148, ad_I (by rw [ti_1]; omega) (by rw [ti_1]; omega), ti_1]
                        have bx_148 : (1 ≤ x_148.toInt ∧ x_148.toInt ≤ 3) := by constructor <;> omega
                        refine lv_iinc (v := x_148) (lv' := [(5, .int x_148), (7, .int x_141), (6, .int x_132), (4, .int y_90), (3, .int y_146), (0, .ref o0), (1, .int p1), (2, .int p2)]) hx hb dX12_quarrel_143 hl (k := 2) rfl ex_148 (by decide) rfl (fun ls hl => ?_)
                        refine lv_goto (tgt := 51) hx hb dX12_quarrel_146 (by decide) ?_
                        exact ih_hloop_117 x_148 (by constructor <;> omega) y_146 (by constructor <;> omega) f_142 hG _ _ hP hS hD hfr0 hfo_145 (by omega) ls (lv_sub hl [0, 3, 4, 5, 6, 7] rfl)
                      refine lv_icmp_eq (tgt := 143) hx hb dX12_quarrel_103 (by decide) (fun c_149 => ?_) (fun c_149 => ?_)
                      · skip
                        rw [← Int32.toInt_inj, ti_m1] at c_149
                        exact hcut_147 y_119 (by constructor <;> omega) ls (lv_sub hl [0, 1, 2, 3, 4, 5, 6, 7] rfl)
                      · skip
                        rw [← Int32.toInt_inj, ti_m1] at c_149
                        refine lv_iload hx hb dX12_quarrel_106 (lv_at hl 0 rfl) ?_
                        refine lv_iconst (v := (-1)) hx hb dX12_quarrel_108 (by decide) ?_
                        refine lv_icmp_ne (tgt := 115) hx hb dX12_quarrel_109 (by decide) (fun c_150 => ?_) (fun c_150 => ?_)
                        · skip
                          rw [← Int32.toInt_inj, ti_m1] at c_150
                          refine lv_iload_n hx hb dX12_quarrel_115 rfl (lv_at hl 4 rfl) ?_
                          refine lv_iconst (v := (-1)) hx hb dX12_quarrel_116 (by decide) ?_
                          have hcut_152 : ∀ (y_151 : Int32), ((-2147483648) ≤ y_151.toInt ∧ y_151.toInt ≤ 9) → ∀ (ls : Array Slot), lv_has ls 8 [(7, .int x_141), (6, .int x_132), (5, .int y_118), (4, .int y_90), (3, .int y_119), (0, .ref o0), (1, .int p1), (2, .int p2)] → W p l e (headSpec (wU yX12_quarrel cX12_quarrel 8 (some .int)) { frames := 5, cells := 0, slots := 0, locals := 129 }).room s m [.ref o0, .int p1, .int p2].toArray below meth c H locs 0 0 (MQ below (va_Qi (fun (r : Int32) (f9 : Nat → va_E) => GI (okc cI cL cZ cR cG cH L kd) kd L f9 ∧ ((-2147483648) ≤ r.toInt ∧ r.toInt ≤ 2147483647) ∧ (∀ b, kd b ≠ 600 → kd b ≠ 601 → f9 b = f b)) (qP (dC, dI) cI cL cZ cR cG cH L) (fun q => q ∈ L)) [.ref o0, .int p1, .int p2].toArray s 0 0 (fun q => q ∈ L)) (F0 m 142 ls [.int y_151]) := by
                            intro y_151 by_151 ls hl
                            refine lv_istore_n (lv' := [(3, .int y_151), (7, .int x_141), (6, .int x_132), (5, .int y_118), (4, .int y_90), (0, .ref o0), (1, .int p1), (2, .int p2)]) hx hb dX12_quarrel_142 rfl hl (by decide) rfl (fun ls hl => ?_)
                            exact hcut_147 y_151 (by constructor <;> omega) ls (lv_sub hl [1, 2, 3, 4, 0, 5, 6, 7] rfl)
                          refine lv_icmp_eq (tgt := 131) hx hb dX12_quarrel_117 (by decide) (fun c_153 => ?_) (fun c_153 => ?_)
                          · skip
                            rw [← Int32.toInt_inj, ti_m1] at c_153
                            refine lv_iload hx hb dX12_quarrel_131 (lv_at hl 1 rfl) ?_
                            refine lv_iload hx hb dX12_quarrel_133 (lv_at hl 0 rfl) ?_
                            refine lv_iadd hx hb dX12_quarrel_135 ?_
                            refine lv_topi (fun x_154 ex_154 => ?_)
                            have hx_154 : x_154.toInt = x_132.toInt + x_141.toInt := by rw [ex_154, ad_I (by omega) (by omega)]
                            have bx_154 : (0 ≤ x_154.toInt ∧ x_154.toInt ≤ 8) := by constructor <;> omega
                            refine lv_iconst (v := 1) hx hb dX12_quarrel_136 (by decide) ?_
                            refine lv_iadd hx hb dX12_quarrel_137 ?_
                            refine lv_topi (fun x_155 ex_155 => ?_)
                            have hx_155 : x_155.toInt = x_154.toInt + 1 := by rw [ex_155, ad_I (by rw [ti_1]; omega) (by rw [ti_1]; omega), ti_1]
                            have bx_155 : (1 ≤ x_155.toInt ∧ x_155.toInt ≤ 9) := by constructor <;> omega
                            refine lv_goto (tgt := 142) hx hb dX12_quarrel_138 (by decide) ?_
                            exact hcut_152 x_155 (by constructor <;> omega) ls (lv_sub hl [0, 1, 2, 3, 4, 5, 6, 7] rfl)
                          · skip
                            rw [← Int32.toInt_inj, ti_m1] at c_153
                            refine lv_iload hx hb dX12_quarrel_120 (lv_at hl 1 rfl) ?_
                            refine lv_iload hx hb dX12_quarrel_122 (lv_at hl 0 rfl) ?_
                            refine lv_iadd hx hb dX12_quarrel_124 ?_
                            refine lv_topi (fun x_156 ex_156 => ?_)
                            have hx_156 : x_156.toInt = x_132.toInt + x_141.toInt := by rw [ex_156, ad_I (by omega) (by omega)]
                            have bx_156 : (0 ≤ x_156.toInt ∧ x_156.toInt ≤ 8) := by constructor <;> omega
                            refine lv_iconst (v := 1) hx hb dX12_quarrel_125 (by decide) ?_
                            refine lv_iadd hx hb dX12_quarrel_126 ?_
                            refine lv_topi (fun x_157 ex_157 => ?_)
                            have hx_157 : x_157.toInt = x_156.toInt + 1 := by rw [ex_157, ad_I (by rw [ti_1]; omega) (by rw [ti_1]; omega), ti_1]
                            have bx_157 : (1 ≤ x_157.toInt ∧ x_157.toInt ≤ 9) := by constructor <;> omega
                            refine lv_iload_n hx hb dX12_quarrel_127 rfl (lv_at hl 4 rfl) ?_
                            refine lv_icmp_ge (tgt := 141) hx hb dX12_quarrel_128 (by decide) (fun c_158 => ?_) (fun c_158 => ?_)
                            · skip
                              rw [Int32.le_iff_toInt_le] at c_158
                              refine lv_iload_n hx hb dX12_quarrel_141 rfl (lv_at hl 4 rfl) ?_
                              exact hcut_152 y_119 (by constructor <;> omega) ls (lv_sub hl [0, 1, 2, 3, 4, 5, 6, 7] rfl)
                            · skip
                              rw [Int32.le_iff_toInt_le] at c_158
                              refine lv_iload hx hb dX12_quarrel_131 (lv_at hl 1 rfl) ?_
                              refine lv_iload hx hb dX12_quarrel_133 (lv_at hl 0 rfl) ?_
                              refine lv_iadd hx hb dX12_quarrel_135 ?_
                              refine lv_topi (fun x_159 ex_159 => ?_)
                              have hx_159 : x_159.toInt = x_132.toInt + x_141.toInt := by rw [ex_159, ad_I (by omega) (by omega)]
                              have bx_159 : (0 ≤ x_159.toInt ∧ x_159.toInt ≤ 8) := by constructor <;> omega
                              refine lv_iconst (v := 1) hx hb dX12_quarrel_136 (by decide) ?_
                              refine lv_iadd hx hb dX12_quarrel_137 ?_
                              refine lv_topi (fun x_160 ex_160 => ?_)
                              have hx_160 : x_160.toInt = x_159.toInt + 1 := by rw [ex_160, ad_I (by rw [ti_1]; omega) (by rw [ti_1]; omega), ti_1]
                              have bx_160 : (1 ≤ x_160.toInt ∧ x_160.toInt ≤ 9) := by constructor <;> omega
                              refine lv_goto (tgt := 142) hx hb dX12_quarrel_138 (by decide) ?_
                              exact hcut_152 x_160 (by constructor <;> omega) ls (lv_sub hl [0, 1, 2, 3, 4, 5, 6, 7] rfl)
                        · skip
                          rw [← Int32.toInt_inj, ti_m1] at c_150
                          refine lv_goto (tgt := 143) hx hb dX12_quarrel_112 (by decide) ?_
                          exact hcut_147 y_119 (by constructor <;> omega) ls (lv_sub hl [0, 1, 2, 3, 4, 5, 6, 7] rfl)
                exact hloop_117 4 0 (by decide) y_91 (by constructor <;> omega) f_93 hG _ _ hP hS hD hfr0 hfo_94 (by (try rw [ti_0]) <;> omega) ls hl
          exact hloop_89 4 0 (by decide) (-1) (by decide) f hG _ _ hP hS hD hfr0 hfo_1 (by (try rw [ti_0]) <;> (try rw [ti_m1]) <;> omega) ls hl
        · skip
          rw [← Int32.toInt_inj, ti_0] at c_70
          refine lv_iconst (v := (-1)) hx hb dX12_quarrel_30 (by decide) ?_
          exact W.iret (v := (-1)) hx hb hr (fun t ht hW => ⟨⟨(-1), f, rfl, ⟨hG, (by decide), hfr0⟩, by rw [ht]; exact hP, va_K.moved hW.alike hK, pl_in hD⟩, hS.F ht⟩) hS.2.2 dX12_quarrel_31
set_option maxHeartbeats 8000000 in
set_option maxRecDepth 100000 in
theorem s_X12_wordsUpTo_k12 (l : Launch) (D : va_G) (cI cL cZ cR cG cH : ClassId) (Z : zT) (kd : Nat → Nat) (L : List Nat) (f : Nat → va_E) (hG : GI (okc cI cL cZ cR cG cH L kd) kd L f) (o0 : Nat) (mo0 : o0 ∈ L) (ko0 : kd o0 = 12) (p1 : Int32) (bp1 : (1 ≤ p1.toInt ∧ p1.toInt ≤ 3)) : mPI l D cI cL cZ cR cG cH Z yX12_wordsUpTo cX12_wordsUpTo 5 (some .int) 0 0 [.ref o0, .int p1] L f (fun (r : Int32) (f9 : Nat → va_E) => f = f9 ∧ (0 ≤ r.toInt ∧ r.toInt ≤ 584) ∧ (∀ b9 g9, fldR (f o0) 0 = some b9 → f b9 = .inl (cI, 1560, .inl g9) → (p1.toInt = 1 ∧ r.toInt = (g9 0).toInt) ∨ (p1.toInt = 2 ∧ r.toInt = (g9 0).toInt + (g9 0).toInt * (g9 0).toInt) ∨ (p1.toInt = 3 ∧ r.toInt = (g9 0).toInt + (g9 0).toInt * (g9 0).toInt + (g9 0).toInt * (g9 0).toInt * (g9 0).toInt))) := by
  obtain ⟨dC, dI⟩ := D
  refine Met.ofW (cc := cX12_wordsUpTo) (maxL := 5) (ret := (some .int)) (by decide) rfl ?_
  intro p e s m args below meth c s₁ B hml hv
  obtain ⟨rfl, hP, hK, hD0, hN, hZ⟩ := hv
  have hx := B.exec
  have hb := B.bytes
  have hr := B.returns
  have hU : ∀ w ∈ wsU, w.before _ s = true := fun w h => atoms_spec (ws := wU yX12_wordsUpTo cX12_wordsUpTo 5 (some .int)) B.pre w (List.mem_cons_of_mem _ h)
  have hown : s.vm.findClass RX12 = some m.cls := findClass_of_methodNamed B.named
  have hlocks := B.notSynchronized
  have hD := pl_in hD0
  have hS : va_S (fun q => q ∈ L) s.heap s.heap [] := va_S.rf
  have hl := lv_entry ([.ref o0, .int p1]) (n := 5) (Nat.le_of_ble_eq_true rfl)
  rw [lg_entry_eq]
  generalize (lg_sl ([.ref o0, .int p1]) ++ List.replicate (5 - (lg_sl ([.ref o0, .int p1])).length) Slot.unset).toArray = ls at hl ⊢
  have hl : lv_has ls 5 [(0, .ref o0), (1, .int p1)] := hl
  refine lv_iconst (v := 0) hx hb dX12_wordsUpTo_0 (by decide) ?_
  refine lv_istore_n (lv' := [(2, .int 0), (0, .ref o0), (1, .int p1)]) hx hb dX12_wordsUpTo_1 rfl hl (by decide) rfl (fun ls hl => ?_)
  refine lv_iconst (v := 1) hx hb dX12_wordsUpTo_2 (by decide) ?_
  refine lv_istore_n (lv' := [(3, .int 1), (2, .int 0), (0, .ref o0), (1, .int p1)]) hx hb dX12_wordsUpTo_3 rfl hl (by decide) rfl (fun ls hl => ?_)
  refine lv_iconst (v := 0) hx hb dX12_wordsUpTo_4 (by decide) ?_
  refine lv_istore (lv' := [(4, .int 0), (3, .int 1), (2, .int 0), (0, .ref o0), (1, .int p1)]) hx hb dX12_wordsUpTo_5 hl (by decide) rfl (fun ls hl => ?_)
  refine lv_iload hx hb dX12_wordsUpTo_7 (lv_at hl 0 rfl) ?_
  refine lv_iload_n hx hb dX12_wordsUpTo_9 rfl (lv_at hl 4 rfl) ?_
  refine lv_icmp_ge (tgt := 32) hx hb dX12_wordsUpTo_10 (by decide) (fun c_1 => ?_) (fun c_1 => ?_)
  · skip
    rw [Int32.le_iff_toInt_le, ti_0] at c_1
    exfalso
    omega
  · skip
    rw [Int32.le_iff_toInt_le, ti_0] at c_1
    refine lv_iload_n hx hb dX12_wordsUpTo_13 rfl (lv_at hl 1 rfl) ?_
    refine lv_aload_n hx hb dX12_wordsUpTo_14 rfl (lv_at hl 3 rfl) ?_
    obtain ⟨a_3, a_4, a_5, v_6, a_7, v_8, v_9, v_10, v_11, v_12, v_13, v_14, v_15, v_16, v_17, a_18, a_19, a_20, a_21, a_22, a_23, a_24, a_25, v_26, v_27, v_28, v_29, v_30, a_31, v_32, a_33, a_34, v_35, v_36, a_37, v_38, a_39, a_40, v_41, v_42, a_43, a_44, a_45, v_46, a_47, a_48, a_49, a_50, a_51, a_52, a_53, a_54, a_55, v_56, v_57, a_58, hfo_2, ⟨ma_3, ka_3⟩, ⟨ma_4, ka_4⟩, ⟨ma_5, ka_5⟩, bv_6, ⟨ma_7, ka_7⟩, bv_8, bv_9, bv_14, bv_15, bv_16, ⟨ma_18, ka_18⟩, ⟨ma_19, ka_19⟩, ⟨ma_20, ka_20⟩, ⟨ma_21, ka_21⟩, ⟨ma_22, ka_22⟩, ⟨ma_23, ka_23⟩, ⟨ma_24, ka_24⟩, ⟨ma_25, ka_25⟩, bv_26, bv_28, bv_30, ⟨ma_31, ka_31⟩, bv_32, ⟨ma_33, ka_33⟩, ⟨ma_34, ka_34⟩, bv_35, ⟨ma_37, ka_37⟩, bv_38, ⟨ma_39, ka_39⟩, ⟨ma_40, ka_40⟩, bv_41, ⟨ma_43, ka_43⟩, ⟨ma_44, ka_44⟩, ⟨ma_45, ka_45⟩, bv_46, ⟨ma_47, ka_47⟩, ⟨ma_48, ka_48⟩, ⟨ma_49, ka_49⟩, ⟨ma_50, ka_50⟩, ⟨ma_51, ka_51⟩, ⟨ma_52, ka_52⟩, ⟨ma_53, ka_53⟩, ⟨ma_54, ka_54⟩, ⟨ma_55, ka_55⟩, bv_56, ⟨ma_58, ka_58⟩⟩ := un_12 (hG _ mo0) ko0
    have bv_10 : ((-2147483648) ≤ v_10.toInt ∧ v_10.toInt ≤ 2147483647) := ⟨i32_lo _, i32_hi _⟩
    have bv_11 : ((-2147483648) ≤ v_11.toInt ∧ v_11.toInt ≤ 2147483647) := ⟨i32_lo _, i32_hi _⟩
    have bv_12 : ((-2147483648) ≤ v_12.toInt ∧ v_12.toInt ≤ 2147483647) := ⟨i32_lo _, i32_hi _⟩
    have bv_13 : ((-2147483648) ≤ v_13.toInt ∧ v_13.toInt ≤ 2147483647) := ⟨i32_lo _, i32_hi _⟩
    have bv_17 : ((-2147483648) ≤ v_17.toInt ∧ v_17.toInt ≤ 2147483647) := ⟨i32_lo _, i32_hi _⟩
    have bv_27 : ((-2147483648) ≤ v_27.toInt ∧ v_27.toInt ≤ 2147483647) := ⟨i32_lo _, i32_hi _⟩
    have bv_29 : ((-2147483648) ≤ v_29.toInt ∧ v_29.toInt ≤ 2147483647) := ⟨i32_lo _, i32_hi _⟩
    have bv_36 : ((-2147483648) ≤ v_36.toInt ∧ v_36.toInt ≤ 2147483647) := ⟨i32_lo _, i32_hi _⟩
    have bv_42 : ((-2147483648) ≤ v_42.toInt ∧ v_42.toInt ≤ 2147483647) := ⟨i32_lo _, i32_hi _⟩
    have bv_57 : ((-2147483648) ≤ v_57.toInt ∧ v_57.toInt ≤ 2147483647) := ⟨i32_lo _, i32_hi _⟩
    refine tk_getP (D := (dC, dI)) (ci := 12) (v := .ref a_3) (C := RX12) (T := TX12) (N := 56) hx hb hU inlX12 hown hK hP mo0 hfo_2 rfl 0 (by decide) (hU _ wd_169) (fun _ h9 => h9) rfl dX12_wordsUpTo_15 ?_
    refine lv_iconst (v := 0) hx hb dX12_wordsUpTo_18 (by decide) ?_
    obtain ⟨g_60, hfo_59, hbg_60⟩ := un_575 (hG _ ma_3) ka_3
    refine tk_ildP hx hb hK hP 0 ma_3 hfo_59 rfl (vp_in_nI (n := 0) (by decide) (by decide)) dX12_wordsUpTo_19 ?_
    refine lv_topi (fun x_61 ex_61 => ?_)
    have bx_61 : (0 ≤ x_61.toInt ∧ x_61.toInt ≤ 8) := by rw [ex_61]; exact hbg_60.1 _ (by decide) (by decide) (by decide)
    refine lv_imul hx hb dX12_wordsUpTo_20 ?_
    refine lv_topi (fun x_62 ex_62 => ?_)
    have hx_62 : x_62.toInt = 1 * x_61.toInt := by rw [ex_62, ml_I (by rw [ti_1]; omega) (by rw [ti_1]; omega), ti_1]
    have bx_62 : (0 ≤ x_62.toInt ∧ x_62.toInt ≤ 8) := by constructor <;> omega
    have hgx : x_61.toInt = (g_60 0).toInt := by rw [ex_61]; rfl
    have hL0 : x_62.toInt = (g_60 0).toInt := by omega
    have hsq := lw_sq (L := (g_60 0).toInt) (by omega)
    refine lv_istore_n (lv' := [(3, .int x_62), (4, .int 0), (2, .int 0), (0, .ref o0), (1, .int p1)]) hx hb dX12_wordsUpTo_21 rfl hl (by decide) rfl (fun ls hl => ?_)
    refine lv_iload_n hx hb dX12_wordsUpTo_22 rfl (lv_at hl 2 rfl) ?_
    refine lv_iload_n hx hb dX12_wordsUpTo_23 rfl (lv_at hl 0 rfl) ?_
    refine lv_iadd hx hb dX12_wordsUpTo_24 ?_
    refine lv_topi (fun x_63 ex_63 => ?_)
    have hx_63 : x_63.toInt = 0 + x_62.toInt := by rw [ex_63, ad_I (by rw [ti_0]; omega) (by rw [ti_0]; omega), ti_0]
    have bx_63 : (0 ≤ x_63.toInt ∧ x_63.toInt ≤ 8) := by constructor <;> omega
    refine lv_istore_n (lv' := [(2, .int x_63), (3, .int x_62), (4, .int 0), (0, .ref o0), (1, .int p1)]) hx hb dX12_wordsUpTo_25 rfl hl (by decide) rfl (fun ls hl => ?_)
    refine lv_iinc (v := 1) (lv' := [(4, .int 1), (2, .int x_63), (3, .int x_62), (0, .ref o0), (1, .int p1)]) hx hb dX12_wordsUpTo_26 hl (k := 2) rfl (by decide) (by decide) rfl (fun ls hl => ?_)
    refine lv_goto (tgt := 7) hx hb dX12_wordsUpTo_29 (by decide) ?_
    refine lv_iload hx hb dX12_wordsUpTo_7 (lv_at hl 0 rfl) ?_
    refine lv_iload_n hx hb dX12_wordsUpTo_9 rfl (lv_at hl 4 rfl) ?_
    refine lv_icmp_ge (tgt := 32) hx hb dX12_wordsUpTo_10 (by decide) (fun c_64 => ?_) (fun c_64 => ?_)
    · skip
      rw [Int32.le_iff_toInt_le, ti_1] at c_64
      refine lv_iload_n hx hb dX12_wordsUpTo_32 rfl (lv_at hl 1 rfl) ?_
      exact W.iret (v := x_63) hx hb hr (fun t ht hW => ⟨⟨x_63, f, rfl, ⟨rfl, (by constructor <;> omega), (fun b9 g9 h1 h2 => by rw [hfo_2] at h1; obtain rfl := Option.some.inj h1; rw [hfo_59] at h2; cases h2; omega)⟩, by rw [ht]; exact hP, va_K.moved hW.alike hK, pl_in hD⟩, hS.F ht⟩) hS.2.2 dX12_wordsUpTo_33
    · skip
      rw [Int32.le_iff_toInt_le, ti_1] at c_64
      refine lv_iload_n hx hb dX12_wordsUpTo_13 rfl (lv_at hl 2 rfl) ?_
      refine lv_aload_n hx hb dX12_wordsUpTo_14 rfl (lv_at hl 3 rfl) ?_
      refine tk_getP (D := (dC, dI)) (ci := 12) (v := .ref a_3) (C := RX12) (T := TX12) (N := 56) hx hb hU inlX12 hown hK hP mo0 hfo_2 rfl 0 (by decide) (hU _ wd_169) (fun _ h9 => h9) rfl dX12_wordsUpTo_15 ?_
      refine lv_iconst (v := 0) hx hb dX12_wordsUpTo_18 (by decide) ?_
      refine tk_ildP hx hb hK hP 0 ma_3 hfo_59 rfl (vp_in_nI (n := 0) (by decide) (by decide)) dX12_wordsUpTo_19 ?_
      refine tk_topi (y := x_61) ex_61.symm ?_
      refine lv_imul hx hb dX12_wordsUpTo_20 ?_
      refine lv_topi (fun x_65 ex_65 => ?_)
      have bx_65 : (0 ≤ x_65.toInt ∧ x_65.toInt ≤ 64) := by rw [ex_65]; exact ml_B (a := 8) (b := 8) (by constructor <;> omega) (by constructor <;> omega) (by decide)
      have hmx_65 : x_65.toInt = x_62.toInt * x_61.toInt := by rw [ex_65]; exact ml_E (a := 8) (b := 8) (by constructor <;> omega) (by constructor <;> omega) (by decide)
      have hL1 : x_65.toInt = (g_60 0).toInt * (g_60 0).toInt := by rw [hmx_65, hL0, hgx]
      refine lv_istore_n (lv' := [(3, .int x_65), (4, .int 1), (2, .int x_63), (0, .ref o0), (1, .int p1)]) hx hb dX12_wordsUpTo_21 rfl hl (by decide) rfl (fun ls hl => ?_)
      refine lv_iload_n hx hb dX12_wordsUpTo_22 rfl (lv_at hl 2 rfl) ?_
      refine lv_iload_n hx hb dX12_wordsUpTo_23 rfl (lv_at hl 0 rfl) ?_
      refine lv_iadd hx hb dX12_wordsUpTo_24 ?_
      refine lv_topi (fun x_66 ex_66 => ?_)
      have hx_66 : x_66.toInt = x_63.toInt + x_65.toInt := by rw [ex_66, ad_I (by omega) (by omega)]
      have bx_66 : (0 ≤ x_66.toInt ∧ x_66.toInt ≤ 72) := by constructor <;> omega
      refine lv_istore_n (lv' := [(2, .int x_66), (3, .int x_65), (4, .int 1), (0, .ref o0), (1, .int p1)]) hx hb dX12_wordsUpTo_25 rfl hl (by decide) rfl (fun ls hl => ?_)
      refine lv_iinc (v := 2) (lv' := [(4, .int 2), (2, .int x_66), (3, .int x_65), (0, .ref o0), (1, .int p1)]) hx hb dX12_wordsUpTo_26 hl (k := 2) rfl (by decide) (by decide) rfl (fun ls hl => ?_)
      refine lv_goto (tgt := 7) hx hb dX12_wordsUpTo_29 (by decide) ?_
      refine lv_iload hx hb dX12_wordsUpTo_7 (lv_at hl 0 rfl) ?_
      refine lv_iload_n hx hb dX12_wordsUpTo_9 rfl (lv_at hl 4 rfl) ?_
      refine lv_icmp_ge (tgt := 32) hx hb dX12_wordsUpTo_10 (by decide) (fun c_67 => ?_) (fun c_67 => ?_)
      · skip
        rw [Int32.le_iff_toInt_le, ti_2] at c_67
        refine lv_iload_n hx hb dX12_wordsUpTo_32 rfl (lv_at hl 1 rfl) ?_
        exact W.iret (v := x_66) hx hb hr (fun t ht hW => ⟨⟨x_66, f, rfl, ⟨rfl, (by constructor <;> omega), (fun b9 g9 h1 h2 => by rw [hfo_2] at h1; obtain rfl := Option.some.inj h1; rw [hfo_59] at h2; cases h2; omega)⟩, by rw [ht]; exact hP, va_K.moved hW.alike hK, pl_in hD⟩, hS.F ht⟩) hS.2.2 dX12_wordsUpTo_33
      · skip
        rw [Int32.le_iff_toInt_le, ti_2] at c_67
        refine lv_iload_n hx hb dX12_wordsUpTo_13 rfl (lv_at hl 2 rfl) ?_
        refine lv_aload_n hx hb dX12_wordsUpTo_14 rfl (lv_at hl 3 rfl) ?_
        refine tk_getP (D := (dC, dI)) (ci := 12) (v := .ref a_3) (C := RX12) (T := TX12) (N := 56) hx hb hU inlX12 hown hK hP mo0 hfo_2 rfl 0 (by decide) (hU _ wd_169) (fun _ h9 => h9) rfl dX12_wordsUpTo_15 ?_
        refine lv_iconst (v := 0) hx hb dX12_wordsUpTo_18 (by decide) ?_
        refine tk_ildP hx hb hK hP 0 ma_3 hfo_59 rfl (vp_in_nI (n := 0) (by decide) (by decide)) dX12_wordsUpTo_19 ?_
        refine tk_topi (y := x_61) ex_61.symm ?_
        refine lv_imul hx hb dX12_wordsUpTo_20 ?_
        refine lv_topi (fun x_68 ex_68 => ?_)
        have bx_68 : (0 ≤ x_68.toInt ∧ x_68.toInt ≤ 512) := by rw [ex_68]; exact ml_B (a := 64) (b := 8) (by constructor <;> omega) (by constructor <;> omega) (by decide)
        have hmx_68 : x_68.toInt = x_65.toInt * x_61.toInt := by rw [ex_68]; exact ml_E (a := 64) (b := 8) (by constructor <;> omega) (by constructor <;> omega) (by decide)
        have hL2 : x_68.toInt = (g_60 0).toInt * (g_60 0).toInt * (g_60 0).toInt := by rw [hmx_68, hL1, hgx]
        refine lv_istore_n (lv' := [(3, .int x_68), (4, .int 2), (2, .int x_66), (0, .ref o0), (1, .int p1)]) hx hb dX12_wordsUpTo_21 rfl hl (by decide) rfl (fun ls hl => ?_)
        refine lv_iload_n hx hb dX12_wordsUpTo_22 rfl (lv_at hl 2 rfl) ?_
        refine lv_iload_n hx hb dX12_wordsUpTo_23 rfl (lv_at hl 0 rfl) ?_
        refine lv_iadd hx hb dX12_wordsUpTo_24 ?_
        refine lv_topi (fun x_69 ex_69 => ?_)
        have hx_69 : x_69.toInt = x_66.toInt + x_68.toInt := by rw [ex_69, ad_I (by omega) (by omega)]
        have bx_69 : (0 ≤ x_69.toInt ∧ x_69.toInt ≤ 584) := by constructor <;> omega
        refine lv_istore_n (lv' := [(2, .int x_69), (3, .int x_68), (4, .int 2), (0, .ref o0), (1, .int p1)]) hx hb dX12_wordsUpTo_25 rfl hl (by decide) rfl (fun ls hl => ?_)
        refine lv_iinc (v := 3) (lv' := [(4, .int 3), (2, .int x_69), (3, .int x_68), (0, .ref o0), (1, .int p1)]) hx hb dX12_wordsUpTo_26 hl (k := 2) rfl (by decide) (by decide) rfl (fun ls hl => ?_)
        refine lv_goto (tgt := 7) hx hb dX12_wordsUpTo_29 (by decide) ?_
        refine lv_iload hx hb dX12_wordsUpTo_7 (lv_at hl 0 rfl) ?_
        refine lv_iload_n hx hb dX12_wordsUpTo_9 rfl (lv_at hl 4 rfl) ?_
        refine lv_icmp_ge (tgt := 32) hx hb dX12_wordsUpTo_10 (by decide) (fun c_70 => ?_) (fun c_70 => ?_)
        · skip
          rw [Int32.le_iff_toInt_le, ti_3] at c_70
          refine lv_iload_n hx hb dX12_wordsUpTo_32 rfl (lv_at hl 1 rfl) ?_
          exact W.iret (v := x_69) hx hb hr (fun t ht hW => ⟨⟨x_69, f, rfl, ⟨rfl, (by constructor <;> omega), (fun b9 g9 h1 h2 => by rw [hfo_2] at h1; obtain rfl := Option.some.inj h1; rw [hfo_59] at h2; cases h2; omega)⟩, by rw [ht]; exact hP, va_K.moved hW.alike hK, pl_in hD⟩, hS.F ht⟩) hS.2.2 dX12_wordsUpTo_33
        · skip
          rw [Int32.le_iff_toInt_le, ti_3] at c_70
          exfalso
          omega
set_option maxHeartbeats 8000000 in
set_option maxRecDepth 100000 in
theorem s_X12_laysWord_k12 (l : Launch) (D : va_G) (cI cL cZ cR cG cH : ClassId) (Z : zT) (kd : Nat → Nat) (L : List Nat) (f : Nat → va_E) (hG : GI (okc cI cL cZ cR cG cH L kd) kd L f) (o0 : Nat) (mo0 : o0 ∈ L) (ko0 : kd o0 = 12) (p1 : Int32) (bp1 : (0 ≤ p1.toInt ∧ p1.toInt ≤ 583)) (hxpre0 : ∀ b9 g9, fldR (f o0) 0 = some b9 → f b9 = .inl (cI, 1560, .inl g9) → p1.toInt < (g9 0).toInt + (g9 0).toInt * (g9 0).toInt + (g9 0).toInt * (g9 0).toInt * (g9 0).toInt) : mPV l D cI cL cZ cR cG cH Z yX12_laysWord cX12_laysWord 5 none 0 0 [.ref o0, .int p1] L f (fun (f9 : Nat → va_E) => GI (okc cI cL cZ cR cG cH L kd) kd L f9 ∧ (∀ b, kd b ≠ 12 → kd b ≠ 589 → f9 b = f b) ∧ (∀ b, kd b = 12 → ∀ j, fldR (f9 b) j = fldR (f b) j) ∧ (∀ b, kd b = 12 → ∀ j, j ≠ 23 → fldI (f9 b) j = fldI (f b) j) ∧ (∀ (w23 z23 : Int32), fldI (f o0) 23 = some w23 → fldI (f9 o0) 23 = some z23 → 1 ≤ z23.toInt ∧ z23.toInt ≤ 3) ∧ (∀ b9 g9 z9, fldR (f o0) 0 = some b9 → f b9 = .inl (cI, 1560, .inl g9) → fldI (f9 o0) 23 = some z9 → p1.toInt < (g9 0).toInt + (g9 0).toInt * (g9 0).toInt → z9.toInt ≤ 2)) := by
  obtain ⟨dC, dI⟩ := D
  refine Met.ofW (cc := cX12_laysWord) (maxL := 5) (ret := none) (by decide) rfl ?_
  intro p e s m args below meth c s₁ B hml hv
  obtain ⟨rfl, hP, hK, hD0, hN, hZ⟩ := hv
  have hx := B.exec
  have hb := B.bytes
  have hr := B.returns
  have hU : ∀ w ∈ wsU, w.before _ s = true := fun w h => atoms_spec (ws := wU yX12_laysWord cX12_laysWord 5 none) B.pre w (List.mem_cons_of_mem _ h)
  have hown : s.vm.findClass RX12 = some m.cls := findClass_of_methodNamed B.named
  have hlocks := B.notSynchronized
  have hD := pl_in hD0
  have hS : va_S (fun q => q ∈ L) s.heap s.heap [] := va_S.rf
  have hl := lv_entry ([.ref o0, .int p1]) (n := 5) (Nat.le_of_ble_eq_true rfl)
  rw [lg_entry_eq]
  generalize (lg_sl ([.ref o0, .int p1]) ++ List.replicate (5 - (lg_sl ([.ref o0, .int p1])).length) Slot.unset).toArray = ls at hl ⊢
  have hl : lv_has ls 5 [(0, .ref o0), (1, .int p1)] := hl
  have hfr0 : ∀ b, kd b ≠ 12 → kd b ≠ 589 → f b = f b := fun _ _ _ => rfl
  have hrA12 : ∀ b, kd b = 12 → ∀ j, fldR (f b) j = fldR (f b) j := fun _ _ _ => rfl
  have hfA12 : ∀ b, kd b = 12 → ∀ j, j ≠ 23 → fldI (f b) j = fldI (f b) j := fun _ _ _ _ => rfl
  obtain ⟨a_2, a_3, a_4, v_5, a_6, v_7, v_8, v_9, v_10, v_11, v_12, v_13, v_14, v_15, v_16, a_17, a_18, a_19, a_20, a_21, a_22, a_23, a_24, v_25, v_26, v_27, v_28, v_29, a_30, v_31, a_32, a_33, v_34, v_35, a_36, v_37, a_38, a_39, v_40, v_41, a_42, a_43, a_44, v_45, a_46, a_47, a_48, a_49, a_50, a_51, a_52, a_53, a_54, v_55, v_56, a_57, hfo_1, ⟨ma_2, ka_2⟩, ⟨ma_3, ka_3⟩, ⟨ma_4, ka_4⟩, bv_5, ⟨ma_6, ka_6⟩, bv_7, bv_8, bv_13, bv_14, bv_15, ⟨ma_17, ka_17⟩, ⟨ma_18, ka_18⟩, ⟨ma_19, ka_19⟩, ⟨ma_20, ka_20⟩, ⟨ma_21, ka_21⟩, ⟨ma_22, ka_22⟩, ⟨ma_23, ka_23⟩, ⟨ma_24, ka_24⟩, bv_25, bv_27, bv_29, ⟨ma_30, ka_30⟩, bv_31, ⟨ma_32, ka_32⟩, ⟨ma_33, ka_33⟩, bv_34, ⟨ma_36, ka_36⟩, bv_37, ⟨ma_38, ka_38⟩, ⟨ma_39, ka_39⟩, bv_40, ⟨ma_42, ka_42⟩, ⟨ma_43, ka_43⟩, ⟨ma_44, ka_44⟩, bv_45, ⟨ma_46, ka_46⟩, ⟨ma_47, ka_47⟩, ⟨ma_48, ka_48⟩, ⟨ma_49, ka_49⟩, ⟨ma_50, ka_50⟩, ⟨ma_51, ka_51⟩, ⟨ma_52, ka_52⟩, ⟨ma_53, ka_53⟩, ⟨ma_54, ka_54⟩, bv_55, ⟨ma_57, ka_57⟩⟩ := un_12 (hG _ mo0) ko0
  have bv_9 : ((-2147483648) ≤ v_9.toInt ∧ v_9.toInt ≤ 2147483647) := ⟨i32_lo _, i32_hi _⟩
  have bv_10 : ((-2147483648) ≤ v_10.toInt ∧ v_10.toInt ≤ 2147483647) := ⟨i32_lo _, i32_hi _⟩
  have bv_11 : ((-2147483648) ≤ v_11.toInt ∧ v_11.toInt ≤ 2147483647) := ⟨i32_lo _, i32_hi _⟩
  have bv_12 : ((-2147483648) ≤ v_12.toInt ∧ v_12.toInt ≤ 2147483647) := ⟨i32_lo _, i32_hi _⟩
  have bv_16 : ((-2147483648) ≤ v_16.toInt ∧ v_16.toInt ≤ 2147483647) := ⟨i32_lo _, i32_hi _⟩
  have bv_26 : ((-2147483648) ≤ v_26.toInt ∧ v_26.toInt ≤ 2147483647) := ⟨i32_lo _, i32_hi _⟩
  have bv_28 : ((-2147483648) ≤ v_28.toInt ∧ v_28.toInt ≤ 2147483647) := ⟨i32_lo _, i32_hi _⟩
  have bv_35 : ((-2147483648) ≤ v_35.toInt ∧ v_35.toInt ≤ 2147483647) := ⟨i32_lo _, i32_hi _⟩
  have bv_41 : ((-2147483648) ≤ v_41.toInt ∧ v_41.toInt ≤ 2147483647) := ⟨i32_lo _, i32_hi _⟩
  have bv_56 : ((-2147483648) ≤ v_56.toInt ∧ v_56.toInt ≤ 2147483647) := ⟨i32_lo _, i32_hi _⟩
  obtain ⟨g_59, hfo_58, hbg_59⟩ := un_575 (hG _ ma_2) ka_2
  have hlw := hxpre0 a_2 g_59 (by rw [hfo_1]; rfl) hfo_58
  obtain ⟨x_60, ex_60⟩ : ∃ y : Int32, y = g_59 (Int32.toNatClampNeg 0) := ⟨_, rfl⟩
  have bx_60 : (0 ≤ x_60.toInt ∧ x_60.toInt ≤ 8) := by rw [ex_60]; exact hbg_59.1 _ (by decide) (by decide) (by decide)
  have hgx_60 : x_60.toInt = (g_59 0).toInt := by rw [ex_60]; rfl
  have hlp := lw_pos (L := (g_59 0).toInt) (by omega) (by omega) hlw
  have hsq := lw_sq (L := (g_59 0).toInt) (by omega)
  have hnrc_61 : (1 ≤ x_60.toInt ∧ x_60.toInt ≤ 8) := by constructor <;> omega
  refine lv_iload_n hx hb dX12_laysWord_0 rfl (lv_at hl 1 rfl) ?_
  refine lv_istore_n (lv' := [(2, .int p1), (0, .ref o0), (1, .int p1)]) hx hb dX12_laysWord_1 rfl hl (by decide) rfl (fun ls hl => ?_)
  refine lv_aload_n hx hb dX12_laysWord_2 rfl (lv_at hl 1 rfl) ?_
  refine tk_getP (D := (dC, dI)) (ci := 12) (v := .ref a_2) (C := RX12) (T := TX12) (N := 56) hx hb hU inlX12 hown hK hP mo0 hfo_1 rfl 0 (by decide) (hU _ wd_169) (fun _ h9 => h9) rfl dX12_laysWord_3 ?_
  refine lv_iconst (v := 0) hx hb dX12_laysWord_6 (by decide) ?_
  refine tk_ildP hx hb hK hP 0 ma_2 hfo_58 rfl (vp_in_nI (n := 0) (by decide) (by decide)) dX12_laysWord_7 ?_
  refine tk_topi (y := x_60) ex_60.symm ?_
  refine lv_istore_n (lv' := [(3, .int x_60), (2, .int p1), (0, .ref o0), (1, .int p1)]) hx hb dX12_laysWord_8 rfl hl (by decide) rfl (fun ls hl => ?_)
  refine lv_aload_n hx hb dX12_laysWord_9 rfl (lv_at hl 2 rfl) ?_
  refine lv_iconst (v := 1) hx hb dX12_laysWord_10 (by decide) ?_
  refine tk_putP (D := (dC, dI)) (ci := 12) (v := .int 1) (ty := .int) (C := RX12) (T := TX12) (N := 56) hx hb hU inlX12 tyX12 tyX12_ok nmX12 hown hK hP hD hS mo0 hfo_1 rfl 23 (by decide) (hU _ wd_867) (fun _ h9 => h9) rfl (by decide +kernel) rfl rfl (Nat.le_of_ble_eq_true rfl) dX12_laysWord_11 (fun H locs hP hD hS => ?_)
  obtain ⟨f_63, ef_63⟩ : ∃ y : Nat → va_E, y = va_up f o0 (.inr (12, [.ref a_2, .ref a_3, .ref a_4, .int v_5, .ref a_6, .int v_7, .int v_8, .int v_9, .int v_10, .int v_11, .int v_12, .int v_13, .int v_14, .int v_15, .int v_16, .ref a_17, .ref a_18, .ref a_19, .ref a_20, .ref a_21, .ref a_22, .ref a_23, .ref a_24, .int 1, .int v_26, .int v_27, .int v_28, .int v_29, .ref a_30, .int v_31, .ref a_32, .ref a_33, .int v_34, .int v_35, .ref a_36, .int v_37, .ref a_38, .ref a_39, .int v_40, .int v_41, .ref a_42, .ref a_43, .ref a_44, .int v_45, .ref a_46, .ref a_47, .ref a_48, .ref a_49, .ref a_50, .ref a_51, .ref a_52, .ref a_53, .ref a_54, .int v_55, .int v_56, .ref a_57])) := ⟨_, rfl⟩
  have hP : va_P (dC, dI) vwCl (va_pl L f_63) H := by rw [ef_63]; exact hP
  have hD : va_D (fun q => q ∈ L) (va_pl L f_63) := by rw [ef_63]; exact hD
  have hG : GI (okc cI cL cZ cR cG cH L kd) kd L f_63 := by rw [ef_63]; exact hG.set o0 (mk_12 ko0 ⟨a_2, a_3, a_4, v_5, a_6, v_7, v_8, v_9, v_10, v_11, v_12, v_13, v_14, v_15, v_16, a_17, a_18, a_19, a_20, a_21, a_22, a_23, a_24, 1, v_26, v_27, v_28, v_29, a_30, v_31, a_32, a_33, v_34, v_35, a_36, v_37, a_38, a_39, v_40, v_41, a_42, a_43, a_44, v_45, a_46, a_47, a_48, a_49, a_50, a_51, a_52, a_53, a_54, v_55, v_56, a_57, rfl, ⟨ma_2, ka_2⟩, ⟨ma_3, ka_3⟩, ⟨ma_4, ka_4⟩, (by constructor <;> omega), ⟨ma_6, ka_6⟩, (by constructor <;> omega), (by constructor <;> omega), (by constructor <;> omega), (by constructor <;> omega), (by constructor <;> omega), ⟨ma_17, ka_17⟩, ⟨ma_18, ka_18⟩, ⟨ma_19, ka_19⟩, ⟨ma_20, ka_20⟩, ⟨ma_21, ka_21⟩, ⟨ma_22, ka_22⟩, ⟨ma_23, ka_23⟩, ⟨ma_24, ka_24⟩, (by decide), (by constructor <;> omega), (by constructor <;> omega), ⟨ma_30, ka_30⟩, (by constructor <;> omega), ⟨ma_32, ka_32⟩, ⟨ma_33, ka_33⟩, (by constructor <;> omega), ⟨ma_36, ka_36⟩, (by constructor <;> omega), ⟨ma_38, ka_38⟩, ⟨ma_39, ka_39⟩, (by constructor <;> omega), ⟨ma_42, ka_42⟩, ⟨ma_43, ka_43⟩, ⟨ma_44, ka_44⟩, (by constructor <;> omega), ⟨ma_46, ka_46⟩, ⟨ma_47, ka_47⟩, ⟨ma_48, ka_48⟩, ⟨ma_49, ka_49⟩, ⟨ma_50, ka_50⟩, ⟨ma_51, ka_51⟩, ⟨ma_52, ka_52⟩, ⟨ma_53, ka_53⟩, ⟨ma_54, ka_54⟩, (by constructor <;> omega), ⟨ma_57, ka_57⟩⟩)
  have hfo_64 : f_63 a_2 = .inl (cI, 1560, .inl g_59) := by rw [ef_63, up_ne (kd_ne ko0 ka_2 (by decide))]; exact hfo_58
  have hfr0 : ∀ b, kd b ≠ 12 → kd b ≠ 589 → f_63 b = f b := fun b q12 q589 => (congrFun ef_63 b).trans ((up_ne (fun e9 => q12 (by rw [e9]; exact ko0))).trans (hfr0 b q12 q589))
  have hrA12 : ∀ b, kd b = 12 → ∀ j, fldR (f_63 b) j = fldR (f b) j := fun b kb j => ((congrArg (fun x => fldR x j) (congrFun ef_63 b)).trans (fra_up (fun j => by rw [hfo_1]; exact fr_set (k := 23) rfl rfl j) j b)).trans (hrA12 b kb j)
  have hfA12 : ∀ b, kd b = 12 → ∀ j, j ≠ 23 → fldI (f_63 b) j = fldI (f b) j := fun b kb j n23 => ((congrArg (fun x => fldI x j) (congrFun ef_63 b)).trans (fia_up (fun h9 => by rw [hfo_1]; exact fi_set (k := 23) rfl h9) n23 b)).trans (hfA12 b kb j n23)
  have hfo_65 : f_63 o0 = .inr (12, [.ref a_2, .ref a_3, .ref a_4, .int v_5, .ref a_6, .int v_7, .int v_8, .int v_9, .int v_10, .int v_11, .int v_12, .int v_13, .int v_14, .int v_15, .int v_16, .ref a_17, .ref a_18, .ref a_19, .ref a_20, .ref a_21, .ref a_22, .ref a_23, .ref a_24, .int 1, .int v_26, .int v_27, .int v_28, .int v_29, .ref a_30, .int v_31, .ref a_32, .ref a_33, .int v_34, .int v_35, .ref a_36, .int v_37, .ref a_38, .ref a_39, .int v_40, .int v_41, .ref a_42, .ref a_43, .ref a_44, .int v_45, .ref a_46, .ref a_47, .ref a_48, .ref a_49, .ref a_50, .ref a_51, .ref a_52, .ref a_53, .ref a_54, .int v_55, .int v_56, .ref a_57]) := by rw [ef_63]; exact up_self
  have hloop_73 : ∀ (n : Nat), ∀ (y_74 : Int32), (0 ≤ y_74.toInt ∧ y_74.toInt ≤ 512) → ∀ (y_75 : Int32), (0 ≤ y_75.toInt ∧ y_75.toInt ≤ 583) → ∀ (f_77 : Nat → va_E), GI (okc cI cL cZ cR cG cH L kd) kd L f_77 → ∀ (H : Heap) (locs : List Loc), va_P (dC, dI) vwCl (va_pl L f_77) H → va_S (fun q => q ∈ L) s.heap H locs → va_D (fun q => q ∈ L) (va_pl L f_77) → (∀ b, kd b ≠ 12 → kd b ≠ 589 → f_77 b = f b) → (∀ b, kd b = 12 → ∀ j, fldR (f_77 b) j = fldR (f b) j) → (∀ b, kd b = 12 → ∀ j, j ≠ 23 → fldI (f_77 b) j = fldI (f b) j) → (f_77 a_2 = .inl (cI, 1560, .inl g_59)) → ∀ (whloop_73_0_23 : Int32), fldI (f_77 o0) 23 = some whloop_73_0_23 → ((whloop_73_0_23.toInt = 1 ∧ y_74.toInt = (g_59 0).toInt ∧ y_75.toInt = p1.toInt) ∨ (whloop_73_0_23.toInt = 2 ∧ y_74.toInt = (g_59 0).toInt * (g_59 0).toInt ∧ y_75.toInt = p1.toInt - (g_59 0).toInt) ∨ (whloop_73_0_23.toInt = 3 ∧ y_74.toInt = (g_59 0).toInt * (g_59 0).toInt * (g_59 0).toInt ∧ y_75.toInt = p1.toInt - (g_59 0).toInt - (g_59 0).toInt * (g_59 0).toInt)) → (1 ≤ whloop_73_0_23.toInt ∧ whloop_73_0_23.toInt ≤ 3) → 4 - whloop_73_0_23.toInt < (n : Int) → ∀ (ls : Array Slot), lv_has ls 5 [(3, .int y_74), (2, .int y_75), (0, .ref o0), (1, .int p1)] → W p l e (headSpec (wU yX12_laysWord cX12_laysWord 5 none) { frames := 0, cells := 0, slots := 0, locals := 0 }).room s m [.ref o0, .int p1].toArray below meth c H locs 0 0 (MQ below (va_Qv (fun (f9 : Nat → va_E) => GI (okc cI cL cZ cR cG cH L kd) kd L f9 ∧ (∀ b, kd b ≠ 12 → kd b ≠ 589 → f9 b = f b) ∧ (∀ b, kd b = 12 → ∀ j, fldR (f9 b) j = fldR (f b) j) ∧ (∀ b, kd b = 12 → ∀ j, j ≠ 23 → fldI (f9 b) j = fldI (f b) j) ∧ (∀ (w23 z23 : Int32), fldI (f o0) 23 = some w23 → fldI (f9 o0) 23 = some z23 → 1 ≤ z23.toInt ∧ z23.toInt ≤ 3) ∧ (∀ b9 g9 z9, fldR (f o0) 0 = some b9 → f b9 = .inl (cI, 1560, .inl g9) → fldI (f9 o0) 23 = some z9 → p1.toInt < (g9 0).toInt + (g9 0).toInt * (g9 0).toInt → z9.toInt ≤ 2)) (qP (dC, dI) cI cL cZ cR cG cH L) (fun q => q ∈ L)) [.ref o0, .int p1].toArray s 0 0 (fun q => q ∈ L)) (F0 m 14 ls []) := by
    intro n
    induction n with
    | zero => intro y_74 by_74 y_75 by_75 f_77 hG H locs hP hS hD hfr0 hrA12 hfA12 hfo_78 whloop_73_0_23 hghloop_73_0_23 hrelhloop_73_0 hrelhloop_73_1 hmuhloop_73 ls hl; exfalso; omega
    | succ n ih_hloop_73 =>
      intro y_74 by_74 y_75 by_75 f_77 hG H locs hP hS hD hfr0 hrA12 hfA12 hfo_78 whloop_73_0_23 hghloop_73_0_23 hrelhloop_73_0 hrelhloop_73_1 hmuhloop_73 ls hl
      obtain ⟨a_80, a_81, a_82, v_83, a_84, v_85, v_86, v_87, v_88, v_89, v_90, v_91, v_92, v_93, v_94, a_95, a_96, a_97, a_98, a_99, a_100, a_101, a_102, v_103, v_104, v_105, v_106, v_107, a_108, v_109, a_110, a_111, v_112, v_113, a_114, v_115, a_116, a_117, v_118, v_119, a_120, a_121, a_122, v_123, a_124, a_125, a_126, a_127, a_128, a_129, a_130, a_131, a_132, v_133, v_134, a_135, hfo_79, ⟨ma_80, ka_80⟩, ⟨ma_81, ka_81⟩, ⟨ma_82, ka_82⟩, bv_83, ⟨ma_84, ka_84⟩, bv_85, bv_86, bv_91, bv_92, bv_93, ⟨ma_95, ka_95⟩, ⟨ma_96, ka_96⟩, ⟨ma_97, ka_97⟩, ⟨ma_98, ka_98⟩, ⟨ma_99, ka_99⟩, ⟨ma_100, ka_100⟩, ⟨ma_101, ka_101⟩, ⟨ma_102, ka_102⟩, bv_103, bv_105, bv_107, ⟨ma_108, ka_108⟩, bv_109, ⟨ma_110, ka_110⟩, ⟨ma_111, ka_111⟩, bv_112, ⟨ma_114, ka_114⟩, bv_115, ⟨ma_116, ka_116⟩, ⟨ma_117, ka_117⟩, bv_118, ⟨ma_120, ka_120⟩, ⟨ma_121, ka_121⟩, ⟨ma_122, ka_122⟩, bv_123, ⟨ma_124, ka_124⟩, ⟨ma_125, ka_125⟩, ⟨ma_126, ka_126⟩, ⟨ma_127, ka_127⟩, ⟨ma_128, ka_128⟩, ⟨ma_129, ka_129⟩, ⟨ma_130, ka_130⟩, ⟨ma_131, ka_131⟩, ⟨ma_132, ka_132⟩, bv_133, ⟨ma_135, ka_135⟩⟩ := un_12 (hG _ mo0) ko0
      have bv_87 : ((-2147483648) ≤ v_87.toInt ∧ v_87.toInt ≤ 2147483647) := ⟨i32_lo _, i32_hi _⟩
      have bv_88 : ((-2147483648) ≤ v_88.toInt ∧ v_88.toInt ≤ 2147483647) := ⟨i32_lo _, i32_hi _⟩
      have bv_89 : ((-2147483648) ≤ v_89.toInt ∧ v_89.toInt ≤ 2147483647) := ⟨i32_lo _, i32_hi _⟩
      have bv_90 : ((-2147483648) ≤ v_90.toInt ∧ v_90.toInt ≤ 2147483647) := ⟨i32_lo _, i32_hi _⟩
      have bv_94 : ((-2147483648) ≤ v_94.toInt ∧ v_94.toInt ≤ 2147483647) := ⟨i32_lo _, i32_hi _⟩
      have bv_104 : ((-2147483648) ≤ v_104.toInt ∧ v_104.toInt ≤ 2147483647) := ⟨i32_lo _, i32_hi _⟩
      have bv_106 : ((-2147483648) ≤ v_106.toInt ∧ v_106.toInt ≤ 2147483647) := ⟨i32_lo _, i32_hi _⟩
      have bv_113 : ((-2147483648) ≤ v_113.toInt ∧ v_113.toInt ≤ 2147483647) := ⟨i32_lo _, i32_hi _⟩
      have bv_119 : ((-2147483648) ≤ v_119.toInt ∧ v_119.toInt ≤ 2147483647) := ⟨i32_lo _, i32_hi _⟩
      have bv_134 : ((-2147483648) ≤ v_134.toInt ∧ v_134.toInt ≤ 2147483647) := ⟨i32_lo _, i32_hi _⟩
      obtain ⟨rfl, rfl, rfl, rfl, rfl, rfl, rfl, rfl, rfl, rfl, rfl, rfl, rfl, rfl, rfl, rfl, rfl, rfl, rfl, rfl, rfl, rfl, rfl, rfl, rfl, rfl, rfl, rfl, rfl, rfl, rfl⟩ := re_12 hfo_1 hfo_79 (hrA12 o0 ko0)
      obtain rfl := ri_12_3 hfo_1 hfo_79 (hfA12 o0 ko0 3 (by decide))
      obtain rfl := ri_12_5 hfo_1 hfo_79 (hfA12 o0 ko0 5 (by decide))
      obtain rfl := ri_12_6 hfo_1 hfo_79 (hfA12 o0 ko0 6 (by decide))
      obtain rfl := ri_12_11 hfo_1 hfo_79 (hfA12 o0 ko0 11 (by decide))
      obtain rfl := ri_12_12 hfo_1 hfo_79 (hfA12 o0 ko0 12 (by decide))
      obtain rfl := ri_12_13 hfo_1 hfo_79 (hfA12 o0 ko0 13 (by decide))
      obtain rfl := ri_12_14 hfo_1 hfo_79 (hfA12 o0 ko0 14 (by decide))
      obtain rfl := ri_12_25 hfo_1 hfo_79 (hfA12 o0 ko0 25 (by decide))
      obtain rfl := ri_12_27 hfo_1 hfo_79 (hfA12 o0 ko0 27 (by decide))
      obtain rfl := ri_12_29 hfo_1 hfo_79 (hfA12 o0 ko0 29 (by decide))
      obtain rfl := ri_12_32 hfo_1 hfo_79 (hfA12 o0 ko0 32 (by decide))
      obtain rfl := ri_12_33 hfo_1 hfo_79 (hfA12 o0 ko0 33 (by decide))
      obtain rfl := ri_12_35 hfo_1 hfo_79 (hfA12 o0 ko0 35 (by decide))
      obtain rfl := ri_12_38 hfo_1 hfo_79 (hfA12 o0 ko0 38 (by decide))
      obtain rfl := ri_12_43 hfo_1 hfo_79 (hfA12 o0 ko0 43 (by decide))
      obtain rfl := ri_12_53 hfo_1 hfo_79 (hfA12 o0 ko0 53 (by decide))
      obtain rfl : v_103 = whloop_73_0_23 := by rw [hfo_79] at hghloop_73_0_23; exact Option.some.inj hghloop_73_0_23
      refine lv_iload_n hx hb dX12_laysWord_14 rfl (lv_at hl 1 rfl) ?_
      refine lv_iload_n hx hb dX12_laysWord_15 rfl (lv_at hl 0 rfl) ?_
      refine lv_icmp_lt (tgt := 45) hx hb dX12_laysWord_16 (by decide) (fun c_136 => ?_) (fun c_136 => ?_)
      · skip
        rw [Int32.lt_iff_toInt_lt] at c_136
        refine lv_aload_n hx hb dX12_laysWord_45 rfl (lv_at hl 2 rfl) ?_
        refine tk_getP (D := (dC, dI)) (ci := 12) (v := .int v_103) (C := RX12) (T := TX12) (N := 56) hx hb hU inlX12 hown hK hP mo0 hfo_79 rfl 23 (by decide) (hU _ wd_867) (fun _ h9 => h9) rfl dX12_laysWord_46 ?_
        refine lv_iconst (v := 1) hx hb dX12_laysWord_49 (by decide) ?_
        refine lv_isub hx hb dX12_laysWord_50 ?_
        refine lv_topi (fun x_137 ex_137 => ?_)
        have hx_137 : x_137.toInt = v_103.toInt - 1 := by rw [ex_137, sb_I (by rw [ti_1]; omega) (by rw [ti_1]; omega), ti_1]
        have bx_137 : (0 ≤ x_137.toInt ∧ x_137.toInt ≤ 2) := by constructor <;> omega
        refine lv_istore (lv' := [(4, .int x_137), (3, .int y_74), (2, .int y_75), (0, .ref o0), (1, .int p1)]) hx hb dX12_laysWord_51 hl (by decide) rfl (fun ls hl => ?_)
        have hloop_145 : ∀ (n : Nat), ∀ (y_146 : Int32), ((-1) ≤ y_146.toInt ∧ y_146.toInt ≤ 2) → ∀ (y_147 : Int32), (0 ≤ y_147.toInt ∧ y_147.toInt ≤ 583) → ∀ (f_149 : Nat → va_E), GI (okc cI cL cZ cR cG cH L kd) kd L f_149 → ∀ (H : Heap) (locs : List Loc), va_P (dC, dI) vwCl (va_pl L f_149) H → va_S (fun q => q ∈ L) s.heap H locs → va_D (fun q => q ∈ L) (va_pl L f_149) → (∀ b, kd b ≠ 12 → kd b ≠ 589 → f_149 b = f b) → (∀ b, kd b = 12 → ∀ j, fldR (f_149 b) j = fldR (f b) j) → (∀ b, kd b = 12 → ∀ j, j ≠ 23 → fldI (f_149 b) j = fldI (f b) j) → (f_149 a_2 = .inl (cI, 1560, .inl g_59)) → (f_149 o0 = .inr (12, [.ref a_2, .ref a_3, .ref a_4, .int v_5, .ref a_6, .int v_7, .int v_8, .int v_87, .int v_88, .int v_89, .int v_90, .int v_13, .int v_14, .int v_15, .int v_16, .ref a_17, .ref a_18, .ref a_19, .ref a_20, .ref a_21, .ref a_22, .ref a_23, .ref a_24, .int v_103, .int v_104, .int v_27, .int v_106, .int v_29, .ref a_30, .int v_31, .ref a_32, .ref a_33, .int v_34, .int v_35, .ref a_36, .int v_37, .ref a_38, .ref a_39, .int v_40, .int v_119, .ref a_42, .ref a_43, .ref a_44, .int v_45, .ref a_46, .ref a_47, .ref a_48, .ref a_49, .ref a_50, .ref a_51, .ref a_52, .ref a_53, .ref a_54, .int v_55, .int v_134, .ref a_57])) → y_146.toInt - (-1) < (n : Int) → ∀ (ls : Array Slot), lv_has ls 5 [(4, .int y_146), (3, .int y_74), (2, .int y_147), (0, .ref o0), (1, .int p1)] → W p l e (headSpec (wU yX12_laysWord cX12_laysWord 5 none) { frames := 0, cells := 0, slots := 0, locals := 0 }).room s m [.ref o0, .int p1].toArray below meth c H locs 0 0 (MQ below (va_Qv (fun (f9 : Nat → va_E) => GI (okc cI cL cZ cR cG cH L kd) kd L f9 ∧ (∀ b, kd b ≠ 12 → kd b ≠ 589 → f9 b = f b) ∧ (∀ b, kd b = 12 → ∀ j, fldR (f9 b) j = fldR (f b) j) ∧ (∀ b, kd b = 12 → ∀ j, j ≠ 23 → fldI (f9 b) j = fldI (f b) j) ∧ (∀ (w23 z23 : Int32), fldI (f o0) 23 = some w23 → fldI (f9 o0) 23 = some z23 → 1 ≤ z23.toInt ∧ z23.toInt ≤ 3) ∧ (∀ b9 g9 z9, fldR (f o0) 0 = some b9 → f b9 = .inl (cI, 1560, .inl g9) → fldI (f9 o0) 23 = some z9 → p1.toInt < (g9 0).toInt + (g9 0).toInt * (g9 0).toInt → z9.toInt ≤ 2)) (qP (dC, dI) cI cL cZ cR cG cH L) (fun q => q ∈ L)) [.ref o0, .int p1].toArray s 0 0 (fun q => q ∈ L)) (F0 m 53 ls []) := by
          intro n
          induction n with
          | zero => intro y_146 by_146 y_147 by_147 f_149 hG H locs hP hS hD hfr0 hrA12 hfA12 hfo_150 hfo_151 hmuhloop_145 ls hl; exfalso; omega
          | succ n ih_hloop_145 =>
            intro y_146 by_146 y_147 by_147 f_149 hG H locs hP hS hD hfr0 hrA12 hfA12 hfo_150 hfo_151 hmuhloop_145 ls hl
            refine lv_iload hx hb dX12_laysWord_53 (lv_at hl 0 rfl) ?_
            refine lv_if_lt (tgt := 90) hx hb dX12_laysWord_55 (by decide) (fun c_152 => ?_) (fun c_152 => ?_)
            · skip
              rw [Int32.lt_iff_toInt_lt, ti_0] at c_152
              exact W.vret hx hb hr (fun t ht hW => ⟨⟨f_149, rfl, ⟨hG, hfr0, hrA12, hfA12, (by intro w23 z23 e23 d23; rw [hfo_1] at e23; rw [hfo_151] at d23; obtain rfl := Option.some.inj e23; obtain rfl := Option.some.inj d23; omega), (fun b9 g9 z9 h1 h2 h3 h4 => by rw [hfo_1] at h1; obtain rfl := Option.some.inj h1; rw [hfo_58] at h2; cases h2; rw [hfo_151] at h3; obtain rfl := Option.some.inj h3; omega)⟩, by rw [ht]; exact hP, va_K.moved hW.alike hK, pl_in hD⟩, hS.F ht⟩) hS.2.2 dX12_laysWord_90
            · skip
              rw [Int32.lt_iff_toInt_lt, ti_0] at c_152
              refine lv_aload_n hx hb dX12_laysWord_58 rfl (lv_at hl 3 rfl) ?_
              refine tk_getP (D := (dC, dI)) (ci := 12) (v := .ref a_23) (C := RX12) (T := TX12) (N := 56) hx hb hU inlX12 hown hK hP mo0 hfo_151 rfl 21 (by decide) (hU _ wd_181) (fun _ h9 => h9) rfl dX12_laysWord_59 ?_
              refine lv_iload hx hb dX12_laysWord_62 (lv_at hl 0 rfl) ?_
              refine lv_iload_n hx hb dX12_laysWord_64 rfl (lv_at hl 2 rfl) ?_
              refine lv_aload_n hx hb dX12_laysWord_65 rfl (lv_at hl 3 rfl) ?_
              refine tk_getP (D := (dC, dI)) (ci := 12) (v := .ref a_2) (C := RX12) (T := TX12) (N := 56) hx hb hU inlX12 hown hK hP mo0 hfo_151 rfl 0 (by decide) (hU _ wd_169) (fun _ h9 => h9) rfl dX12_laysWord_66 ?_
              refine lv_iconst (v := 0) hx hb dX12_laysWord_69 (by decide) ?_
              refine tk_ildP hx hb hK hP 0 ma_2 hfo_150 rfl (vp_in_nI (n := 0) (by decide) (by decide)) dX12_laysWord_70 ?_
              refine tk_topi (y := x_60) ex_60.symm ?_
              refine lv_irem hx hb dX12_laysWord_71 (by rw [← Int32.toInt_inj, ti_0]; omega) ?_
              refine lv_topi (fun x_153 ex_153 => ?_)
              have bx_153 : (0 ≤ x_153.toInt ∧ x_153.toInt ≤ 7) := by rw [ex_153]; have h8 := rm_B (x := y_147) (y := x_60) (by omega) (by omega); constructor <;> omega
              refine lv_iconst (v := 1) hx hb dX12_laysWord_72 (by decide) ?_
              refine lv_iadd hx hb dX12_laysWord_73 ?_
              refine lv_topi (fun x_154 ex_154 => ?_)
              have hx_154 : x_154.toInt = x_153.toInt + 1 := by rw [ex_154, ad_I (by rw [ti_1]; omega) (by rw [ti_1]; omega), ti_1]
              have bx_154 : (1 ≤ x_154.toInt ∧ x_154.toInt ≤ 8) := by constructor <;> omega
              obtain ⟨g_156, hfo_155, hbg_156⟩ := un_589 (hG _ ma_23) ka_23
              refine tk_istP hx hb hK hP hD hS 0 ma_23 hfo_155 rfl (vp_in_iff.mpr (by constructor <;> omega)) dX12_laysWord_74 (fun H locs hP hD hS => ?_)
              obtain ⟨f_158, ef_158⟩ : ∃ y : Nat → va_E, y = va_up f_149 a_23 (.inl (cI, 16, .inl (upd g_156 (Int32.toNatClampNeg y_146) x_154))) := ⟨_, rfl⟩
              have hP : va_P (dC, dI) vwCl (va_pl L f_158) H := by rw [ef_158]; exact hP
              have hD : va_D (fun q => q ∈ L) (va_pl L f_158) := by rw [ef_158]; exact hD
              have hG : GI (okc cI cL cZ cR cG cH L kd) kd L f_158 := by rw [ef_158]; exact hG.set a_23 (mk_589 ka_23 ⟨_, rfl, okI_up hbg_156 (by constructor <;> omega) _⟩)
              have hfo_159 : f_158 a_2 = .inl (cI, 1560, .inl g_59) := by rw [ef_158, up_ne (kd_ne ka_23 ka_2 (by decide))]; exact hfo_150
              have hfo_160 : f_158 o0 = .inr (12, [.ref a_2, .ref a_3, .ref a_4, .int v_5, .ref a_6, .int v_7, .int v_8, .int v_87, .int v_88, .int v_89, .int v_90, .int v_13, .int v_14, .int v_15, .int v_16, .ref a_17, .ref a_18, .ref a_19, .ref a_20, .ref a_21, .ref a_22, .ref a_23, .ref a_24, .int v_103, .int v_104, .int v_27, .int v_106, .int v_29, .ref a_30, .int v_31, .ref a_32, .ref a_33, .int v_34, .int v_35, .ref a_36, .int v_37, .ref a_38, .ref a_39, .int v_40, .int v_119, .ref a_42, .ref a_43, .ref a_44, .int v_45, .ref a_46, .ref a_47, .ref a_48, .ref a_49, .ref a_50, .ref a_51, .ref a_52, .ref a_53, .ref a_54, .int v_55, .int v_134, .ref a_57]) := by rw [ef_158, up_ne (kd_ne ka_23 ko0 (by decide))]; exact hfo_151
              have hfr0 : ∀ b, kd b ≠ 12 → kd b ≠ 589 → f_158 b = f b := fun b q12 q589 => (congrFun ef_158 b).trans ((up_ne (fun e9 => q589 (by rw [e9]; exact ka_23))).trans (hfr0 b q12 q589))
              have hrA12 : ∀ b, kd b = 12 → ∀ j, fldR (f_158 b) j = fldR (f b) j := fun b kb j => (congrArg (fun x => fldR x j) ((congrFun ef_158 b).trans (up_ne (kd_ne ka_23 kb (by decide))))).trans (hrA12 b kb j)
              have hfA12 : ∀ b, kd b = 12 → ∀ j, j ≠ 23 → fldI (f_158 b) j = fldI (f b) j := fun b kb j n23 => (congrArg (fun x => fldI x j) ((congrFun ef_158 b).trans (up_ne (kd_ne ka_23 kb (by decide))))).trans (hfA12 b kb j n23)
              have hfo_161 : f_158 a_23 = .inl (cI, 16, .inl (upd g_156 (Int32.toNatClampNeg y_146) x_154)) := by rw [ef_158]; exact up_self
              refine lv_iload_n hx hb dX12_laysWord_75 rfl (lv_at hl 2 rfl) ?_
              refine lv_aload_n hx hb dX12_laysWord_76 rfl (lv_at hl 3 rfl) ?_
              refine tk_getP (D := (dC, dI)) (ci := 12) (v := .ref a_2) (C := RX12) (T := TX12) (N := 56) hx hb hU inlX12 hown hK hP mo0 hfo_160 rfl 0 (by decide) (hU _ wd_169) (fun _ h9 => h9) rfl dX12_laysWord_77 ?_
              refine lv_iconst (v := 0) hx hb dX12_laysWord_80 (by decide) ?_
              refine tk_ildP hx hb hK hP 0 ma_2 hfo_159 rfl (vp_in_nI (n := 0) (by decide) (by decide)) dX12_laysWord_81 ?_
              refine tk_topi (y := x_60) ex_60.symm ?_
              refine lv_idiv hx hb dX12_laysWord_82 (by rw [← Int32.toInt_inj, ti_0]; omega) ?_
              refine lv_topi (fun x_162 ex_162 => ?_)
              have bx_162 : (0 ≤ x_162.toInt ∧ x_162.toInt ≤ 583) := by rw [ex_162]; have h8 := dv_B (x := y_147) (y := x_60) (by omega) (by omega); constructor <;> omega
              refine lv_istore_n (lv' := [(2, .int x_162), (4, .int y_146), (3, .int y_74), (0, .ref o0), (1, .int p1)]) hx hb dX12_laysWord_83 rfl hl (by decide) rfl (fun ls hl => ?_)
              obtain ⟨x_163, ex_163⟩ : ∃ y : Int32, y_146 + (-1) = y := ⟨_, rfl⟩
              have hx_163 : x_163.toInt = y_146.toInt + (-1) := by rw [← ex_163, ad_I (by rw [ti_m1]; omega) (by rw [ti_m1]; omega), ti_m1]
              have bx_163 : ((-1) ≤ x_163.toInt ∧ x_163.toInt ≤ 1) := by constructor <;> omega
              refine lv_iinc (v := x_163) (lv' := [(4, .int x_163), (2, .int x_162), (3, .int y_74), (0, .ref o0), (1, .int p1)]) hx hb dX12_laysWord_84 hl (k := 1) rfl ex_163 (by decide) rfl (fun ls hl => ?_)
              refine lv_goto (tgt := 53) hx hb dX12_laysWord_87 (by decide) ?_
              exact ih_hloop_145 x_163 (by constructor <;> omega) x_162 (by constructor <;> omega) f_158 hG _ _ hP hS hD hfr0 hrA12 hfA12 hfo_159 hfo_160 (by omega) ls (lv_sub hl [0, 2, 1, 3, 4] rfl)
        exact hloop_145 4 x_137 (by constructor <;> omega) y_75 (by constructor <;> omega) f_77 hG _ _ hP hS hD hfr0 hrA12 hfA12 hfo_78 hfo_79 (by omega) ls hl
      · skip
        rw [Int32.lt_iff_toInt_lt] at c_136
        refine lv_iload_n hx hb dX12_laysWord_19 rfl (lv_at hl 1 rfl) ?_
        refine lv_iload_n hx hb dX12_laysWord_20 rfl (lv_at hl 0 rfl) ?_
        refine lv_isub hx hb dX12_laysWord_21 ?_
        refine lv_topi (fun x_164 ex_164 => ?_)
        have hx_164 : x_164.toInt = y_75.toInt - y_74.toInt := by rw [ex_164, sb_I (by omega) (by omega)]
        have bx_164 : ((-512) ≤ x_164.toInt ∧ x_164.toInt ≤ 583) := by constructor <;> omega
        have hclc_165 : (0 ≤ x_164.toInt ∧ x_164.toInt ≤ 583) := by constructor <;> omega
        refine lv_istore_n (lv' := [(2, .int x_164), (3, .int y_74), (0, .ref o0), (1, .int p1)]) hx hb dX12_laysWord_22 rfl hl (by decide) rfl (fun ls hl => ?_)
        refine lv_iload_n hx hb dX12_laysWord_23 rfl (lv_at hl 1 rfl) ?_
        refine lv_aload_n hx hb dX12_laysWord_24 rfl (lv_at hl 2 rfl) ?_
        refine tk_getP (D := (dC, dI)) (ci := 12) (v := .ref a_2) (C := RX12) (T := TX12) (N := 56) hx hb hU inlX12 hown hK hP mo0 hfo_79 rfl 0 (by decide) (hU _ wd_169) (fun _ h9 => h9) rfl dX12_laysWord_25 ?_
        refine lv_iconst (v := 0) hx hb dX12_laysWord_28 (by decide) ?_
        refine tk_ildP hx hb hK hP 0 ma_2 hfo_78 rfl (vp_in_nI (n := 0) (by decide) (by decide)) dX12_laysWord_29 ?_
        refine tk_topi (y := x_60) ex_60.symm ?_
        refine lv_imul hx hb dX12_laysWord_30 ?_
        refine lv_topi (fun x_166 ex_166 => ?_)
        have bx_166 : (0 ≤ x_166.toInt ∧ x_166.toInt ≤ 4096) := by rw [ex_166]; exact ml_B (a := 512) (b := 8) (by constructor <;> omega) (by constructor <;> omega) (by decide)
        have hmx_166 : x_166.toInt = y_74.toInt * x_60.toInt := by rw [ex_166]; exact ml_E (a := 512) (b := 8) (by constructor <;> omega) (by constructor <;> omega) (by decide)
        have hz1 : (y_74.toInt ≠ (g_59 0).toInt ∨ x_166.toInt = (g_59 0).toInt * (g_59 0).toInt) ∧ (y_74.toInt ≠ (g_59 0).toInt * (g_59 0).toInt ∨ x_166.toInt = (g_59 0).toInt * (g_59 0).toInt * (g_59 0).toInt) := by constructor; (· by_cases h9 : y_74.toInt = (g_59 0).toInt; (· right; rw [hmx_166, h9, hgx_60]); (· left; exact h9)); (· by_cases h9 : y_74.toInt = (g_59 0).toInt * (g_59 0).toInt; (· right; rw [hmx_166, h9, hgx_60]); (· left; exact h9))
        have hclx_166 : (0 ≤ x_166.toInt ∧ x_166.toInt ≤ 512) := by constructor <;> omega
        refine lv_istore_n (lv' := [(3, .int x_166), (2, .int x_164), (0, .ref o0), (1, .int p1)]) hx hb dX12_laysWord_31 rfl hl (by decide) rfl (fun ls hl => ?_)
        have hclc_167 : (1 ≤ v_103.toInt ∧ v_103.toInt ≤ 2) := by constructor <;> omega
        refine lv_aload_n hx hb dX12_laysWord_32 rfl (lv_at hl 2 rfl) ?_
        refine lv_dup hx hb dX12_laysWord_33 rfl ?_
        refine tk_getP (D := (dC, dI)) (ci := 12) (v := .int v_103) (C := RX12) (T := TX12) (N := 56) hx hb hU inlX12 hown hK hP mo0 hfo_79 rfl 23 (by decide) (hU _ wd_867) (fun _ h9 => h9) rfl dX12_laysWord_34 ?_
        refine lv_iconst (v := 1) hx hb dX12_laysWord_37 (by decide) ?_
        refine lv_iadd hx hb dX12_laysWord_38 ?_
        refine lv_topi (fun x_168 ex_168 => ?_)
        have hx_168 : x_168.toInt = v_103.toInt + 1 := by rw [ex_168, ad_I (by rw [ti_1]; omega) (by rw [ti_1]; omega), ti_1]
        have bx_168 : (2 ≤ x_168.toInt ∧ x_168.toInt ≤ 3) := by constructor <;> omega
        refine tk_putP (D := (dC, dI)) (ci := 12) (v := .int x_168) (ty := .int) (C := RX12) (T := TX12) (N := 56) hx hb hU inlX12 tyX12 tyX12_ok nmX12 hown hK hP hD hS mo0 hfo_79 rfl 23 (by decide) (hU _ wd_867) (fun _ h9 => h9) rfl (by decide +kernel) rfl rfl (Nat.le_of_ble_eq_true rfl) dX12_laysWord_39 (fun H locs hP hD hS => ?_)
        obtain ⟨f_170, ef_170⟩ : ∃ y : Nat → va_E, y = va_up f_77 o0 (.inr (12, [.ref a_2, .ref a_3, .ref a_4, .int v_5, .ref a_6, .int v_7, .int v_8, .int v_87, .int v_88, .int v_89, .int v_90, .int v_13, .int v_14, .int v_15, .int v_16, .ref a_17, .ref a_18, .ref a_19, .ref a_20, .ref a_21, .ref a_22, .ref a_23, .ref a_24, .int x_168, .int v_104, .int v_27, .int v_106, .int v_29, .ref a_30, .int v_31, .ref a_32, .ref a_33, .int v_34, .int v_35, .ref a_36, .int v_37, .ref a_38, .ref a_39, .int v_40, .int v_119, .ref a_42, .ref a_43, .ref a_44, .int v_45, .ref a_46, .ref a_47, .ref a_48, .ref a_49, .ref a_50, .ref a_51, .ref a_52, .ref a_53, .ref a_54, .int v_55, .int v_134, .ref a_57])) := ⟨_, rfl⟩
        have hP : va_P (dC, dI) vwCl (va_pl L f_170) H := by rw [ef_170]; exact hP
        have hD : va_D (fun q => q ∈ L) (va_pl L f_170) := by rw [ef_170]; exact hD
        have hG : GI (okc cI cL cZ cR cG cH L kd) kd L f_170 := by rw [ef_170]; exact hG.set o0 (mk_12 ko0 ⟨a_2, a_3, a_4, v_5, a_6, v_7, v_8, v_87, v_88, v_89, v_90, v_13, v_14, v_15, v_16, a_17, a_18, a_19, a_20, a_21, a_22, a_23, a_24, x_168, v_104, v_27, v_106, v_29, a_30, v_31, a_32, a_33, v_34, v_35, a_36, v_37, a_38, a_39, v_40, v_119, a_42, a_43, a_44, v_45, a_46, a_47, a_48, a_49, a_50, a_51, a_52, a_53, a_54, v_55, v_134, a_57, rfl, ⟨ma_2, ka_2⟩, ⟨ma_3, ka_3⟩, ⟨ma_4, ka_4⟩, (by constructor <;> omega), ⟨ma_6, ka_6⟩, (by constructor <;> omega), (by constructor <;> omega), (by constructor <;> omega), (by constructor <;> omega), (by constructor <;> omega), ⟨ma_17, ka_17⟩, ⟨ma_18, ka_18⟩, ⟨ma_19, ka_19⟩, ⟨ma_20, ka_20⟩, ⟨ma_21, ka_21⟩, ⟨ma_22, ka_22⟩, ⟨ma_23, ka_23⟩, ⟨ma_24, ka_24⟩, (by constructor <;> omega), (by constructor <;> omega), (by constructor <;> omega), ⟨ma_30, ka_30⟩, (by constructor <;> omega), ⟨ma_32, ka_32⟩, ⟨ma_33, ka_33⟩, (by constructor <;> omega), ⟨ma_36, ka_36⟩, (by constructor <;> omega), ⟨ma_38, ka_38⟩, ⟨ma_39, ka_39⟩, (by constructor <;> omega), ⟨ma_42, ka_42⟩, ⟨ma_43, ka_43⟩, ⟨ma_44, ka_44⟩, (by constructor <;> omega), ⟨ma_46, ka_46⟩, ⟨ma_47, ka_47⟩, ⟨ma_48, ka_48⟩, ⟨ma_49, ka_49⟩, ⟨ma_50, ka_50⟩, ⟨ma_51, ka_51⟩, ⟨ma_52, ka_52⟩, ⟨ma_53, ka_53⟩, ⟨ma_54, ka_54⟩, (by constructor <;> omega), ⟨ma_57, ka_57⟩⟩)
        have hfo_171 : f_170 a_2 = .inl (cI, 1560, .inl g_59) := by rw [ef_170, up_ne (kd_ne ko0 ka_2 (by decide))]; exact hfo_78
        have hfr0 : ∀ b, kd b ≠ 12 → kd b ≠ 589 → f_170 b = f b := fun b q12 q589 => (congrFun ef_170 b).trans ((up_ne (fun e9 => q12 (by rw [e9]; exact ko0))).trans (hfr0 b q12 q589))
        have hrA12 : ∀ b, kd b = 12 → ∀ j, fldR (f_170 b) j = fldR (f b) j := fun b kb j => ((congrArg (fun x => fldR x j) (congrFun ef_170 b)).trans (fra_up (fun j => by rw [hfo_79]; exact fr_set (k := 23) rfl rfl j) j b)).trans (hrA12 b kb j)
        have hfA12 : ∀ b, kd b = 12 → ∀ j, j ≠ 23 → fldI (f_170 b) j = fldI (f b) j := fun b kb j n23 => ((congrArg (fun x => fldI x j) (congrFun ef_170 b)).trans (fia_up (fun h9 => by rw [hfo_79]; exact fi_set (k := 23) rfl h9) n23 b)).trans (hfA12 b kb j n23)
        have hfo_172 : f_170 o0 = .inr (12, [.ref a_2, .ref a_3, .ref a_4, .int v_5, .ref a_6, .int v_7, .int v_8, .int v_87, .int v_88, .int v_89, .int v_90, .int v_13, .int v_14, .int v_15, .int v_16, .ref a_17, .ref a_18, .ref a_19, .ref a_20, .ref a_21, .ref a_22, .ref a_23, .ref a_24, .int x_168, .int v_104, .int v_27, .int v_106, .int v_29, .ref a_30, .int v_31, .ref a_32, .ref a_33, .int v_34, .int v_35, .ref a_36, .int v_37, .ref a_38, .ref a_39, .int v_40, .int v_119, .ref a_42, .ref a_43, .ref a_44, .int v_45, .ref a_46, .ref a_47, .ref a_48, .ref a_49, .ref a_50, .ref a_51, .ref a_52, .ref a_53, .ref a_54, .int v_55, .int v_134, .ref a_57]) := by rw [ef_170]; exact up_self
        refine lv_goto (tgt := 14) hx hb dX12_laysWord_42 (by decide) ?_
        exact ih_hloop_73 x_166 (by constructor <;> omega) x_164 (by constructor <;> omega) f_170 hG _ _ hP hS hD hfr0 hrA12 hfA12 hfo_171 x_168 (by rw [hfo_172]; rfl) (by omega) (by omega) (by omega) ls (lv_sub hl [0, 1, 2, 3] rfl)
  exact hloop_73 5 x_60 (by constructor <;> omega) p1 (by constructor <;> omega) f_63 hG _ _ hP hS hD hfr0 hrA12 hfA12 hfo_64 1 (by rw [hfo_65]; rfl) (by (try rw [ti_1]) <;> omega) (by (try rw [ti_1]) <;> omega) (by (try rw [ti_1]) <;> omega) ls hl
