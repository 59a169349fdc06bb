set_option maxHeartbeats 8000000 in
set_option maxRecDepth 100000 in
theorem s_X12_quarrel_k12 (l : Launch) (D : va_G) (cI cL cZ cR cG cH : ClassId) (Z : zT) (kd : Nat → Nat) (L : List Nat) (f : Nat → va_E) (hG : GI (okc cI cL cZ cR cG cH L kd) kd L f) (o0 : Nat) (mo0 : o0 ∈ L) (ko0 : kd o0 = 12) (p1 : Int32) (p2 : Int32) : mPI l D cI cL cZ cR cG cH Z yX12_quarrel cX12_quarrel 8 (some .int) 5 129 [.ref o0, .int p1, .int p2] L f (fun (r : Int32) (f9 : Nat → va_E) => GI (okc cI cL cZ cR cG cH L kd) kd L f9 ∧ ((-2147483648) ≤ r.toInt ∧ r.toInt ≤ 2147483647) ∧ (∀ b, kd b ≠ 600 → kd b ≠ 601 → f9 b = f b)) := by
  obtain ⟨dC, dI⟩ := D
  refine Met.ofW (cc := cX12_quarrel) (maxL := 8) (ret := (some .int)) (by decide) rfl ?_
  intro p e s m args below meth c s₁ B hml hv
  obtain ⟨rfl, hP, hK, hD0, hN, hZ⟩ := hv
  have hx := B.exec
  have hb := B.bytes
  have hr := B.returns
  have hU : ∀ w ∈ wsU, w.before _ s = true := fun w h => atoms_spec (ws := wU yX12_quarrel cX12_quarrel 8 (some .int)) B.pre w (List.mem_cons_of_mem _ h)
  have hown : s.vm.findClass RX12 = some m.cls := findClass_of_methodNamed B.named
  have hlocks := B.notSynchronized
  have hD := pl_in hD0
  have hS : va_S (fun q => q ∈ L) s.heap s.heap [] := va_S.rf
  have hl := lv_entry ([.ref o0, .int p1, .int p2]) (n := 8) (Nat.le_of_ble_eq_true rfl)
  rw [lg_entry_eq]
  generalize (lg_sl ([.ref o0, .int p1, .int p2]) ++ List.replicate (8 - (lg_sl ([.ref o0, .int p1, .int p2])).length) Slot.unset).toArray = ls at hl ⊢
  have hl : lv_has ls 8 [(0, .ref o0), (1, .int p1), (2, .int p2)] := hl
  have bp1 : ((-2147483648) ≤ p1.toInt ∧ p1.toInt ≤ 2147483647) := ⟨i32_lo _, i32_hi _⟩
  have bp2 : ((-2147483648) ≤ p2.toInt ∧ p2.toInt ≤ 2147483647) := ⟨i32_lo _, i32_hi _⟩
  have hfr0 : ∀ b, kd b ≠ 600 → kd b ≠ 601 → f b = f b := fun _ _ _ => rfl
  refine lv_aload_n hx hb dX12_quarrel_0 rfl (lv_at hl 0 rfl) ?_
  refine lv_iload_n hx hb dX12_quarrel_1 rfl (lv_at hl 1 rfl) ?_
  obtain ⟨a_1, a_2, a_3, v_4, a_5, v_6, v_7, v_8, v_9, v_10, v_11, v_12, v_13, v_14, v_15, a_16, a_17, a_18, a_19, a_20, a_21, a_22, a_23, v_24, v_25, v_26, v_27, v_28, a_29, v_30, a_31, a_32, v_33, v_34, a_35, v_36, a_37, a_38, v_39, v_40, a_41, a_42, a_43, v_44, a_45, a_46, a_47, a_48, a_49, a_50, a_51, a_52, a_53, v_54, v_55, a_56, hfo_57, fa_58⟩ := un12 (hG _ mo0) ko0
  refine tk_ViP (As := [.int p1]) (rest := []) (n := 1) hx hb hml hown hU hN hZ (s_X12_isRule_k12 l (dC, dI) cI cL cZ cR cG cH Z kd L f hG o0 mo0 ko0 p1) wd_1289 wd_1290 wd_1291 wd_5 wd_1292 (by decide +kernel) ⟨Nat.le_of_ble_eq_true rfl, Nat.le_of_ble_eq_true rfl⟩ hK hP hD hS mo0 hfo_57 12 rfl rfl rfl hl.1 rfl (Nat.le_of_ble_eq_true rfl) dX12_quarrel_2 ⟨Nat.le_of_ble_eq_true rfl, Nat.le_of_ble_eq_true rfl⟩ (fun x_59 f_60 H locs hw hP hD hS => ?_)
  obtain ⟨rfl, bx_59, relx_59⟩ := hw
  refine lv_if_eq (tgt := 30) hx hb dX12_quarrel_5 (by decide) (fun c_62 => ?_) (fun c_62 => ?_)
  · skip
    rw [← Int32.toInt_inj, ti_0] at c_62
    refine lv_iconst (v := (-1)) hx hb dX12_quarrel_30 (by decide) ?_
    exact W.iret (v := (-1)) hx hb hr (fun t ht hW => ⟨⟨(-1), f, rfl, ⟨hG, (by decide), hfr0⟩, by rw [ht]; exact hP, va_K.moved hW.alike hK, pl_in hD⟩, hS.F ht⟩) hS.2.2 dX12_quarrel_31
  · skip
    rw [← Int32.toInt_inj, ti_0] at c_62
    refine lv_aload_n hx hb dX12_quarrel_8 rfl (lv_at hl 0 rfl) ?_
    refine lv_iload_n hx hb dX12_quarrel_9 rfl (lv_at hl 2 rfl) ?_
    refine tk_ViP (As := [.int p2]) (rest := []) (n := 1) hx hb hml hown hU hN hZ (s_X12_isRule_k12 l (dC, dI) cI cL cZ cR cG cH Z kd L f hG o0 mo0 ko0 p2) wd_1289 wd_1290 wd_1291 wd_5 wd_1292 (by decide +kernel) ⟨Nat.le_of_ble_eq_true rfl, Nat.le_of_ble_eq_true rfl⟩ hK hP hD hS mo0 hfo_57 12 rfl rfl rfl hl.1 rfl (Nat.le_of_ble_eq_true rfl) dX12_quarrel_10 ⟨Nat.le_of_ble_eq_true rfl, Nat.le_of_ble_eq_true rfl⟩ (fun x_63 f_64 H locs hw hP hD hS => ?_)
    obtain ⟨rfl, bx_63, relx_63⟩ := hw
    refine lv_if_eq (tgt := 30) hx hb dX12_quarrel_13 (by decide) (fun c_66 => ?_) (fun c_66 => ?_)
    · skip
      rw [← Int32.toInt_inj, ti_0] at c_66
      refine lv_iconst (v := (-1)) hx hb dX12_quarrel_30 (by decide) ?_
      exact W.iret (v := (-1)) hx hb hr (fun t ht hW => ⟨⟨(-1), f, rfl, ⟨hG, (by decide), hfr0⟩, by rw [ht]; exact hP, va_K.moved hW.alike hK, pl_in hD⟩, hS.F ht⟩) hS.2.2 dX12_quarrel_31
    · skip
      rw [← Int32.toInt_inj, ti_0] at c_66
      refine lv_iload_n hx hb dX12_quarrel_16 rfl (lv_at hl 1 rfl) ?_
      refine lv_iload_n hx hb dX12_quarrel_17 rfl (lv_at hl 2 rfl) ?_
      refine lv_icmp_eq (tgt := 30) hx hb dX12_quarrel_18 (by decide) (fun c_67 => ?_) (fun c_67 => ?_)
      · skip
        rw [← Int32.toInt_inj] at c_67
        refine lv_iconst (v := (-1)) hx hb dX12_quarrel_30 (by decide) ?_
        exact W.iret (v := (-1)) hx hb hr (fun t ht hW => ⟨⟨(-1), f, rfl, ⟨hG, (by decide), hfr0⟩, by rw [ht]; exact hP, va_K.moved hW.alike hK, pl_in hD⟩, hS.F ht⟩) hS.2.2 dX12_quarrel_31
      · skip
        rw [← Int32.toInt_inj] at c_67
        refine lv_aload_n hx hb dX12_quarrel_21 rfl (lv_at hl 0 rfl) ?_
        refine lv_iload_n hx hb dX12_quarrel_22 rfl (lv_at hl 1 rfl) ?_
        refine lv_iload_n hx hb dX12_quarrel_23 rfl (lv_at hl 2 rfl) ?_
        refine tk_ViP (As := [.int p1, .int p2]) (rest := []) (n := 2) hx hb hml hown hU hN hZ (s_X12_canQuarrel_k12 l (dC, dI) cI cL cZ cR cG cH Z kd L f hG o0 mo0 ko0 p1 (by constructor <;> omega) p2 (by constructor <;> omega)) wd_1293 wd_1294 wd_1295 wd_5 wd_1296 (by decide +kernel) ⟨Nat.le_of_ble_eq_true rfl, Nat.le_of_ble_eq_true rfl⟩ hK hP hD hS mo0 hfo_57 12 rfl rfl rfl hl.1 rfl (Nat.le_of_ble_eq_true rfl) dX12_quarrel_24 ⟨Nat.le_of_ble_eq_true rfl, Nat.le_of_ble_eq_true rfl⟩ (fun x_68 f_69 H locs hw hP hD hS => ?_)
        obtain ⟨rfl, bx_68⟩ := hw
        refine lv_if_ne (tgt := 32) hx hb dX12_quarrel_27 (by decide) (fun c_71 => ?_) (fun c_71 => ?_)
        · skip
          rw [← Int32.toInt_inj, ti_0] at c_71
          refine lv_iconst (v := (-1)) hx hb dX12_quarrel_32 (by decide) ?_
          refine lv_istore_n (lv' := [(3, .int (-1)), (0, .ref o0), (1, .int p1), (2, .int p2)]) hx hb dX12_quarrel_33 rfl hl (by decide) rfl (fun ls hl => ?_)
          refine lv_iconst (v := 0) hx hb dX12_quarrel_34 (by decide) ?_
          refine lv_istore (lv' := [(4, .int 0), (3, .int (-1)), (0, .ref o0), (1, .int p1), (2, .int p2)]) hx hb dX12_quarrel_35 hl (by decide) rfl (fun ls hl => ?_)
          have hloop_90 : ∀ (n : Nat), ∀ (y_91 : Int32), (0 ≤ y_91.toInt ∧ y_91.toInt ≤ 3) → ∀ (y_92 : Int32), ((-2147483648) ≤ y_92.toInt ∧ y_92.toInt ≤ 2147483647) → ∀ (f_94 : Nat → va_E), GI (okc cI cL cZ cR cG cH L kd) kd L f_94 → ∀ (H : Heap) (locs : List Loc), va_P (dC, dI) vwCl (va_pl L f_94) H → va_S (fun q => q ∈ L) s.heap H locs → va_D (fun q => q ∈ L) (va_pl L f_94) → (∀ b, kd b ≠ 600 → kd b ≠ 601 → f_94 b = f b) → (f_94 o0 = .inr (12, [.ref a_1, .ref a_2, .ref a_3, .int v_4, .ref a_5, .int v_6, .int v_7, .int v_8, .int v_9, .int v_10, .int v_11, .int v_12, .int v_13, .int v_14, .int v_15, .ref a_16, .ref a_17, .ref a_18, .ref a_19, .ref a_20, .ref a_21, .ref a_22, .ref a_23, .int v_24, .int v_25, .int v_26, .int v_27, .int v_28, .ref a_29, .int v_30, .ref a_31, .ref a_32, .int v_33, .int v_34, .ref a_35, .int v_36, .ref a_37, .ref a_38, .int v_39, .int v_40, .ref a_41, .ref a_42, .ref a_43, .int v_44, .ref a_45, .ref a_46, .ref a_47, .ref a_48, .ref a_49, .ref a_50, .ref a_51, .ref a_52, .ref a_53, .int v_54, .int v_55, .ref a_56])) → 3 - y_91.toInt < (n : Int) → ∀ (ls : Array Slot), lv_has ls 8 [(4, .int y_91), (3, .int y_92), (0, .ref o0), (1, .int p1), (2, .int p2)] → W p l e (headSpec (wU yX12_quarrel cX12_quarrel 8 (some .int)) { frames := 5, cells := 0, slots := 0, locals := 129 }).room s m [.ref o0, .int p1, .int p2].toArray below meth c H locs 0 0 (MQ below (va_Qi (fun (r : Int32) (f9 : Nat → va_E) => GI (okc cI cL cZ cR cG cH L kd) kd L f9 ∧ ((-2147483648) ≤ r.toInt ∧ r.toInt ≤ 2147483647) ∧ (∀ b, kd b ≠ 600 → kd b ≠ 601 → f9 b = f b)) (qP (dC, dI) cI cL cZ cR cG cH L) (fun q => q ∈ L)) [.ref o0, .int p1, .int p2].toArray s 0 0 (fun q => q ∈ L)) (F0 m 37 ls []) := by
            intro n
            induction n with
            | zero => intro y_91 by_91 y_92 by_92 f_94 hG H locs hP hS hD hfr0 hfo_95 hmuhloop_90 ls hl; exfalso; omega
            | succ n ih_hloop_90 =>
              intro y_91 by_91 y_92 by_92 f_94 hG H locs hP hS hD hfr0 hfo_95 hmuhloop_90 ls hl
              refine lv_iload hx hb dX12_quarrel_37 (lv_at hl 0 rfl) ?_
              refine lv_aload_n hx hb dX12_quarrel_39 rfl (lv_at hl 2 rfl) ?_
              refine lv_iload_n hx hb dX12_quarrel_40 rfl (lv_at hl 3 rfl) ?_
              refine lv_iconst (v := 3) hx hb dX12_quarrel_41 (by decide) ?_
              refine tk_ViP (As := [.int p1, .int 3]) (rest := [.int y_91]) (n := 2) hx hb hml hown hU hN hZ (s_X12_ofRule_k12_c3_3 l (dC, dI) cI cL cZ cR cG cH Z kd L f_94 hG o0 mo0 ko0 p1 (by constructor <;> omega)) wd_894 wd_895 wd_896 wd_5 wd_897 (by decide +kernel) ⟨Nat.le_of_ble_eq_true rfl, Nat.le_of_ble_eq_true rfl⟩ hK hP hD hS mo0 hfo_95 12 rfl rfl rfl hl.1 rfl (Nat.le_of_ble_eq_true rfl) dX12_quarrel_42 ⟨Nat.le_of_ble_eq_true rfl, Nat.le_of_ble_eq_true rfl⟩ (fun x_96 f_97 H locs hw hP hD hS => ?_)
              obtain ⟨rfl, bx_96⟩ := hw
              refine lv_icmp_ge (tgt := 155) hx hb dX12_quarrel_45 (by decide) (fun c_99 => ?_) (fun c_99 => ?_)
              · skip
                rw [Int32.le_iff_toInt_le] at c_99
                refine lv_iload_n hx hb dX12_quarrel_155 rfl (lv_at hl 1 rfl) ?_
                exact W.iret (v := y_92) hx hb hr (fun t ht hW => ⟨⟨y_92, f_94, rfl, ⟨hG, (by constructor <;> omega), hfr0⟩, by rw [ht]; exact hP, va_K.moved hW.alike hK, pl_in hD⟩, hS.F ht⟩) hS.2.2 dX12_quarrel_156
              · skip
                rw [Int32.le_iff_toInt_le] at c_99
                refine lv_iconst (v := 0) hx hb dX12_quarrel_48 (by decide) ?_
                refine lv_istore (lv' := [(5, .int 0), (4, .int y_91), (3, .int y_92), (0, .ref o0), (1, .int p1), (2, .int p2)]) hx hb dX12_quarrel_49 hl (by decide) rfl (fun ls hl => ?_)
                have hloop_118 : ∀ (n : Nat), ∀ (y_119 : Int32), (0 ≤ y_119.toInt ∧ y_119.toInt ≤ 3) → ∀ (y_120 : Int32), ((-2147483648) ≤ y_120.toInt ∧ y_120.toInt ≤ 2147483647) → ∀ (f_122 : Nat → va_E), GI (okc cI cL cZ cR cG cH L kd) kd L f_122 → ∀ (H : Heap) (locs : List Loc), va_P (dC, dI) vwCl (va_pl L f_122) H → va_S (fun q => q ∈ L) s.heap H locs → va_D (fun q => q ∈ L) (va_pl L f_122) → (∀ b, kd b ≠ 600 → kd b ≠ 601 → f_122 b = f b) → (f_122 o0 = .inr (12, [.ref a_1, .ref a_2, .ref a_3, .int v_4, .ref a_5, .int v_6, .int v_7, .int v_8, .int v_9, .int v_10, .int v_11, .int v_12, .int v_13, .int v_14, .int v_15, .ref a_16, .ref a_17, .ref a_18, .ref a_19, .ref a_20, .ref a_21, .ref a_22, .ref a_23, .int v_24, .int v_25, .int v_26, .int v_27, .int v_28, .ref a_29, .int v_30, .ref a_31, .ref a_32, .int v_33, .int v_34, .ref a_35, .int v_36, .ref a_37, .ref a_38, .int v_39, .int v_40, .ref a_41, .ref a_42, .ref a_43, .int v_44, .ref a_45, .ref a_46, .ref a_47, .ref a_48, .ref a_49, .ref a_50, .ref a_51, .ref a_52, .ref a_53, .int v_54, .int v_55, .ref a_56])) → 3 - y_119.toInt < (n : Int) → ∀ (ls : Array Slot), lv_has ls 8 [(5, .int y_119), (4, .int y_91), (3, .int y_120), (0, .ref o0), (1, .int p1), (2, .int p2)] → W p l e (headSpec (wU yX12_quarrel cX12_quarrel 8 (some .int)) { frames := 5, cells := 0, slots := 0, locals := 129 }).room s m [.ref o0, .int p1, .int p2].toArray below meth c H locs 0 0 (MQ below (va_Qi (fun (r : Int32) (f9 : Nat → va_E) => GI (okc cI cL cZ cR cG cH L kd) kd L f9 ∧ ((-2147483648) ≤ r.toInt ∧ r.toInt ≤ 2147483647) ∧ (∀ b, kd b ≠ 600 → kd b ≠ 601 → f9 b = f b)) (qP (dC, dI) cI cL cZ cR cG cH L) (fun q => q ∈ L)) [.ref o0, .int p1, .int p2].toArray s 0 0 (fun q => q ∈ L)) (F0 m 51 ls []) := by
                  intro n
                  induction n with
                  | zero => intro y_119 by_119 y_120 by_120 f_122 hG H locs hP hS hD hfr0 hfo_123 hmuhloop_118 ls hl; exfalso; omega
                  | succ n ih_hloop_118 =>
                    intro y_119 by_119 y_120 by_120 f_122 hG H locs hP hS hD hfr0 hfo_123 hmuhloop_118 ls hl
                    refine lv_iload hx hb dX12_quarrel_51 (lv_at hl 0 rfl) ?_
                    refine lv_aload_n hx hb dX12_quarrel_53 rfl (lv_at hl 3 rfl) ?_
                    refine lv_iload_n hx hb dX12_quarrel_54 rfl (lv_at hl 5 rfl) ?_
                    refine lv_iconst (v := 3) hx hb dX12_quarrel_55 (by decide) ?_
                    refine tk_ViP (As := [.int p2, .int 3]) (rest := [.int y_119]) (n := 2) hx hb hml hown hU hN hZ (s_X12_ofRule_k12_c3_3 l (dC, dI) cI cL cZ cR cG cH Z kd L f_122 hG o0 mo0 ko0 p2 (by constructor <;> omega)) wd_894 wd_895 wd_896 wd_5 wd_897 (by decide +kernel) ⟨Nat.le_of_ble_eq_true rfl, Nat.le_of_ble_eq_true rfl⟩ hK hP hD hS mo0 hfo_123 12 rfl rfl rfl hl.1 rfl (Nat.le_of_ble_eq_true rfl) dX12_quarrel_56 ⟨Nat.le_of_ble_eq_true rfl, Nat.le_of_ble_eq_true rfl⟩ (fun x_124 f_125 H locs hw hP hD hS => ?_)
                    obtain ⟨rfl, bx_124⟩ := hw
                    refine lv_icmp_ge (tgt := 149) hx hb dX12_quarrel_59 (by decide) (fun c_127 => ?_) (fun c_127 => ?_)
                    · skip
                      rw [Int32.le_iff_toInt_le] at c_127
                      obtain ⟨x_128, ex_128⟩ : ∃ y : Int32, y_91 + 1 = y := ⟨_, rfl⟩
                      have hx_128 : x_128.toInt = y_91.toInt + 1 := by rw [← ex_128, ad_I (by rw [ti_1]; omega) (by rw [ti_1]; omega), ti_1]
                      have bx_128 : (1 ≤ x_128.toInt ∧ x_128.toInt ≤ 3) := by constructor <;> omega
                      refine lv_iinc (v := x_128) (lv' := [(4, .int x_128), (5, .int y_119), (3, .int y_120), (0, .ref o0), (1, .int p1), (2, .int p2)]) hx hb dX12_quarrel_149 hl (k := 1) rfl ex_128 (by decide) rfl (fun ls hl => ?_)
                      refine lv_goto (tgt := 37) hx hb dX12_quarrel_152 (by decide) ?_
                      exact ih_hloop_90 x_128 (by constructor <;> omega) y_120 (by constructor <;> omega) f_122 hG _ _ hP hS hD hfr0 hfo_123 (by omega) ls (lv_sub hl [0, 2, 3, 4, 5] rfl)
                    · skip
                      rw [Int32.le_iff_toInt_le] at c_127
                      refine lv_aload_n hx hb dX12_quarrel_62 rfl (lv_at hl 3 rfl) ?_
                      refine lv_iconst (v := 3) hx hb dX12_quarrel_63 (by decide) ?_
                      refine lv_iload_n hx hb dX12_quarrel_64 rfl (lv_at hl 4 rfl) ?_
                      refine lv_imul hx hb dX12_quarrel_65 ?_
                      refine lv_topi (fun x_129 ex_129 => ?_)
                      have hx_129 : x_129.toInt = 3 * p1.toInt := by rw [ex_129, ml_I (by rw [ti_3]; omega) (by rw [ti_3]; omega), ti_3]
                      have bx_129 : (0 ≤ x_129.toInt ∧ x_129.toInt ≤ 21) := by constructor <;> omega
                      refine lv_iload hx hb dX12_quarrel_66 (lv_at hl 1 rfl) ?_
                      refine lv_iadd hx hb dX12_quarrel_68 ?_
                      refine lv_topi (fun x_130 ex_130 => ?_)
                      have hx_130 : x_130.toInt = x_129.toInt + y_91.toInt := by rw [ex_130, ad_I (by omega) (by omega)]
                      have bx_130 : (0 ≤ x_130.toInt ∧ x_130.toInt ≤ 23) := by constructor <;> omega
                      refine lv_iconst (v := 3) hx hb dX12_quarrel_69 (by decide) ?_
                      refine lv_iload_n hx hb dX12_quarrel_70 rfl (lv_at hl 5 rfl) ?_
                      refine lv_imul hx hb dX12_quarrel_71 ?_
                      refine lv_topi (fun x_131 ex_131 => ?_)
                      have hx_131 : x_131.toInt = 3 * p2.toInt := by rw [ex_131, ml_I (by rw [ti_3]; omega) (by rw [ti_3]; omega), ti_3]
                      have bx_131 : (0 ≤ x_131.toInt ∧ x_131.toInt ≤ 21) := by constructor <;> omega
                      refine lv_iload hx hb dX12_quarrel_72 (lv_at hl 0 rfl) ?_
                      refine lv_iadd hx hb dX12_quarrel_74 ?_
                      refine lv_topi (fun x_132 ex_132 => ?_)
                      have hx_132 : x_132.toInt = x_131.toInt + y_119.toInt := by rw [ex_132, ad_I (by omega) (by omega)]
                      have bx_132 : (0 ≤ x_132.toInt ∧ x_132.toInt ≤ 23) := by constructor <;> omega
                      refine lv_iconst (v := 0) hx hb dX12_quarrel_75 (by decide) ?_
                      refine tk_ViP (As := [.int x_130, .int x_132, .int 0]) (rest := []) (n := 3) hx hb hml hown hU hN hZ (s_X12_fewestPairs_k12 l (dC, dI) cI cL cZ cR cG cH Z kd L f_122 hG o0 mo0 ko0 x_130 (by constructor <;> omega) x_132 (by constructor <;> omega) 0 (by decide)) wd_1301 wd_1302 wd_1303 wd_5 wd_1304 (by decide +kernel) ⟨Nat.le_of_ble_eq_true rfl, Nat.le_of_ble_eq_true rfl⟩ hK hP hD hS mo0 hfo_123 12 rfl rfl rfl hl.1 rfl (Nat.le_of_ble_eq_true rfl) dX12_quarrel_76 ⟨Nat.le_of_ble_eq_true rfl, Nat.le_of_ble_eq_true rfl⟩ (fun x_133 f_134 H locs hw hP hD hS => ?_)
                      obtain ⟨hG, bx_133, hkc_135⟩ := hw
                      have hfo_137 : f_134 o0 = .inr (12, [.ref a_1, .ref a_2, .ref a_3, .int v_4, .ref a_5, .int v_6, .int v_7, .int v_8, .int v_9, .int v_10, .int v_11, .int v_12, .int v_13, .int v_14, .int v_15, .ref a_16, .ref a_17, .ref a_18, .ref a_19, .ref a_20, .ref a_21, .ref a_22, .ref a_23, .int v_24, .int v_25, .int v_26, .int v_27, .int v_28, .ref a_29, .int v_30, .ref a_31, .ref a_32, .int v_33, .int v_34, .ref a_35, .int v_36, .ref a_37, .ref a_38, .int v_39, .int v_40, .ref a_41, .ref a_42, .ref a_43, .int v_44, .ref a_45, .ref a_46, .ref a_47, .ref a_48, .ref a_49, .ref a_50, .ref a_51, .ref a_52, .ref a_53, .int v_54, .int v_55, .ref a_56]) := by rw [hkc_135 o0 (by rw [ko0]; decide) (by rw [ko0]; decide)]; exact hfo_123
                      have hfr0 : ∀ b, kd b ≠ 600 → kd b ≠ 601 → f_134 b = f b := fun b q600 q601 => (hkc_135 b q600 q601).trans (hfr0 b q600 q601)
                      refine lv_istore (lv' := [(6, .int x_133), (5, .int y_119), (4, .int y_91), (3, .int y_120), (0, .ref o0), (1, .int p1), (2, .int p2)]) hx hb dX12_quarrel_79 hl (by decide) rfl (fun ls hl => ?_)
                      refine lv_aload_n hx hb dX12_quarrel_81 rfl (lv_at hl 4 rfl) ?_
                      refine lv_iconst (v := 3) hx hb dX12_quarrel_82 (by decide) ?_
                      refine lv_iload_n hx hb dX12_quarrel_83 rfl (lv_at hl 5 rfl) ?_
                      refine lv_imul hx hb dX12_quarrel_84 ?_
                      refine lv_topi (fun x_138 ex_138 => ?_)
                      have hx_138 : x_138.toInt = 3 * p1.toInt := by rw [ex_138, ml_I (by rw [ti_3]; omega) (by rw [ti_3]; omega), ti_3]
                      have bx_138 : (0 ≤ x_138.toInt ∧ x_138.toInt ≤ 21) := by constructor <;> omega
                      refine lv_iload hx hb dX12_quarrel_85 (lv_at hl 2 rfl) ?_
                      refine lv_iadd hx hb dX12_quarrel_87 ?_
                      refine lv_topi (fun x_139 ex_139 => ?_)
                      have hx_139 : x_139.toInt = x_138.toInt + y_91.toInt := by rw [ex_139, ad_I (by omega) (by omega)]
                      have bx_139 : (0 ≤ x_139.toInt ∧ x_139.toInt ≤ 23) := by constructor <;> omega
                      refine lv_iconst (v := 3) hx hb dX12_quarrel_88 (by decide) ?_
                      refine lv_iload_n hx hb dX12_quarrel_89 rfl (lv_at hl 6 rfl) ?_
                      refine lv_imul hx hb dX12_quarrel_90 ?_
                      refine lv_topi (fun x_140 ex_140 => ?_)
                      have hx_140 : x_140.toInt = 3 * p2.toInt := by rw [ex_140, ml_I (by rw [ti_3]; omega) (by rw [ti_3]; omega), ti_3]
                      have bx_140 : (0 ≤ x_140.toInt ∧ x_140.toInt ≤ 21) := by constructor <;> omega
                      refine lv_iload hx hb dX12_quarrel_91 (lv_at hl 1 rfl) ?_
                      refine lv_iadd hx hb dX12_quarrel_93 ?_
                      refine lv_topi (fun x_141 ex_141 => ?_)
                      have hx_141 : x_141.toInt = x_140.toInt + y_119.toInt := by rw [ex_141, ad_I (by omega) (by omega)]
                      have bx_141 : (0 ≤ x_141.toInt ∧ x_141.toInt ≤ 23) := by constructor <;> omega
                      refine lv_iconst (v := 1) hx hb dX12_quarrel_94 (by decide) ?_
                      refine tk_ViP (As := [.int x_139, .int x_141, .int 1]) (rest := []) (n := 3) hx hb hml hown hU hN hZ (s_X12_fewestPairs_k12 l (dC, dI) cI cL cZ cR cG cH Z kd L f_134 hG o0 mo0 ko0 x_139 (by constructor <;> omega) x_141 (by constructor <;> omega) 1 (by decide)) wd_1301 wd_1302 wd_1303 wd_5 wd_1304 (by decide +kernel) ⟨Nat.le_of_ble_eq_true rfl, Nat.le_of_ble_eq_true rfl⟩ hK hP hD hS mo0 hfo_137 12 rfl rfl rfl hl.1 rfl (Nat.le_of_ble_eq_true rfl) dX12_quarrel_95 ⟨Nat.le_of_ble_eq_true rfl, Nat.le_of_ble_eq_true rfl⟩ (fun x_142 f_143 H locs hw hP hD hS => ?_)
                      obtain ⟨hG, bx_142, hkc_144⟩ := hw
                      have hfo_146 : f_143 o0 = .inr (12, [.ref a_1, .ref a_2, .ref a_3, .int v_4, .ref a_5, .int v_6, .int v_7, .int v_8, .int v_9, .int v_10, .int v_11, .int v_12, .int v_13, .int v_14, .int v_15, .ref a_16, .ref a_17, .ref a_18, .ref a_19, .ref a_20, .ref a_21, .ref a_22, .ref a_23, .int v_24, .int v_25, .int v_26, .int v_27, .int v_28, .ref a_29, .int v_30, .ref a_31, .ref a_32, .int v_33, .int v_34, .ref a_35, .int v_36, .ref a_37, .ref a_38, .int v_39, .int v_40, .ref a_41, .ref a_42, .ref a_43, .int v_44, .ref a_45, .ref a_46, .ref a_47, .ref a_48, .ref a_49, .ref a_50, .ref a_51, .ref a_52, .ref a_53, .int v_54, .int v_55, .ref a_56]) := by rw [hkc_144 o0 (by rw [ko0]; decide) (by rw [ko0]; decide)]; exact hfo_137
                      have hfr0 : ∀ b, kd b ≠ 600 → kd b ≠ 601 → f_143 b = f b := fun b q600 q601 => (hkc_144 b q600 q601).trans (hfr0 b q600 q601)
                      refine lv_istore (lv' := [(7, .int x_142), (6, .int x_133), (5, .int y_119), (4, .int y_91), (3, .int y_120), (0, .ref o0), (1, .int p1), (2, .int p2)]) hx hb dX12_quarrel_98 hl (by decide) rfl (fun ls hl => ?_)
                      refine lv_iload hx hb dX12_quarrel_100 (lv_at hl 1 rfl) ?_
                      refine lv_iconst (v := (-1)) hx hb dX12_quarrel_102 (by decide) ?_
                      have hcut_148 : ∀ (y_147 : Int32), ((-2147483648) ≤ y_147.toInt ∧ y_147.toInt ≤ 2147483647) → ∀ (ls : Array Slot), lv_has ls 8 [(7, .int x_142), (6, .int x_133), (5, .int y_119), (4, .int y_91), (3, .int y_147), (0, .ref o0), (1, .int p1), (2, .int p2)] → W p l e (headSpec (wU yX12_quarrel cX12_quarrel 8 (some .int)) { frames := 5, cells := 0, slots := 0, locals := 129 }).room s m [.ref o0, .int p1, .int p2].toArray below meth c H locs 0 0 (MQ below (va_Qi (fun (r : Int32) (f9 : Nat → va_E) => GI (okc cI cL cZ cR cG cH L kd) kd L f9 ∧ ((-2147483648) ≤ r.toInt ∧ r.toInt ≤ 2147483647) ∧ (∀ b, kd b ≠ 600 → kd b ≠ 601 → f9 b = f b)) (qP (dC, dI) cI cL cZ cR cG cH L) (fun q => q ∈ L)) [.ref o0, .int p1, .int p2].toArray s 0 0 (fun q => q ∈ L)) (F0 m 143 ls []) := by
                        intro y_147 by_147 ls hl
                        obtain ⟨x_149, ex_149⟩ : ∃ y : Int32, y_119 + 1 = y := ⟨_, rfl⟩
                        have hx_149 : x_149.toInt = y_119.toInt + 1 := by rw [← ex_149, ad_I (by rw [ti_1]; omega) (by rw [ti_1]; omega), ti_1]
                        have bx_149 : (1 ≤ x_149.toInt ∧ x_149.toInt ≤ 3) := by constructor <;> omega
                        refine lv_iinc (v := x_149) (lv' := [(5, .int x_149), (7, .int x_142), (6, .int x_133), (4, .int y_91), (3, .int y_147), (0, .ref o0), (1, .int p1), (2, .int p2)]) hx hb dX12_quarrel_143 hl (k := 2) rfl ex_149 (by decide) rfl (fun ls hl => ?_)
                        refine lv_goto (tgt := 51) hx hb dX12_quarrel_146 (by decide) ?_
                        exact ih_hloop_118 x_149 (by constructor <;> omega) y_147 (by constructor <;> omega) f_143 hG _ _ hP hS hD hfr0 hfo_146 (by omega) ls (lv_sub hl [0, 3, 4, 5, 6, 7] rfl)
                      refine lv_icmp_eq (tgt := 143) hx hb dX12_quarrel_103 (by decide) (fun c_150 => ?_) (fun c_150 => ?_)
                      · skip
                        rw [← Int32.toInt_inj, ti_m1] at c_150
                        exact hcut_148 y_120 (by constructor <;> omega) ls (lv_sub hl [0, 1, 2, 3, 4, 5, 6, 7] rfl)
                      · skip
                        rw [← Int32.toInt_inj, ti_m1] at c_150
                        refine lv_iload hx hb dX12_quarrel_106 (lv_at hl 0 rfl) ?_
                        refine lv_iconst (v := (-1)) hx hb dX12_quarrel_108 (by decide) ?_
                        refine lv_icmp_ne (tgt := 115) hx hb dX12_quarrel_109 (by decide) (fun c_151 => ?_) (fun c_151 => ?_)
                        · skip
                          rw [← Int32.toInt_inj, ti_m1] at c_151
                          refine lv_iload_n hx hb dX12_quarrel_115 rfl (lv_at hl 4 rfl) ?_
                          refine lv_iconst (v := (-1)) hx hb dX12_quarrel_116 (by decide) ?_
                          have hcut_153 : ∀ (y_152 : Int32), ((-2147483648) ≤ y_152.toInt ∧ y_152.toInt ≤ 9) → ∀ (ls : Array Slot), lv_has ls 8 [(7, .int x_142), (6, .int x_133), (5, .int y_119), (4, .int y_91), (3, .int y_120), (0, .ref o0), (1, .int p1), (2, .int p2)] → W p l e (headSpec (wU yX12_quarrel cX12_quarrel 8 (some .int)) { frames := 5, cells := 0, slots := 0, locals := 129 }).room s m [.ref o0, .int p1, .int p2].toArray below meth c H locs 0 0 (MQ below (va_Qi (fun (r : Int32) (f9 : Nat → va_E) => GI (okc cI cL cZ cR cG cH L kd) kd L f9 ∧ ((-2147483648) ≤ r.toInt ∧ r.toInt ≤ 2147483647) ∧ (∀ b, kd b ≠ 600 → kd b ≠ 601 → f9 b = f b)) (qP (dC, dI) cI cL cZ cR cG cH L) (fun q => q ∈ L)) [.ref o0, .int p1, .int p2].toArray s 0 0 (fun q => q ∈ L)) (F0 m 142 ls [.int y_152]) := by
                            intro y_152 by_152 ls hl
                            refine lv_istore_n (lv' := [(3, .int y_152), (7, .int x_142), (6, .int x_133), (5, .int y_119), (4, .int y_91), (0, .ref o0), (1, .int p1), (2, .int p2)]) hx hb dX12_quarrel_142 rfl hl (by decide) rfl (fun ls hl => ?_)
                            exact hcut_148 y_152 (by constructor <;> omega) ls (lv_sub hl [1, 2, 3, 4, 0, 5, 6, 7] rfl)
                          refine lv_icmp_eq (tgt := 131) hx hb dX12_quarrel_117 (by decide) (fun c_154 => ?_) (fun c_154 => ?_)
                          · skip
                            rw [← Int32.toInt_inj, ti_m1] at c_154
                            refine lv_iload hx hb dX12_quarrel_131 (lv_at hl 1 rfl) ?_
                            refine lv_iload hx hb dX12_quarrel_133 (lv_at hl 0 rfl) ?_
                            refine lv_iadd hx hb dX12_quarrel_135 ?_
                            refine lv_topi (fun x_155 ex_155 => ?_)
                            have hx_155 : x_155.toInt = x_133.toInt + x_142.toInt := by rw [ex_155, ad_I (by omega) (by omega)]
                            have bx_155 : (0 ≤ x_155.toInt ∧ x_155.toInt ≤ 8) := by constructor <;> omega
                            refine lv_iconst (v := 1) hx hb dX12_quarrel_136 (by decide) ?_
                            refine lv_iadd hx hb dX12_quarrel_137 ?_
                            refine lv_topi (fun x_156 ex_156 => ?_)
                            have hx_156 : x_156.toInt = x_155.toInt + 1 := by rw [ex_156, ad_I (by rw [ti_1]; omega) (by rw [ti_1]; omega), ti_1]
                            have bx_156 : (1 ≤ x_156.toInt ∧ x_156.toInt ≤ 9) := by constructor <;> omega
                            refine lv_goto (tgt := 142) hx hb dX12_quarrel_138 (by decide) ?_
                            exact hcut_153 x_156 (by constructor <;> omega) ls (lv_sub hl [0, 1, 2, 3, 4, 5, 6, 7] rfl)
                          · skip
                            rw [← Int32.toInt_inj, ti_m1] at c_154
                            refine lv_iload hx hb dX12_quarrel_120 (lv_at hl 1 rfl) ?_
                            refine lv_iload hx hb dX12_quarrel_122 (lv_at hl 0 rfl) ?_
                            refine lv_iadd hx hb dX12_quarrel_124 ?_
                            refine lv_topi (fun x_157 ex_157 => ?_)
                            have hx_157 : x_157.toInt = x_133.toInt + x_142.toInt := by rw [ex_157, ad_I (by omega) (by omega)]
                            have bx_157 : (0 ≤ x_157.toInt ∧ x_157.toInt ≤ 8) := by constructor <;> omega
                            refine lv_iconst (v := 1) hx hb dX12_quarrel_125 (by decide) ?_
                            refine lv_iadd hx hb dX12_quarrel_126 ?_
                            refine lv_topi (fun x_158 ex_158 => ?_)
                            have hx_158 : x_158.toInt = x_157.toInt + 1 := by rw [ex_158, ad_I (by rw [ti_1]; omega) (by rw [ti_1]; omega), ti_1]
                            have bx_158 : (1 ≤ x_158.toInt ∧ x_158.toInt ≤ 9) := by constructor <;> omega
                            refine lv_iload_n hx hb dX12_quarrel_127 rfl (lv_at hl 4 rfl) ?_
                            refine lv_icmp_ge (tgt := 141) hx hb dX12_quarrel_128 (by decide) (fun c_159 => ?_) (fun c_159 => ?_)
                            · skip
                              rw [Int32.le_iff_toInt_le] at c_159
                              refine lv_iload_n hx hb dX12_quarrel_141 rfl (lv_at hl 4 rfl) ?_
                              exact hcut_153 y_120 (by constructor <;> omega) ls (lv_sub hl [0, 1, 2, 3, 4, 5, 6, 7] rfl)
                            · skip
                              rw [Int32.le_iff_toInt_le] at c_159
                              refine lv_iload hx hb dX12_quarrel_131 (lv_at hl 1 rfl) ?_
                              refine lv_iload hx hb dX12_quarrel_133 (lv_at hl 0 rfl) ?_
                              refine lv_iadd hx hb dX12_quarrel_135 ?_
                              refine lv_topi (fun x_160 ex_160 => ?_)
                              have hx_160 : x_160.toInt = x_133.toInt + x_142.toInt := by rw [ex_160, ad_I (by omega) (by omega)]
                              have bx_160 : (0 ≤ x_160.toInt ∧ x_160.toInt ≤ 8) := by constructor <;> omega
                              refine lv_iconst (v := 1) hx hb dX12_quarrel_136 (by decide) ?_
                              refine lv_iadd hx hb dX12_quarrel_137 ?_
                              refine lv_topi (fun x_161 ex_161 => ?_)
                              have hx_161 : x_161.toInt = x_160.toInt + 1 := by rw [ex_161, ad_I (by rw [ti_1]; omega) (by rw [ti_1]; omega), ti_1]
                              have bx_161 : (1 ≤ x_161.toInt ∧ x_161.toInt ≤ 9) := by constructor <;> omega
                              refine lv_goto (tgt := 142) hx hb dX12_quarrel_138 (by decide) ?_
                              exact hcut_153 x_161 (by constructor <;> omega) ls (lv_sub hl [0, 1, 2, 3, 4, 5, 6, 7] rfl)
                        · skip
                          rw [← Int32.toInt_inj, ti_m1] at c_151
                          refine lv_goto (tgt := 143) hx hb dX12_quarrel_112 (by decide) ?_
                          exact hcut_148 y_120 (by constructor <;> omega) ls (lv_sub hl [0, 1, 2, 3, 4, 5, 6, 7] rfl)
                exact hloop_118 4 0 (by decide) y_92 (by constructor <;> omega) f_94 hG _ _ hP hS hD hfr0 hfo_95 (by (try rw [ti_0]) <;> omega) ls hl
          exact hloop_90 4 0 (by decide) (-1) (by decide) f hG _ _ hP hS hD hfr0 hfo_57 (by (try rw [ti_0]) <;> (try rw [ti_m1]) <;> omega) ls hl
        · skip
          rw [← Int32.toInt_inj, ti_0] at c_71
          refine lv_iconst (v := (-1)) hx hb dX12_quarrel_30 (by decide) ?_
          exact W.iret (v := (-1)) hx hb hr (fun t ht hW => ⟨⟨(-1), f, rfl, ⟨hG, (by decide), hfr0⟩, by rw [ht]; exact hP, va_K.moved hW.alike hK, pl_in hD⟩, hS.F ht⟩) hS.2.2 dX12_quarrel_31
set_option maxHeartbeats 8000000 in
set_option maxRecDepth 100000 in
theorem s_X12_wordsUpTo_k12 (l : Launch) (D : va_G) (cI cL cZ cR cG cH : ClassId) (Z : zT) (kd : Nat → Nat) (L : List Nat) (f : Nat → va_E) (hG : GI (okc cI cL cZ cR cG cH L kd) kd L f) (o0 : Nat) (mo0 : o0 ∈ L) (ko0 : kd o0 = 12) (p1 : Int32) (bp1 : (1 ≤ p1.toInt ∧ p1.toInt ≤ 3)) : mPI l D cI cL cZ cR cG cH Z yX12_wordsUpTo cX12_wordsUpTo 5 (some .int) 0 0 [.ref o0, .int p1] L f (fun (r : Int32) (f9 : Nat → va_E) => f = f9 ∧ (0 ≤ r.toInt ∧ r.toInt ≤ 584) ∧ (∀ b9 g9, fldR (f o0) 0 = some b9 → f b9 = .inl (cI, 1560, .inl g9) → (p1.toInt = 1 ∧ r.toInt = (g9 0).toInt) ∨ (p1.toInt = 2 ∧ r.toInt = (g9 0).toInt + (g9 0).toInt * (g9 0).toInt) ∨ (p1.toInt = 3 ∧ r.toInt = (g9 0).toInt + (g9 0).toInt * (g9 0).toInt + (g9 0).toInt * (g9 0).toInt * (g9 0).toInt))) := by
  obtain ⟨dC, dI⟩ := D
  refine Met.ofW (cc := cX12_wordsUpTo) (maxL := 5) (ret := (some .int)) (by decide) rfl ?_
  intro p e s m args below meth c s₁ B hml hv
  obtain ⟨rfl, hP, hK, hD0, hN, hZ⟩ := hv
  have hx := B.exec
  have hb := B.bytes
  have hr := B.returns
  have hU : ∀ w ∈ wsU, w.before _ s = true := fun w h => atoms_spec (ws := wU yX12_wordsUpTo cX12_wordsUpTo 5 (some .int)) B.pre w (List.mem_cons_of_mem _ h)
  have hown : s.vm.findClass RX12 = some m.cls := findClass_of_methodNamed B.named
  have hlocks := B.notSynchronized
  have hD := pl_in hD0
  have hS : va_S (fun q => q ∈ L) s.heap s.heap [] := va_S.rf
  have hl := lv_entry ([.ref o0, .int p1]) (n := 5) (Nat.le_of_ble_eq_true rfl)
  rw [lg_entry_eq]
  generalize (lg_sl ([.ref o0, .int p1]) ++ List.replicate (5 - (lg_sl ([.ref o0, .int p1])).length) Slot.unset).toArray = ls at hl ⊢
  have hl : lv_has ls 5 [(0, .ref o0), (1, .int p1)] := hl
  refine lv_iconst (v := 0) hx hb dX12_wordsUpTo_0 (by decide) ?_
  refine lv_istore_n (lv' := [(2, .int 0), (0, .ref o0), (1, .int p1)]) hx hb dX12_wordsUpTo_1 rfl hl (by decide) rfl (fun ls hl => ?_)
  refine lv_iconst (v := 1) hx hb dX12_wordsUpTo_2 (by decide) ?_
  refine lv_istore_n (lv' := [(3, .int 1), (2, .int 0), (0, .ref o0), (1, .int p1)]) hx hb dX12_wordsUpTo_3 rfl hl (by decide) rfl (fun ls hl => ?_)
  refine lv_iconst (v := 0) hx hb dX12_wordsUpTo_4 (by decide) ?_
  refine lv_istore (lv' := [(4, .int 0), (3, .int 1), (2, .int 0), (0, .ref o0), (1, .int p1)]) hx hb dX12_wordsUpTo_5 hl (by decide) rfl (fun ls hl => ?_)
  refine lv_iload hx hb dX12_wordsUpTo_7 (lv_at hl 0 rfl) ?_
  refine lv_iload_n hx hb dX12_wordsUpTo_9 rfl (lv_at hl 4 rfl) ?_
  refine lv_icmp_ge (tgt := 32) hx hb dX12_wordsUpTo_10 (by decide) (fun c_1 => ?_) (fun c_1 => ?_)
  · skip
    rw [Int32.le_iff_toInt_le, ti_0] at c_1
    exfalso
    omega
  · skip
    rw [Int32.le_iff_toInt_le, ti_0] at c_1
    refine lv_iload_n hx hb dX12_wordsUpTo_13 rfl (lv_at hl 1 rfl) ?_
    refine lv_aload_n hx hb dX12_wordsUpTo_14 rfl (lv_at hl 3 rfl) ?_
    obtain ⟨a_2, a_3, a_4, v_5, a_6, v_7, v_8, v_9, v_10, v_11, v_12, v_13, v_14, v_15, v_16, a_17, a_18, a_19, a_20, a_21, a_22, a_23, a_24, v_25, v_26, v_27, v_28, v_29, a_30, v_31, a_32, a_33, v_34, v_35, a_36, v_37, a_38, a_39, v_40, v_41, a_42, a_43, a_44, v_45, a_46, a_47, a_48, a_49, a_50, a_51, a_52, a_53, a_54, v_55, v_56, a_57, hfo_58, fa_59⟩ := un12 (hG _ mo0) ko0
    obtain ⟨ma_2, ka_2⟩ := fa12_0 fa_59
    refine tk_getP (D := (dC, dI)) (ci := 12) (v := .ref a_2) (C := RX12) (T := TX12) (N := 56) hx hb hU inlX12 hown hK hP mo0 hfo_58 rfl 0 (by decide) (hU _ wd_169) (fun _ h9 => h9) rfl dX12_wordsUpTo_15 ?_
    refine lv_iconst (v := 0) hx hb dX12_wordsUpTo_18 (by decide) ?_
    obtain ⟨g_61, hfo_60, hbg_61⟩ := un_575 (hG _ ma_2) ka_2
    refine tk_ildP hx hb hK hP 0 ma_2 hfo_60 rfl (vp_in_nI (n := 0) (by decide) (by decide)) dX12_wordsUpTo_19 ?_
    refine lv_topi (fun x_62 ex_62 => ?_)
    have bx_62 : (0 ≤ x_62.toInt ∧ x_62.toInt ≤ 8) := by rw [ex_62]; exact hbg_61.1 _ (by decide) (by decide) (by decide)
    refine lv_imul hx hb dX12_wordsUpTo_20 ?_
    refine lv_topi (fun x_63 ex_63 => ?_)
    have hx_63 : x_63.toInt = 1 * x_62.toInt := by rw [ex_63, ml_I (by rw [ti_1]; omega) (by rw [ti_1]; omega), ti_1]
    have bx_63 : (0 ≤ x_63.toInt ∧ x_63.toInt ≤ 8) := by constructor <;> omega
    have hgx : x_62.toInt = (g_61 0).toInt := by rw [ex_62]; rfl
    have hL0 : x_63.toInt = (g_61 0).toInt := by omega
    have hsq := lw_sq (L := (g_61 0).toInt) (by omega)
    refine lv_istore_n (lv' := [(3, .int x_63), (4, .int 0), (2, .int 0), (0, .ref o0), (1, .int p1)]) hx hb dX12_wordsUpTo_21 rfl hl (by decide) rfl (fun ls hl => ?_)
    refine lv_iload_n hx hb dX12_wordsUpTo_22 rfl (lv_at hl 2 rfl) ?_
    refine lv_iload_n hx hb dX12_wordsUpTo_23 rfl (lv_at hl 0 rfl) ?_
    refine lv_iadd hx hb dX12_wordsUpTo_24 ?_
    refine lv_topi (fun x_64 ex_64 => ?_)
    have hx_64 : x_64.toInt = 0 + x_63.toInt := by rw [ex_64, ad_I (by rw [ti_0]; omega) (by rw [ti_0]; omega), ti_0]
    have bx_64 : (0 ≤ x_64.toInt ∧ x_64.toInt ≤ 8) := by constructor <;> omega
    refine lv_istore_n (lv' := [(2, .int x_64), (3, .int x_63), (4, .int 0), (0, .ref o0), (1, .int p1)]) hx hb dX12_wordsUpTo_25 rfl hl (by decide) rfl (fun ls hl => ?_)
    refine lv_iinc (v := 1) (lv' := [(4, .int 1), (2, .int x_64), (3, .int x_63), (0, .ref o0), (1, .int p1)]) hx hb dX12_wordsUpTo_26 hl (k := 2) rfl (by decide) (by decide) rfl (fun ls hl => ?_)
    refine lv_goto (tgt := 7) hx hb dX12_wordsUpTo_29 (by decide) ?_
    refine lv_iload hx hb dX12_wordsUpTo_7 (lv_at hl 0 rfl) ?_
    refine lv_iload_n hx hb dX12_wordsUpTo_9 rfl (lv_at hl 4 rfl) ?_
    refine lv_icmp_ge (tgt := 32) hx hb dX12_wordsUpTo_10 (by decide) (fun c_65 => ?_) (fun c_65 => ?_)
    · skip
      rw [Int32.le_iff_toInt_le, ti_1] at c_65
      refine lv_iload_n hx hb dX12_wordsUpTo_32 rfl (lv_at hl 1 rfl) ?_
      exact W.iret (v := x_64) hx hb hr (fun t ht hW => ⟨⟨x_64, f, rfl, ⟨rfl, (by constructor <;> omega), (fun b9 g9 h1 h2 => by rw [hfo_58] at h1; obtain rfl := Option.some.inj h1; rw [hfo_60] at h2; cases h2; omega)⟩, by rw [ht]; exact hP, va_K.moved hW.alike hK, pl_in hD⟩, hS.F ht⟩) hS.2.2 dX12_wordsUpTo_33
    · skip
      rw [Int32.le_iff_toInt_le, ti_1] at c_65
      refine lv_iload_n hx hb dX12_wordsUpTo_13 rfl (lv_at hl 2 rfl) ?_
      refine lv_aload_n hx hb dX12_wordsUpTo_14 rfl (lv_at hl 3 rfl) ?_
      refine tk_getP (D := (dC, dI)) (ci := 12) (v := .ref a_2) (C := RX12) (T := TX12) (N := 56) hx hb hU inlX12 hown hK hP mo0 hfo_58 rfl 0 (by decide) (hU _ wd_169) (fun _ h9 => h9) rfl dX12_wordsUpTo_15 ?_
      refine lv_iconst (v := 0) hx hb dX12_wordsUpTo_18 (by decide) ?_
      refine tk_ildP hx hb hK hP 0 ma_2 hfo_60 rfl (vp_in_nI (n := 0) (by decide) (by decide)) dX12_wordsUpTo_19 ?_
      refine tk_topi (y := x_62) ex_62.symm ?_
      refine lv_imul hx hb dX12_wordsUpTo_20 ?_
      refine lv_topi (fun x_66 ex_66 => ?_)
      have bx_66 : (0 ≤ x_66.toInt ∧ x_66.toInt ≤ 64) := by rw [ex_66]; exact ml_B (a := 8) (b := 8) (by constructor <;> omega) (by constructor <;> omega) (by decide)
      have hmx_66 : x_66.toInt = x_63.toInt * x_62.toInt := by rw [ex_66]; exact ml_E (a := 8) (b := 8) (by constructor <;> omega) (by constructor <;> omega) (by decide)
      have hL1 : x_66.toInt = (g_61 0).toInt * (g_61 0).toInt := by rw [hmx_66, hL0, hgx]
      refine lv_istore_n (lv' := [(3, .int x_66), (4, .int 1), (2, .int x_64), (0, .ref o0), (1, .int p1)]) hx hb dX12_wordsUpTo_21 rfl hl (by decide) rfl (fun ls hl => ?_)
      refine lv_iload_n hx hb dX12_wordsUpTo_22 rfl (lv_at hl 2 rfl) ?_
      refine lv_iload_n hx hb dX12_wordsUpTo_23 rfl (lv_at hl 0 rfl) ?_
      refine lv_iadd hx hb dX12_wordsUpTo_24 ?_
      refine lv_topi (fun x_67 ex_67 => ?_)
      have hx_67 : x_67.toInt = x_64.toInt + x_66.toInt := by rw [ex_67, ad_I (by omega) (by omega)]
      have bx_67 : (0 ≤ x_67.toInt ∧ x_67.toInt ≤ 72) := by constructor <;> omega
      refine lv_istore_n (lv' := [(2, .int x_67), (3, .int x_66), (4, .int 1), (0, .ref o0), (1, .int p1)]) hx hb dX12_wordsUpTo_25 rfl hl (by decide) rfl (fun ls hl => ?_)
      refine lv_iinc (v := 2) (lv' := [(4, .int 2), (2, .int x_67), (3, .int x_66), (0, .ref o0), (1, .int p1)]) hx hb dX12_wordsUpTo_26 hl (k := 2) rfl (by decide) (by decide) rfl (fun ls hl => ?_)
      refine lv_goto (tgt := 7) hx hb dX12_wordsUpTo_29 (by decide) ?_
      refine lv_iload hx hb dX12_wordsUpTo_7 (lv_at hl 0 rfl) ?_
      refine lv_iload_n hx hb dX12_wordsUpTo_9 rfl (lv_at hl 4 rfl) ?_
      refine lv_icmp_ge (tgt := 32) hx hb dX12_wordsUpTo_10 (by decide) (fun c_68 => ?_) (fun c_68 => ?_)
      · skip
        rw [Int32.le_iff_toInt_le, ti_2] at c_68
        refine lv_iload_n hx hb dX12_wordsUpTo_32 rfl (lv_at hl 1 rfl) ?_
        exact W.iret (v := x_67) hx hb hr (fun t ht hW => ⟨⟨x_67, f, rfl, ⟨rfl, (by constructor <;> omega), (fun b9 g9 h1 h2 => by rw [hfo_58] at h1; obtain rfl := Option.some.inj h1; rw [hfo_60] at h2; cases h2; omega)⟩, by rw [ht]; exact hP, va_K.moved hW.alike hK, pl_in hD⟩, hS.F ht⟩) hS.2.2 dX12_wordsUpTo_33
      · skip
        rw [Int32.le_iff_toInt_le, ti_2] at c_68
        refine lv_iload_n hx hb dX12_wordsUpTo_13 rfl (lv_at hl 2 rfl) ?_
        refine lv_aload_n hx hb dX12_wordsUpTo_14 rfl (lv_at hl 3 rfl) ?_
        refine tk_getP (D := (dC, dI)) (ci := 12) (v := .ref a_2) (C := RX12) (T := TX12) (N := 56) hx hb hU inlX12 hown hK hP mo0 hfo_58 rfl 0 (by decide) (hU _ wd_169) (fun _ h9 => h9) rfl dX12_wordsUpTo_15 ?_
        refine lv_iconst (v := 0) hx hb dX12_wordsUpTo_18 (by decide) ?_
        refine tk_ildP hx hb hK hP 0 ma_2 hfo_60 rfl (vp_in_nI (n := 0) (by decide) (by decide)) dX12_wordsUpTo_19 ?_
        refine tk_topi (y := x_62) ex_62.symm ?_
        refine lv_imul hx hb dX12_wordsUpTo_20 ?_
        refine lv_topi (fun x_69 ex_69 => ?_)
        have bx_69 : (0 ≤ x_69.toInt ∧ x_69.toInt ≤ 512) := by rw [ex_69]; exact ml_B (a := 64) (b := 8) (by constructor <;> omega) (by constructor <;> omega) (by decide)
        have hmx_69 : x_69.toInt = x_66.toInt * x_62.toInt := by rw [ex_69]; exact ml_E (a := 64) (b := 8) (by constructor <;> omega) (by constructor <;> omega) (by decide)
        have hL2 : x_69.toInt = (g_61 0).toInt * (g_61 0).toInt * (g_61 0).toInt := by rw [hmx_69, hL1, hgx]
        refine lv_istore_n (lv' := [(3, .int x_69), (4, .int 2), (2, .int x_67), (0, .ref o0), (1, .int p1)]) hx hb dX12_wordsUpTo_21 rfl hl (by decide) rfl (fun ls hl => ?_)
        refine lv_iload_n hx hb dX12_wordsUpTo_22 rfl (lv_at hl 2 rfl) ?_
        refine lv_iload_n hx hb dX12_wordsUpTo_23 rfl (lv_at hl 0 rfl) ?_
        refine lv_iadd hx hb dX12_wordsUpTo_24 ?_
        refine lv_topi (fun x_70 ex_70 => ?_)
        have hx_70 : x_70.toInt = x_67.toInt + x_69.toInt := by rw [ex_70, ad_I (by omega) (by omega)]
        have bx_70 : (0 ≤ x_70.toInt ∧ x_70.toInt ≤ 584) := by constructor <;> omega
        refine lv_istore_n (lv' := [(2, .int x_70), (3, .int x_69), (4, .int 2), (0, .ref o0), (1, .int p1)]) hx hb dX12_wordsUpTo_25 rfl hl (by decide) rfl (fun ls hl => ?_)
        refine lv_iinc (v := 3) (lv' := [(4, .int 3), (2, .int x_70), (3, .int x_69), (0, .ref o0), (1, .int p1)]) hx hb dX12_wordsUpTo_26 hl (k := 2) rfl (by decide) (by decide) rfl (fun ls hl => ?_)
        refine lv_goto (tgt := 7) hx hb dX12_wordsUpTo_29 (by decide) ?_
        refine lv_iload hx hb dX12_wordsUpTo_7 (lv_at hl 0 rfl) ?_
        refine lv_iload_n hx hb dX12_wordsUpTo_9 rfl (lv_at hl 4 rfl) ?_
        refine lv_icmp_ge (tgt := 32) hx hb dX12_wordsUpTo_10 (by decide) (fun c_71 => ?_) (fun c_71 => ?_)
        · skip
          rw [Int32.le_iff_toInt_le, ti_3] at c_71
          refine lv_iload_n hx hb dX12_wordsUpTo_32 rfl (lv_at hl 1 rfl) ?_
          exact W.iret (v := x_70) hx hb hr (fun t ht hW => ⟨⟨x_70, f, rfl, ⟨rfl, (by constructor <;> omega), (fun b9 g9 h1 h2 => by rw [hfo_58] at h1; obtain rfl := Option.some.inj h1; rw [hfo_60] at h2; cases h2; omega)⟩, by rw [ht]; exact hP, va_K.moved hW.alike hK, pl_in hD⟩, hS.F ht⟩) hS.2.2 dX12_wordsUpTo_33
        · skip
          rw [Int32.le_iff_toInt_le, ti_3] at c_71
          exfalso
          omega
set_option maxHeartbeats 8000000 in
set_option maxRecDepth 100000 in
theorem s_X12_laysWord_k12 (l : Launch) (D : va_G) (cI cL cZ cR cG cH : ClassId) (Z : zT) (kd : Nat → Nat) (L : List Nat) (f : Nat → va_E) (hG : GI (okc cI cL cZ cR cG cH L kd) kd L f) (o0 : Nat) (mo0 : o0 ∈ L) (ko0 : kd o0 = 12) (p1 : Int32) (bp1 : (0 ≤ p1.toInt ∧ p1.toInt ≤ 583)) (hxpre0 : ∀ b9 g9, fldR (f o0) 0 = some b9 → f b9 = .inl (cI, 1560, .inl g9) → p1.toInt < (g9 0).toInt + (g9 0).toInt * (g9 0).toInt + (g9 0).toInt * (g9 0).toInt * (g9 0).toInt) : mPV l D cI cL cZ cR cG cH Z yX12_laysWord cX12_laysWord 5 none 0 0 [.ref o0, .int p1] L f (fun (f9 : Nat → va_E) => GI (okc cI cL cZ cR cG cH L kd) kd L f9 ∧ (∀ b, kd b ≠ 12 → kd b ≠ 589 → f9 b = f b) ∧ (∀ b, kd b = 12 → ∀ j, fldR (f9 b) j = fldR (f b) j) ∧ (∀ b, kd b = 12 → ∀ j, j ≠ 23 → fldI (f9 b) j = fldI (f b) j) ∧ (∀ (w23 z23 : Int32), fldI (f o0) 23 = some w23 → fldI (f9 o0) 23 = some z23 → 1 ≤ z23.toInt ∧ z23.toInt ≤ 3) ∧ (∀ b9 g9 z9, fldR (f o0) 0 = some b9 → f b9 = .inl (cI, 1560, .inl g9) → fldI (f9 o0) 23 = some z9 → p1.toInt < (g9 0).toInt + (g9 0).toInt * (g9 0).toInt → z9.toInt ≤ 2)) := by
  obtain ⟨dC, dI⟩ := D
  refine Met.ofW (cc := cX12_laysWord) (maxL := 5) (ret := none) (by decide) rfl ?_
  intro p e s m args below meth c s₁ B hml hv
  obtain ⟨rfl, hP, hK, hD0, hN, hZ⟩ := hv
  have hx := B.exec
  have hb := B.bytes
  have hr := B.returns
  have hU : ∀ w ∈ wsU, w.before _ s = true := fun w h => atoms_spec (ws := wU yX12_laysWord cX12_laysWord 5 none) B.pre w (List.mem_cons_of_mem _ h)
  have hown : s.vm.findClass RX12 = some m.cls := findClass_of_methodNamed B.named
  have hlocks := B.notSynchronized
  have hD := pl_in hD0
  have hS : va_S (fun q => q ∈ L) s.heap s.heap [] := va_S.rf
  have hl := lv_entry ([.ref o0, .int p1]) (n := 5) (Nat.le_of_ble_eq_true rfl)
  rw [lg_entry_eq]
  generalize (lg_sl ([.ref o0, .int p1]) ++ List.replicate (5 - (lg_sl ([.ref o0, .int p1])).length) Slot.unset).toArray = ls at hl ⊢
  have hl : lv_has ls 5 [(0, .ref o0), (1, .int p1)] := hl
  have hfr0 : ∀ b, kd b ≠ 12 → kd b ≠ 589 → f b = f b := fun _ _ _ => rfl
  have hrA12 : ∀ b, kd b = 12 → ∀ j, fldR (f b) j = fldR (f b) j := fun _ _ _ => rfl
  have hfA12 : ∀ b, kd b = 12 → ∀ j, j ≠ 23 → fldI (f b) j = fldI (f b) j := fun _ _ _ _ => rfl
  obtain ⟨a_1, a_2, a_3, v_4, a_5, v_6, v_7, v_8, v_9, v_10, v_11, v_12, v_13, v_14, v_15, a_16, a_17, a_18, a_19, a_20, a_21, a_22, a_23, v_24, v_25, v_26, v_27, v_28, a_29, v_30, a_31, a_32, v_33, v_34, a_35, v_36, a_37, a_38, v_39, v_40, a_41, a_42, a_43, v_44, a_45, a_46, a_47, a_48, a_49, a_50, a_51, a_52, a_53, v_54, v_55, a_56, hfo_57, fa_58⟩ := un12 (hG _ mo0) ko0
  obtain ⟨ma_1, ka_1⟩ := fa12_0 fa_58
  obtain ⟨ma_22, ka_22⟩ := fa12_21 fa_58
  obtain ⟨g_60, hfo_59, hbg_60⟩ := un_575 (hG _ ma_1) ka_1
  have hlw := hxpre0 a_1 g_60 (by rw [hfo_57]; rfl) hfo_59
  obtain ⟨x_61, ex_61⟩ : ∃ y : Int32, y = g_60 (Int32.toNatClampNeg 0) := ⟨_, rfl⟩
  have bx_61 : (0 ≤ x_61.toInt ∧ x_61.toInt ≤ 8) := by rw [ex_61]; exact hbg_60.1 _ (by decide) (by decide) (by decide)
  have hgx_61 : x_61.toInt = (g_60 0).toInt := by rw [ex_61]; rfl
  have hlp := lw_pos (L := (g_60 0).toInt) (by omega) (by omega) hlw
  have hsq := lw_sq (L := (g_60 0).toInt) (by omega)
  have hnrc_62 : (1 ≤ x_61.toInt ∧ x_61.toInt ≤ 8) := by constructor <;> omega
  refine lv_iload_n hx hb dX12_laysWord_0 rfl (lv_at hl 1 rfl) ?_
  refine lv_istore_n (lv' := [(2, .int p1), (0, .ref o0), (1, .int p1)]) hx hb dX12_laysWord_1 rfl hl (by decide) rfl (fun ls hl => ?_)
  refine lv_aload_n hx hb dX12_laysWord_2 rfl (lv_at hl 1 rfl) ?_
  refine tk_getP (D := (dC, dI)) (ci := 12) (v := .ref a_1) (C := RX12) (T := TX12) (N := 56) hx hb hU inlX12 hown hK hP mo0 hfo_57 rfl 0 (by decide) (hU _ wd_169) (fun _ h9 => h9) rfl dX12_laysWord_3 ?_
  refine lv_iconst (v := 0) hx hb dX12_laysWord_6 (by decide) ?_
  refine tk_ildP hx hb hK hP 0 ma_1 hfo_59 rfl (vp_in_nI (n := 0) (by decide) (by decide)) dX12_laysWord_7 ?_
  refine tk_topi (y := x_61) ex_61.symm ?_
  refine lv_istore_n (lv' := [(3, .int x_61), (2, .int p1), (0, .ref o0), (1, .int p1)]) hx hb dX12_laysWord_8 rfl hl (by decide) rfl (fun ls hl => ?_)
  refine lv_aload_n hx hb dX12_laysWord_9 rfl (lv_at hl 2 rfl) ?_
  refine lv_iconst (v := 1) hx hb dX12_laysWord_10 (by decide) ?_
  refine tk_putP (D := (dC, dI)) (ci := 12) (v := .int 1) (ty := .int) (C := RX12) (T := TX12) (N := 56) hx hb hU inlX12 tyX12 tyX12_ok nmX12 hown hK hP hD hS mo0 hfo_57 rfl 23 (by decide) (hU _ wd_867) (fun _ h9 => h9) rfl (by decide +kernel) rfl rfl (Nat.le_of_ble_eq_true rfl) dX12_laysWord_11 (fun H locs hP hD hS => ?_)
  have fa_63 := fu12_23 (y := 1) fa_58 (by decide)
  obtain ⟨f_65, ef_65⟩ : ∃ y : Nat → va_E, y = va_up f o0 (.inr (12, [.ref a_1, .ref a_2, .ref a_3, .int v_4, .ref a_5, .int v_6, .int v_7, .int v_8, .int v_9, .int v_10, .int v_11, .int v_12, .int v_13, .int v_14, .int v_15, .ref a_16, .ref a_17, .ref a_18, .ref a_19, .ref a_20, .ref a_21, .ref a_22, .ref a_23, .int 1, .int v_25, .int v_26, .int v_27, .int v_28, .ref a_29, .int v_30, .ref a_31, .ref a_32, .int v_33, .int v_34, .ref a_35, .int v_36, .ref a_37, .ref a_38, .int v_39, .int v_40, .ref a_41, .ref a_42, .ref a_43, .int v_44, .ref a_45, .ref a_46, .ref a_47, .ref a_48, .ref a_49, .ref a_50, .ref a_51, .ref a_52, .ref a_53, .int v_54, .int v_55, .ref a_56])) := ⟨_, rfl⟩
  have hP : va_P (dC, dI) vwCl (va_pl L f_65) H := by rw [ef_65]; exact hP
  have hD : va_D (fun q => q ∈ L) (va_pl L f_65) := by rw [ef_65]; exact hD
  have hG : GI (okc cI cL cZ cR cG cH L kd) kd L f_65 := by rw [ef_65]; exact hG.set o0 (mk_12 ko0 (fo12 fa_63))
  have hfo_66 : f_65 a_1 = .inl (cI, 1560, .inl g_60) := by rw [ef_65, up_ne (kd_ne ko0 ka_1 (by decide))]; exact hfo_59
  have hfr0 : ∀ b, kd b ≠ 12 → kd b ≠ 589 → f_65 b = f b := fun b q12 q589 => (congrFun ef_65 b).trans ((up_ne (fun e9 => q12 (by rw [e9]; exact ko0))).trans (hfr0 b q12 q589))
  have hrA12 : ∀ b, kd b = 12 → ∀ j, fldR (f_65 b) j = fldR (f b) j := fun b kb j => ((congrArg (fun x => fldR x j) (congrFun ef_65 b)).trans (fra_up (fun j => by rw [hfo_57]; exact fr_set (k := 23) rfl rfl) j b)).trans (hrA12 b kb j)
  have hfA12 : ∀ b, kd b = 12 → ∀ j, j ≠ 23 → fldI (f_65 b) j = fldI (f b) j := fun b kb j n23 => ((congrArg (fun x => fldI x j) (congrFun ef_65 b)).trans (fia_up (fun h9 => by rw [hfo_57]; exact fi_set (k := 23) rfl h9) n23 b)).trans (hfA12 b kb j n23)
  have hfo_67 : f_65 o0 = .inr (12, [.ref a_1, .ref a_2, .ref a_3, .int v_4, .ref a_5, .int v_6, .int v_7, .int v_8, .int v_9, .int v_10, .int v_11, .int v_12, .int v_13, .int v_14, .int v_15, .ref a_16, .ref a_17, .ref a_18, .ref a_19, .ref a_20, .ref a_21, .ref a_22, .ref a_23, .int 1, .int v_25, .int v_26, .int v_27, .int v_28, .ref a_29, .int v_30, .ref a_31, .ref a_32, .int v_33, .int v_34, .ref a_35, .int v_36, .ref a_37, .ref a_38, .int v_39, .int v_40, .ref a_41, .ref a_42, .ref a_43, .int v_44, .ref a_45, .ref a_46, .ref a_47, .ref a_48, .ref a_49, .ref a_50, .ref a_51, .ref a_52, .ref a_53, .int v_54, .int v_55, .ref a_56]) := by rw [ef_65]; exact up_self
  have hloop_75 : ∀ (n : Nat), ∀ (y_76 : Int32), (0 ≤ y_76.toInt ∧ y_76.toInt ≤ 512) → ∀ (y_77 : Int32), (0 ≤ y_77.toInt ∧ y_77.toInt ≤ 583) → ∀ (f_79 : Nat → va_E), GI (okc cI cL cZ cR cG cH L kd) kd L f_79 → ∀ (H : Heap) (locs : List Loc), va_P (dC, dI) vwCl (va_pl L f_79) H → va_S (fun q => q ∈ L) s.heap H locs → va_D (fun q => q ∈ L) (va_pl L f_79) → (∀ b, kd b ≠ 12 → kd b ≠ 589 → f_79 b = f b) → (∀ b, kd b = 12 → ∀ j, fldR (f_79 b) j = fldR (f b) j) → (∀ b, kd b = 12 → ∀ j, j ≠ 23 → fldI (f_79 b) j = fldI (f b) j) → (f_79 a_1 = .inl (cI, 1560, .inl g_60)) → ∀ (whloop_75_0_23 : Int32), fldI (f_79 o0) 23 = some whloop_75_0_23 → ((whloop_75_0_23.toInt = 1 ∧ y_76.toInt = (g_60 0).toInt ∧ y_77.toInt = p1.toInt) ∨ (whloop_75_0_23.toInt = 2 ∧ y_76.toInt = (g_60 0).toInt * (g_60 0).toInt ∧ y_77.toInt = p1.toInt - (g_60 0).toInt) ∨ (whloop_75_0_23.toInt = 3 ∧ y_76.toInt = (g_60 0).toInt * (g_60 0).toInt * (g_60 0).toInt ∧ y_77.toInt = p1.toInt - (g_60 0).toInt - (g_60 0).toInt * (g_60 0).toInt)) → (1 ≤ whloop_75_0_23.toInt ∧ whloop_75_0_23.toInt ≤ 3) → 4 - whloop_75_0_23.toInt < (n : Int) → ∀ (ls : Array Slot), lv_has ls 5 [(3, .int y_76), (2, .int y_77), (0, .ref o0), (1, .int p1)] → W p l e (headSpec (wU yX12_laysWord cX12_laysWord 5 none) { frames := 0, cells := 0, slots := 0, locals := 0 }).room s m [.ref o0, .int p1].toArray below meth c H locs 0 0 (MQ below (va_Qv (fun (f9 : Nat → va_E) => GI (okc cI cL cZ cR cG cH L kd) kd L f9 ∧ (∀ b, kd b ≠ 12 → kd b ≠ 589 → f9 b = f b) ∧ (∀ b, kd b = 12 → ∀ j, fldR (f9 b) j = fldR (f b) j) ∧ (∀ b, kd b = 12 → ∀ j, j ≠ 23 → fldI (f9 b) j = fldI (f b) j) ∧ (∀ (w23 z23 : Int32), fldI (f o0) 23 = some w23 → fldI (f9 o0) 23 = some z23 → 1 ≤ z23.toInt ∧ z23.toInt ≤ 3) ∧ (∀ b9 g9 z9, fldR (f o0) 0 = some b9 → f b9 = .inl (cI, 1560, .inl g9) → fldI (f9 o0) 23 = some z9 → p1.toInt < (g9 0).toInt + (g9 0).toInt * (g9 0).toInt → z9.toInt ≤ 2)) (qP (dC, dI) cI cL cZ cR cG cH L) (fun q => q ∈ L)) [.ref o0, .int p1].toArray s 0 0 (fun q => q ∈ L)) (F0 m 14 ls []) := by
    intro n
    induction n with
    | zero => intro y_76 by_76 y_77 by_77 f_79 hG H locs hP hS hD hfr0 hrA12 hfA12 hfo_80 whloop_75_0_23 hghloop_75_0_23 hrelhloop_75_0 hrelhloop_75_1 hmuhloop_75 ls hl; exfalso; omega
    | succ n ih_hloop_75 =>
      intro y_76 by_76 y_77 by_77 f_79 hG H locs hP hS hD hfr0 hrA12 hfA12 hfo_80 whloop_75_0_23 hghloop_75_0_23 hrelhloop_75_0 hrelhloop_75_1 hmuhloop_75 ls hl
      obtain ⟨v_81, hfo_82, fa_83⟩ := op12_23 hfo_57 (hG _ mo0) ko0 (hrA12 o0 ko0) (hfA12 o0 ko0)
      have bv_81 : (0 ≤ v_81.toInt ∧ v_81.toInt ≤ 12) := fa12_23 fa_83
      obtain rfl : v_81 = whloop_75_0_23 := by rw [hfo_82] at hghloop_75_0_23; exact Option.some.inj hghloop_75_0_23
      refine lv_iload_n hx hb dX12_laysWord_14 rfl (lv_at hl 1 rfl) ?_
      refine lv_iload_n hx hb dX12_laysWord_15 rfl (lv_at hl 0 rfl) ?_
      refine lv_icmp_lt (tgt := 45) hx hb dX12_laysWord_16 (by decide) (fun c_84 => ?_) (fun c_84 => ?_)
      · skip
        rw [Int32.lt_iff_toInt_lt] at c_84
        refine lv_aload_n hx hb dX12_laysWord_45 rfl (lv_at hl 2 rfl) ?_
        refine tk_getP (D := (dC, dI)) (ci := 12) (v := .int v_81) (C := RX12) (T := TX12) (N := 56) hx hb hU inlX12 hown hK hP mo0 hfo_82 rfl 23 (by decide) (hU _ wd_867) (fun _ h9 => h9) rfl dX12_laysWord_46 ?_
        refine lv_iconst (v := 1) hx hb dX12_laysWord_49 (by decide) ?_
        refine lv_isub hx hb dX12_laysWord_50 ?_
        refine lv_topi (fun x_85 ex_85 => ?_)
        have hx_85 : x_85.toInt = v_81.toInt - 1 := by rw [ex_85, sb_I (by rw [ti_1]; omega) (by rw [ti_1]; omega), ti_1]
        have bx_85 : (0 ≤ x_85.toInt ∧ x_85.toInt ≤ 2) := by constructor <;> omega
        refine lv_istore (lv' := [(4, .int x_85), (3, .int y_76), (2, .int y_77), (0, .ref o0), (1, .int p1)]) hx hb dX12_laysWord_51 hl (by decide) rfl (fun ls hl => ?_)
        have hloop_93 : ∀ (n : Nat), ∀ (y_94 : Int32), ((-1) ≤ y_94.toInt ∧ y_94.toInt ≤ 2) → ∀ (y_95 : Int32), (0 ≤ y_95.toInt ∧ y_95.toInt ≤ 583) → ∀ (f_97 : Nat → va_E), GI (okc cI cL cZ cR cG cH L kd) kd L f_97 → ∀ (H : Heap) (locs : List Loc), va_P (dC, dI) vwCl (va_pl L f_97) H → va_S (fun q => q ∈ L) s.heap H locs → va_D (fun q => q ∈ L) (va_pl L f_97) → (∀ b, kd b ≠ 12 → kd b ≠ 589 → f_97 b = f b) → (∀ b, kd b = 12 → ∀ j, fldR (f_97 b) j = fldR (f b) j) → (∀ b, kd b = 12 → ∀ j, j ≠ 23 → fldI (f_97 b) j = fldI (f b) j) → (f_97 a_1 = .inl (cI, 1560, .inl g_60)) → (f_97 o0 = .inr (12, [.ref a_1, .ref a_2, .ref a_3, .int v_4, .ref a_5, .int v_6, .int v_7, .int v_8, .int v_9, .int v_10, .int v_11, .int v_12, .int v_13, .int v_14, .int v_15, .ref a_16, .ref a_17, .ref a_18, .ref a_19, .ref a_20, .ref a_21, .ref a_22, .ref a_23, .int v_81, .int v_25, .int v_26, .int v_27, .int v_28, .ref a_29, .int v_30, .ref a_31, .ref a_32, .int v_33, .int v_34, .ref a_35, .int v_36, .ref a_37, .ref a_38, .int v_39, .int v_40, .ref a_41, .ref a_42, .ref a_43, .int v_44, .ref a_45, .ref a_46, .ref a_47, .ref a_48, .ref a_49, .ref a_50, .ref a_51, .ref a_52, .ref a_53, .int v_54, .int v_55, .ref a_56])) → y_94.toInt - (-1) < (n : Int) → ∀ (ls : Array Slot), lv_has ls 5 [(4, .int y_94), (3, .int y_76), (2, .int y_95), (0, .ref o0), (1, .int p1)] → W p l e (headSpec (wU yX12_laysWord cX12_laysWord 5 none) { frames := 0, cells := 0, slots := 0, locals := 0 }).room s m [.ref o0, .int p1].toArray below meth c H locs 0 0 (MQ below (va_Qv (fun (f9 : Nat → va_E) => GI (okc cI cL cZ cR cG cH L kd) kd L f9 ∧ (∀ b, kd b ≠ 12 → kd b ≠ 589 → f9 b = f b) ∧ (∀ b, kd b = 12 → ∀ j, fldR (f9 b) j = fldR (f b) j) ∧ (∀ b, kd b = 12 → ∀ j, j ≠ 23 → fldI (f9 b) j = fldI (f b) j) ∧ (∀ (w23 z23 : Int32), fldI (f o0) 23 = some w23 → fldI (f9 o0) 23 = some z23 → 1 ≤ z23.toInt ∧ z23.toInt ≤ 3) ∧ (∀ b9 g9 z9, fldR (f o0) 0 = some b9 → f b9 = .inl (cI, 1560, .inl g9) → fldI (f9 o0) 23 = some z9 → p1.toInt < (g9 0).toInt + (g9 0).toInt * (g9 0).toInt → z9.toInt ≤ 2)) (qP (dC, dI) cI cL cZ cR cG cH L) (fun q => q ∈ L)) [.ref o0, .int p1].toArray s 0 0 (fun q => q ∈ L)) (F0 m 53 ls []) := by
          intro n
          induction n with
          | zero => intro y_94 by_94 y_95 by_95 f_97 hG H locs hP hS hD hfr0 hrA12 hfA12 hfo_98 hfo_99 hmuhloop_93 ls hl; exfalso; omega
          | succ n ih_hloop_93 =>
            intro y_94 by_94 y_95 by_95 f_97 hG H locs hP hS hD hfr0 hrA12 hfA12 hfo_98 hfo_99 hmuhloop_93 ls hl
            refine lv_iload hx hb dX12_laysWord_53 (lv_at hl 0 rfl) ?_
            refine lv_if_lt (tgt := 90) hx hb dX12_laysWord_55 (by decide) (fun c_100 => ?_) (fun c_100 => ?_)
            · skip
              rw [Int32.lt_iff_toInt_lt, ti_0] at c_100
              exact W.vret hx hb hr (fun t ht hW => ⟨⟨f_97, rfl, ⟨hG, hfr0, hrA12, hfA12, (by intro w23 z23 e23 d23; rw [hfo_57] at e23; rw [hfo_99] at d23; obtain rfl := Option.some.inj e23; obtain rfl := Option.some.inj d23; omega), (fun b9 g9 z9 h1 h2 h3 h4 => by rw [hfo_57] at h1; obtain rfl := Option.some.inj h1; rw [hfo_59] at h2; cases h2; rw [hfo_99] at h3; obtain rfl := Option.some.inj h3; omega)⟩, by rw [ht]; exact hP, va_K.moved hW.alike hK, pl_in hD⟩, hS.F ht⟩) hS.2.2 dX12_laysWord_90
            · skip
              rw [Int32.lt_iff_toInt_lt, ti_0] at c_100
              refine lv_aload_n hx hb dX12_laysWord_58 rfl (lv_at hl 3 rfl) ?_
              refine tk_getP (D := (dC, dI)) (ci := 12) (v := .ref a_22) (C := RX12) (T := TX12) (N := 56) hx hb hU inlX12 hown hK hP mo0 hfo_99 rfl 21 (by decide) (hU _ wd_181) (fun _ h9 => h9) rfl dX12_laysWord_59 ?_
              refine lv_iload hx hb dX12_laysWord_62 (lv_at hl 0 rfl) ?_
              refine lv_iload_n hx hb dX12_laysWord_64 rfl (lv_at hl 2 rfl) ?_
              refine lv_aload_n hx hb dX12_laysWord_65 rfl (lv_at hl 3 rfl) ?_
              refine tk_getP (D := (dC, dI)) (ci := 12) (v := .ref a_1) (C := RX12) (T := TX12) (N := 56) hx hb hU inlX12 hown hK hP mo0 hfo_99 rfl 0 (by decide) (hU _ wd_169) (fun _ h9 => h9) rfl dX12_laysWord_66 ?_
              refine lv_iconst (v := 0) hx hb dX12_laysWord_69 (by decide) ?_
              refine tk_ildP hx hb hK hP 0 ma_1 hfo_98 rfl (vp_in_nI (n := 0) (by decide) (by decide)) dX12_laysWord_70 ?_
              refine tk_topi (y := x_61) ex_61.symm ?_
              refine lv_irem hx hb dX12_laysWord_71 (by rw [← Int32.toInt_inj, ti_0]; omega) ?_
              refine lv_topi (fun x_101 ex_101 => ?_)
              have bx_101 : (0 ≤ x_101.toInt ∧ x_101.toInt ≤ 7) := by rw [ex_101]; have h8 := rm_B (x := y_95) (y := x_61) (by omega) (by omega); constructor <;> omega
              refine lv_iconst (v := 1) hx hb dX12_laysWord_72 (by decide) ?_
              refine lv_iadd hx hb dX12_laysWord_73 ?_
              refine lv_topi (fun x_102 ex_102 => ?_)
              have hx_102 : x_102.toInt = x_101.toInt + 1 := by rw [ex_102, ad_I (by rw [ti_1]; omega) (by rw [ti_1]; omega), ti_1]
              have bx_102 : (1 ≤ x_102.toInt ∧ x_102.toInt ≤ 8) := by constructor <;> omega
              obtain ⟨g_104, hfo_103, hbg_104⟩ := un_589 (hG _ ma_22) ka_22
              refine tk_istP hx hb hK hP hD hS 0 ma_22 hfo_103 rfl (vp_in_iff.mpr (by constructor <;> omega)) dX12_laysWord_74 (fun H locs hP hD hS => ?_)
              obtain ⟨f_106, ef_106⟩ : ∃ y : Nat → va_E, y = va_up f_97 a_22 (.inl (cI, 16, .inl (upd g_104 (Int32.toNatClampNeg y_94) x_102))) := ⟨_, rfl⟩
              have hP : va_P (dC, dI) vwCl (va_pl L f_106) H := by rw [ef_106]; exact hP
              have hD : va_D (fun q => q ∈ L) (va_pl L f_106) := by rw [ef_106]; exact hD
              have hG : GI (okc cI cL cZ cR cG cH L kd) kd L f_106 := by rw [ef_106]; exact hG.set a_22 (mk_589 ka_22 ⟨_, rfl, okI_up hbg_104 (by constructor <;> omega) _⟩)
              have hfo_107 : f_106 a_1 = .inl (cI, 1560, .inl g_60) := by rw [ef_106, up_ne (kd_ne ka_22 ka_1 (by decide))]; exact hfo_98
              have hfo_108 : f_106 o0 = .inr (12, [.ref a_1, .ref a_2, .ref a_3, .int v_4, .ref a_5, .int v_6, .int v_7, .int v_8, .int v_9, .int v_10, .int v_11, .int v_12, .int v_13, .int v_14, .int v_15, .ref a_16, .ref a_17, .ref a_18, .ref a_19, .ref a_20, .ref a_21, .ref a_22, .ref a_23, .int v_81, .int v_25, .int v_26, .int v_27, .int v_28, .ref a_29, .int v_30, .ref a_31, .ref a_32, .int v_33, .int v_34, .ref a_35, .int v_36, .ref a_37, .ref a_38, .int v_39, .int v_40, .ref a_41, .ref a_42, .ref a_43, .int v_44, .ref a_45, .ref a_46, .ref a_47, .ref a_48, .ref a_49, .ref a_50, .ref a_51, .ref a_52, .ref a_53, .int v_54, .int v_55, .ref a_56]) := by rw [ef_106, up_ne (kd_ne ka_22 ko0 (by decide))]; exact hfo_99
              have hfr0 : ∀ b, kd b ≠ 12 → kd b ≠ 589 → f_106 b = f b := fun b q12 q589 => (congrFun ef_106 b).trans ((up_ne (fun e9 => q589 (by rw [e9]; exact ka_22))).trans (hfr0 b q12 q589))
              have hrA12 : ∀ b, kd b = 12 → ∀ j, fldR (f_106 b) j = fldR (f b) j := fun b kb j => (congrArg (fun x => fldR x j) ((congrFun ef_106 b).trans (up_ne (kd_ne ka_22 kb (by decide))))).trans (hrA12 b kb j)
              have hfA12 : ∀ b, kd b = 12 → ∀ j, j ≠ 23 → fldI (f_106 b) j = fldI (f b) j := fun b kb j n23 => (congrArg (fun x => fldI x j) ((congrFun ef_106 b).trans (up_ne (kd_ne ka_22 kb (by decide))))).trans (hfA12 b kb j n23)
              have hfo_109 : f_106 a_22 = .inl (cI, 16, .inl (upd g_104 (Int32.toNatClampNeg y_94) x_102)) := by rw [ef_106]; exact up_self
              refine lv_iload_n hx hb dX12_laysWord_75 rfl (lv_at hl 2 rfl) ?_
              refine lv_aload_n hx hb dX12_laysWord_76 rfl (lv_at hl 3 rfl) ?_
              refine tk_getP (D := (dC, dI)) (ci := 12) (v := .ref a_1) (C := RX12) (T := TX12) (N := 56) hx hb hU inlX12 hown hK hP mo0 hfo_108 rfl 0 (by decide) (hU _ wd_169) (fun _ h9 => h9) rfl dX12_laysWord_77 ?_
              refine lv_iconst (v := 0) hx hb dX12_laysWord_80 (by decide) ?_
              refine tk_ildP hx hb hK hP 0 ma_1 hfo_107 rfl (vp_in_nI (n := 0) (by decide) (by decide)) dX12_laysWord_81 ?_
              refine tk_topi (y := x_61) ex_61.symm ?_
              refine lv_idiv hx hb dX12_laysWord_82 (by rw [← Int32.toInt_inj, ti_0]; omega) ?_
              refine lv_topi (fun x_110 ex_110 => ?_)
              have bx_110 : (0 ≤ x_110.toInt ∧ x_110.toInt ≤ 583) := by rw [ex_110]; have h8 := dv_B (x := y_95) (y := x_61) (by omega) (by omega); constructor <;> omega
              refine lv_istore_n (lv' := [(2, .int x_110), (4, .int y_94), (3, .int y_76), (0, .ref o0), (1, .int p1)]) hx hb dX12_laysWord_83 rfl hl (by decide) rfl (fun ls hl => ?_)
              obtain ⟨x_111, ex_111⟩ : ∃ y : Int32, y_94 + (-1) = y := ⟨_, rfl⟩
              have hx_111 : x_111.toInt = y_94.toInt + (-1) := by rw [← ex_111, ad_I (by rw [ti_m1]; omega) (by rw [ti_m1]; omega), ti_m1]
              have bx_111 : ((-1) ≤ x_111.toInt ∧ x_111.toInt ≤ 1) := by constructor <;> omega
              refine lv_iinc (v := x_111) (lv' := [(4, .int x_111), (2, .int x_110), (3, .int y_76), (0, .ref o0), (1, .int p1)]) hx hb dX12_laysWord_84 hl (k := 1) rfl ex_111 (by decide) rfl (fun ls hl => ?_)
              refine lv_goto (tgt := 53) hx hb dX12_laysWord_87 (by decide) ?_
              exact ih_hloop_93 x_111 (by constructor <;> omega) x_110 (by constructor <;> omega) f_106 hG _ _ hP hS hD hfr0 hrA12 hfA12 hfo_107 hfo_108 (by omega) ls (lv_sub hl [0, 2, 1, 3, 4] rfl)
        exact hloop_93 4 x_85 (by constructor <;> omega) y_77 (by constructor <;> omega) f_79 hG _ _ hP hS hD hfr0 hrA12 hfA12 hfo_80 hfo_82 (by omega) ls hl
      · skip
        rw [Int32.lt_iff_toInt_lt] at c_84
        refine lv_iload_n hx hb dX12_laysWord_19 rfl (lv_at hl 1 rfl) ?_
        refine lv_iload_n hx hb dX12_laysWord_20 rfl (lv_at hl 0 rfl) ?_
        refine lv_isub hx hb dX12_laysWord_21 ?_
        refine lv_topi (fun x_112 ex_112 => ?_)
        have hx_112 : x_112.toInt = y_77.toInt - y_76.toInt := by rw [ex_112, sb_I (by omega) (by omega)]
        have bx_112 : ((-512) ≤ x_112.toInt ∧ x_112.toInt ≤ 583) := by constructor <;> omega
        have hclc_113 : (0 ≤ x_112.toInt ∧ x_112.toInt ≤ 583) := by constructor <;> omega
        refine lv_istore_n (lv' := [(2, .int x_112), (3, .int y_76), (0, .ref o0), (1, .int p1)]) hx hb dX12_laysWord_22 rfl hl (by decide) rfl (fun ls hl => ?_)
        refine lv_iload_n hx hb dX12_laysWord_23 rfl (lv_at hl 1 rfl) ?_
        refine lv_aload_n hx hb dX12_laysWord_24 rfl (lv_at hl 2 rfl) ?_
        refine tk_getP (D := (dC, dI)) (ci := 12) (v := .ref a_1) (C := RX12) (T := TX12) (N := 56) hx hb hU inlX12 hown hK hP mo0 hfo_82 rfl 0 (by decide) (hU _ wd_169) (fun _ h9 => h9) rfl dX12_laysWord_25 ?_
        refine lv_iconst (v := 0) hx hb dX12_laysWord_28 (by decide) ?_
        refine tk_ildP hx hb hK hP 0 ma_1 hfo_80 rfl (vp_in_nI (n := 0) (by decide) (by decide)) dX12_laysWord_29 ?_
        refine tk_topi (y := x_61) ex_61.symm ?_
        refine lv_imul hx hb dX12_laysWord_30 ?_
        refine lv_topi (fun x_114 ex_114 => ?_)
        have bx_114 : (0 ≤ x_114.toInt ∧ x_114.toInt ≤ 4096) := by rw [ex_114]; exact ml_B (a := 512) (b := 8) (by constructor <;> omega) (by constructor <;> omega) (by decide)
        have hmx_114 : x_114.toInt = y_76.toInt * x_61.toInt := by rw [ex_114]; exact ml_E (a := 512) (b := 8) (by constructor <;> omega) (by constructor <;> omega) (by decide)
        have hz1 : (y_76.toInt ≠ (g_60 0).toInt ∨ x_114.toInt = (g_60 0).toInt * (g_60 0).toInt) ∧ (y_76.toInt ≠ (g_60 0).toInt * (g_60 0).toInt ∨ x_114.toInt = (g_60 0).toInt * (g_60 0).toInt * (g_60 0).toInt) := by constructor; (· by_cases h9 : y_76.toInt = (g_60 0).toInt; (· right; rw [hmx_114, h9, hgx_61]); (· left; exact h9)); (· by_cases h9 : y_76.toInt = (g_60 0).toInt * (g_60 0).toInt; (· right; rw [hmx_114, h9, hgx_61]); (· left; exact h9))
        have hclx_114 : (0 ≤ x_114.toInt ∧ x_114.toInt ≤ 512) := by constructor <;> omega
        refine lv_istore_n (lv' := [(3, .int x_114), (2, .int x_112), (0, .ref o0), (1, .int p1)]) hx hb dX12_laysWord_31 rfl hl (by decide) rfl (fun ls hl => ?_)
        have hclc_115 : (1 ≤ v_81.toInt ∧ v_81.toInt ≤ 2) := by constructor <;> omega
        refine lv_aload_n hx hb dX12_laysWord_32 rfl (lv_at hl 2 rfl) ?_
        refine lv_dup hx hb dX12_laysWord_33 rfl ?_
        refine tk_getP (D := (dC, dI)) (ci := 12) (v := .int v_81) (C := RX12) (T := TX12) (N := 56) hx hb hU inlX12 hown hK hP mo0 hfo_82 rfl 23 (by decide) (hU _ wd_867) (fun _ h9 => h9) rfl dX12_laysWord_34 ?_
        refine lv_iconst (v := 1) hx hb dX12_laysWord_37 (by decide) ?_
        refine lv_iadd hx hb dX12_laysWord_38 ?_
        refine lv_topi (fun x_116 ex_116 => ?_)
        have hx_116 : x_116.toInt = v_81.toInt + 1 := by rw [ex_116, ad_I (by rw [ti_1]; omega) (by rw [ti_1]; omega), ti_1]
        have bx_116 : (2 ≤ x_116.toInt ∧ x_116.toInt ≤ 3) := by constructor <;> omega
        refine tk_putP (D := (dC, dI)) (ci := 12) (v := .int x_116) (ty := .int) (C := RX12) (T := TX12) (N := 56) hx hb hU inlX12 tyX12 tyX12_ok nmX12 hown hK hP hD hS mo0 hfo_82 rfl 23 (by decide) (hU _ wd_867) (fun _ h9 => h9) rfl (by decide +kernel) rfl rfl (Nat.le_of_ble_eq_true rfl) dX12_laysWord_39 (fun H locs hP hD hS => ?_)
        have fa_117 := fu12_23 (y := x_116) fa_83 (by constructor <;> omega)
        obtain ⟨f_119, ef_119⟩ : ∃ y : Nat → va_E, y = va_up f_79 o0 (.inr (12, [.ref a_1, .ref a_2, .ref a_3, .int v_4, .ref a_5, .int v_6, .int v_7, .int v_8, .int v_9, .int v_10, .int v_11, .int v_12, .int v_13, .int v_14, .int v_15, .ref a_16, .ref a_17, .ref a_18, .ref a_19, .ref a_20, .ref a_21, .ref a_22, .ref a_23, .int x_116, .int v_25, .int v_26, .int v_27, .int v_28, .ref a_29, .int v_30, .ref a_31, .ref a_32, .int v_33, .int v_34, .ref a_35, .int v_36, .ref a_37, .ref a_38, .int v_39, .int v_40, .ref a_41, .ref a_42, .ref a_43, .int v_44, .ref a_45, .ref a_46, .ref a_47, .ref a_48, .ref a_49, .ref a_50, .ref a_51, .ref a_52, .ref a_53, .int v_54, .int v_55, .ref a_56])) := ⟨_, rfl⟩
        have hP : va_P (dC, dI) vwCl (va_pl L f_119) H := by rw [ef_119]; exact hP
        have hD : va_D (fun q => q ∈ L) (va_pl L f_119) := by rw [ef_119]; exact hD
        have hG : GI (okc cI cL cZ cR cG cH L kd) kd L f_119 := by rw [ef_119]; exact hG.set o0 (mk_12 ko0 (fo12 fa_117))
        have hfo_120 : f_119 a_1 = .inl (cI, 1560, .inl g_60) := by rw [ef_119, up_ne (kd_ne ko0 ka_1 (by decide))]; exact hfo_80
        have hfr0 : ∀ b, kd b ≠ 12 → kd b ≠ 589 → f_119 b = f b := fun b q12 q589 => (congrFun ef_119 b).trans ((up_ne (fun e9 => q12 (by rw [e9]; exact ko0))).trans (hfr0 b q12 q589))
        have hrA12 : ∀ b, kd b = 12 → ∀ j, fldR (f_119 b) j = fldR (f b) j := fun b kb j => ((congrArg (fun x => fldR x j) (congrFun ef_119 b)).trans (fra_up (fun j => by rw [hfo_82]; exact fr_set (k := 23) rfl rfl) j b)).trans (hrA12 b kb j)
        have hfA12 : ∀ b, kd b = 12 → ∀ j, j ≠ 23 → fldI (f_119 b) j = fldI (f b) j := fun b kb j n23 => ((congrArg (fun x => fldI x j) (congrFun ef_119 b)).trans (fia_up (fun h9 => by rw [hfo_82]; exact fi_set (k := 23) rfl h9) n23 b)).trans (hfA12 b kb j n23)
        have hfo_121 : f_119 o0 = .inr (12, [.ref a_1, .ref a_2, .ref a_3, .int v_4, .ref a_5, .int v_6, .int v_7, .int v_8, .int v_9, .int v_10, .int v_11, .int v_12, .int v_13, .int v_14, .int v_15, .ref a_16, .ref a_17, .ref a_18, .ref a_19, .ref a_20, .ref a_21, .ref a_22, .ref a_23, .int x_116, .int v_25, .int v_26, .int v_27, .int v_28, .ref a_29, .int v_30, .ref a_31, .ref a_32, .int v_33, .int v_34, .ref a_35, .int v_36, .ref a_37, .ref a_38, .int v_39, .int v_40, .ref a_41, .ref a_42, .ref a_43, .int v_44, .ref a_45, .ref a_46, .ref a_47, .ref a_48, .ref a_49, .ref a_50, .ref a_51, .ref a_52, .ref a_53, .int v_54, .int v_55, .ref a_56]) := by rw [ef_119]; exact up_self
        refine lv_goto (tgt := 14) hx hb dX12_laysWord_42 (by decide) ?_
        exact ih_hloop_75 x_114 (by constructor <;> omega) x_112 (by constructor <;> omega) f_119 hG _ _ hP hS hD hfr0 hrA12 hfA12 hfo_120 x_116 (by rw [hfo_121]; rfl) (by omega) (by omega) (by omega) ls (lv_sub hl [0, 1, 2, 3] rfl)
  exact hloop_75 5 x_61 (by constructor <;> omega) p1 (by constructor <;> omega) f_65 hG _ _ hP hS hD hfr0 hrA12 hfA12 hfo_66 1 (by rw [hfo_67]; rfl) (by (try rw [ti_1]) <;> omega) (by (try rw [ti_1]) <;> omega) (by (try rw [ti_1]) <;> omega) ls hl
