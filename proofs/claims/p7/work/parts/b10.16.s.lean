set_option maxHeartbeats 8000000 in
set_option maxRecDepth 100000 in
theorem s_X12_closes_k12 (l : Launch) (D : va_G) (cI cL cZ cR cG cH : ClassId) (Z : zT) (kd : Nat → Nat) (L : List Nat) (f : Nat → va_E) (hG : GI (okc cI cL cZ cR cG cH L kd) kd L f) (o0 : Nat) (mo0 : o0 ∈ L) (ko0 : kd o0 = 12) (p1 : Int32) (bp1 : (0 ≤ p1.toInt ∧ p1.toInt ≤ 13)) (p2 : Int32) : mPI l D cI cL cZ cR cG cH Z yX12_closes cX12_closes 6 (some .boolean) 2 45 [.ref o0, .int p1, .int p2] L f (fun (r : Int32) (f9 : Nat → va_E) => f = f9 ∧ (0 ≤ r.toInt ∧ r.toInt ≤ 1)) := by
  obtain ⟨dC, dI⟩ := D
  refine Met.ofW (cc := cX12_closes) (maxL := 6) (ret := (some .boolean)) (by decide) rfl ?_
  intro p e s m args below meth c s₁ B hml hv
  obtain ⟨rfl, hP, hK, hD0, hN, hZ⟩ := hv
  have hx := B.exec
  have hb := B.bytes
  have hr := B.returns
  have hU : ∀ w ∈ wsU, w.before _ s = true := fun w h => atoms_spec (ws := wU yX12_closes cX12_closes 6 (some .boolean)) B.pre w (List.mem_cons_of_mem _ h)
  have hown : s.vm.findClass RX12 = some m.cls := findClass_of_methodNamed B.named
  have hlocks := B.notSynchronized
  have hD := pl_in hD0
  have hS : va_S (fun q => q ∈ L) s.heap s.heap [] := va_S.rf
  have hl := lv_entry ([.ref o0, .int p1, .int p2]) (n := 6) (Nat.le_of_ble_eq_true rfl)
  rw [lg_entry_eq]
  generalize (lg_sl ([.ref o0, .int p1, .int p2]) ++ List.replicate (6 - (lg_sl ([.ref o0, .int p1, .int p2])).length) Slot.unset).toArray = ls at hl ⊢
  have hl : lv_has ls 6 [(0, .ref o0), (1, .int p1), (2, .int p2)] := hl
  have bp2 : ((-2147483648) ≤ p2.toInt ∧ p2.toInt ≤ 2147483647) := ⟨i32_lo _, i32_hi _⟩
  refine lv_iconst (v := 0) hx hb dX12_closes_0 (by decide) ?_
  refine lv_istore_n (lv' := [(3, .int 0), (0, .ref o0), (1, .int p1), (2, .int p2)]) hx hb dX12_closes_1 rfl hl (by decide) rfl (fun ls hl => ?_)
  have hloop_13 : ∀ (n : Nat), ∀ (y_14 : Int32), (0 ≤ y_14.toInt ∧ y_14.toInt ≤ 24) → ∀ (H : Heap) (locs : List Loc), va_P (dC, dI) vwCl (va_pl L f) H → va_S (fun q => q ∈ L) s.heap H locs → 24 - y_14.toInt < (n : Int) → ∀ (ls : Array Slot), lv_has ls 6 [(3, .int y_14), (0, .ref o0), (1, .int p1), (2, .int p2)] → W p l e (headSpec (wU yX12_closes cX12_closes 6 (some .boolean)) { frames := 2, cells := 0, slots := 0, locals := 45 }).room s m [.ref o0, .int p1, .int p2].toArray below meth c H locs 0 0 (MQ below (va_Qi (fun (r : Int32) (f9 : Nat → va_E) => f = f9 ∧ (0 ≤ r.toInt ∧ r.toInt ≤ 1)) (qP (dC, dI) cI cL cZ cR cG cH L) (fun q => q ∈ L)) [.ref o0, .int p1, .int p2].toArray s 0 0 (fun q => q ∈ L)) (F0 m 2 ls []) := by
    intro n
    induction n with
    | zero => intro y_14 by_14 H locs hP hS hmuhloop_13 ls hl; exfalso; omega
    | succ n ih_hloop_13 =>
      intro y_14 by_14 H locs hP hS hmuhloop_13 ls hl
      refine lv_iload_n hx hb dX12_closes_2 rfl (lv_at hl 0 rfl) ?_
      refine lv_iconst (v := 3) hx hb dX12_closes_3 (by decide) ?_
      refine lv_aload_n hx hb dX12_closes_4 rfl (lv_at hl 1 rfl) ?_
      obtain ⟨a_17, a_18, a_19, v_20, a_21, v_22, v_23, v_24, v_25, v_26, v_27, v_28, v_29, v_30, v_31, a_32, a_33, a_34, a_35, a_36, a_37, a_38, a_39, v_40, v_41, v_42, v_43, v_44, a_45, v_46, a_47, a_48, v_49, v_50, a_51, v_52, a_53, a_54, v_55, v_56, a_57, a_58, a_59, v_60, a_61, a_62, a_63, a_64, a_65, a_66, a_67, a_68, a_69, v_70, v_71, a_72, hfo_16, ⟨ma_17, ka_17⟩, ⟨ma_18, ka_18⟩, ⟨ma_19, ka_19⟩, bv_20, ⟨ma_21, ka_21⟩, bv_22, bv_23, bv_28, bv_29, bv_30, ⟨ma_32, ka_32⟩, ⟨ma_33, ka_33⟩, ⟨ma_34, ka_34⟩, ⟨ma_35, ka_35⟩, ⟨ma_36, ka_36⟩, ⟨ma_37, ka_37⟩, ⟨ma_38, ka_38⟩, ⟨ma_39, ka_39⟩, bv_40, bv_42, bv_44, ⟨ma_45, ka_45⟩, bv_46, ⟨ma_47, ka_47⟩, ⟨ma_48, ka_48⟩, bv_49, ⟨ma_51, ka_51⟩, bv_52, ⟨ma_53, ka_53⟩, ⟨ma_54, ka_54⟩, bv_55, ⟨ma_57, ka_57⟩, ⟨ma_58, ka_58⟩, ⟨ma_59, ka_59⟩, bv_60, ⟨ma_61, ka_61⟩, ⟨ma_62, ka_62⟩, ⟨ma_63, ka_63⟩, ⟨ma_64, ka_64⟩, ⟨ma_65, ka_65⟩, ⟨ma_66, ka_66⟩, ⟨ma_67, ka_67⟩, ⟨ma_68, ka_68⟩, ⟨ma_69, ka_69⟩, bv_70, ⟨ma_72, ka_72⟩⟩ := un_12 (hG _ mo0) ko0
      have bv_24 : ((-2147483648) ≤ v_24.toInt ∧ v_24.toInt ≤ 2147483647) := ⟨i32_lo _, i32_hi _⟩
      have bv_25 : ((-2147483648) ≤ v_25.toInt ∧ v_25.toInt ≤ 2147483647) := ⟨i32_lo _, i32_hi _⟩
      have bv_26 : ((-2147483648) ≤ v_26.toInt ∧ v_26.toInt ≤ 2147483647) := ⟨i32_lo _, i32_hi _⟩
      have bv_27 : ((-2147483648) ≤ v_27.toInt ∧ v_27.toInt ≤ 2147483647) := ⟨i32_lo _, i32_hi _⟩
      have bv_31 : ((-2147483648) ≤ v_31.toInt ∧ v_31.toInt ≤ 2147483647) := ⟨i32_lo _, i32_hi _⟩
      have bv_41 : ((-2147483648) ≤ v_41.toInt ∧ v_41.toInt ≤ 2147483647) := ⟨i32_lo _, i32_hi _⟩
      have bv_43 : ((-2147483648) ≤ v_43.toInt ∧ v_43.toInt ≤ 2147483647) := ⟨i32_lo _, i32_hi _⟩
      have bv_50 : ((-2147483648) ≤ v_50.toInt ∧ v_50.toInt ≤ 2147483647) := ⟨i32_lo _, i32_hi _⟩
      have bv_56 : ((-2147483648) ≤ v_56.toInt ∧ v_56.toInt ≤ 2147483647) := ⟨i32_lo _, i32_hi _⟩
      have bv_71 : ((-2147483648) ≤ v_71.toInt ∧ v_71.toInt ≤ 2147483647) := ⟨i32_lo _, i32_hi _⟩
      refine tk_getP (D := (dC, dI)) (ci := 12) (v := .ref a_17) (C := RX12) (T := TX12) (N := 56) hx hb hU inlX12 hown hK hP mo0 hfo_16 rfl 0 (by decide) (hU _ wd_169) (fun _ h9 => h9) rfl dX12_closes_5 ?_
      refine lv_bipush (v := 17) hx hb dX12_closes_8 (by decide) ?_
      obtain ⟨g_74, hfo_73, hbg_74⟩ := un_575 (hG _ ma_17) ka_17
      refine tk_ildP hx hb hK hP 0 ma_17 hfo_73 rfl (vp_in_nI (n := 17) (by decide) (by decide)) dX12_closes_10 ?_
      refine lv_topi (fun x_75 ex_75 => ?_)
      have bx_75 : (0 ≤ x_75.toInt ∧ x_75.toInt ≤ 8) := by rw [ex_75]; exact hbg_74.2.2.1 _ (by decide) (by decide) (by decide)
      refine lv_imul hx hb dX12_closes_11 ?_
      refine lv_topi (fun x_76 ex_76 => ?_)
      have hx_76 : x_76.toInt = 3 * x_75.toInt := by rw [ex_76, ml_I (by rw [ti_3]; omega) (by rw [ti_3]; omega), ti_3]
      have bx_76 : (0 ≤ x_76.toInt ∧ x_76.toInt ≤ 24) := by constructor <;> omega
      refine lv_icmp_ge (tgt := 65) hx hb dX12_closes_12 (by decide) (fun c_77 => ?_) (fun c_77 => ?_)
      · skip
        rw [Int32.le_iff_toInt_le] at c_77
        refine lv_iconst (v := 0) hx hb dX12_closes_65 (by decide) ?_
        refine lv_istore_n (lv' := [(3, .int 0), (0, .ref o0), (1, .int p1), (2, .int p2)]) hx hb dX12_closes_66 rfl hl (by decide) rfl (fun ls hl => ?_)
        have hloop_96 : ∀ (n : Nat), ∀ (y_97 : Int32), (0 ≤ y_97.toInt ∧ y_97.toInt ≤ 104) → ∀ (H : Heap) (locs : List Loc), va_P (dC, dI) vwCl (va_pl L f) H → va_S (fun q => q ∈ L) s.heap H locs → 104 - y_97.toInt < (n : Int) → ∀ (ls : Array Slot), lv_has ls 6 [(3, .int y_97), (0, .ref o0), (1, .int p1), (2, .int p2)] → W p l e (headSpec (wU yX12_closes cX12_closes 6 (some .boolean)) { frames := 2, cells := 0, slots := 0, locals := 45 }).room s m [.ref o0, .int p1, .int p2].toArray below meth c H locs 0 0 (MQ below (va_Qi (fun (r : Int32) (f9 : Nat → va_E) => f = f9 ∧ (0 ≤ r.toInt ∧ r.toInt ≤ 1)) (qP (dC, dI) cI cL cZ cR cG cH L) (fun q => q ∈ L)) [.ref o0, .int p1, .int p2].toArray s 0 0 (fun q => q ∈ L)) (F0 m 67 ls []) := by
          intro n
          induction n with
          | zero => intro y_97 by_97 H locs hP hS hmuhloop_96 ls hl; exfalso; omega
          | succ n ih_hloop_96 =>
            intro y_97 by_97 H locs hP hS hmuhloop_96 ls hl
            refine lv_iload_n hx hb dX12_closes_67 rfl (lv_at hl 0 rfl) ?_
            refine lv_aload_n hx hb dX12_closes_68 rfl (lv_at hl 1 rfl) ?_
            refine tk_getP (D := (dC, dI)) (ci := 12) (v := .ref a_36) (C := RX12) (T := TX12) (N := 56) hx hb hU inlX12 hown hK hP mo0 hfo_16 rfl 19 (by decide) (hU _ wd_179) (fun _ h9 => h9) rfl dX12_closes_69 ?_
            refine lv_iload_n hx hb dX12_closes_72 rfl (lv_at hl 2 rfl) ?_
            obtain ⟨g_100, hfo_99, hbg_100⟩ := un_587 (hG _ ma_36) ka_36
            refine tk_ildP hx hb hK hP 0 ma_36 hfo_99 rfl (vp_in_iff.mpr (by constructor <;> omega)) dX12_closes_73 ?_
            refine lv_topi (fun x_101 ex_101 => ?_)
            have hx_101 : 0 ≤ x_101.toInt ∧ x_101.toInt ≤ 8 * p1.toInt := by have hc9 := cl_I (i := p1) (by omega); have h8 := hbg_100 (Int32.toNatClampNeg p1); rw [ex_101]; constructor <;> omega
            have bx_101 : (0 ≤ x_101.toInt ∧ x_101.toInt ≤ 104) := by constructor <;> omega
            refine lv_icmp_ge (tgt := 170) hx hb dX12_closes_74 (by decide) (fun c_102 => ?_) (fun c_102 => ?_)
            · skip
              rw [Int32.le_iff_toInt_le] at c_102
              refine lv_iconst (v := 1) hx hb dX12_closes_170 (by decide) ?_
              exact W.zret (v := 1) (ty := .boolean) hx hb hr rfl (fun t ht hW => ⟨⟨1, f, rfl, ⟨rfl, (by decide)⟩, by rw [ht]; exact hP, va_K.moved hW.alike hK, pl_in hD⟩, hS.F ht⟩) hS.2.2 dX12_closes_171
            · skip
              rw [Int32.le_iff_toInt_le] at c_102
              refine lv_iconst (v := 0) hx hb dX12_closes_77 (by decide) ?_
              refine lv_istore (lv' := [(4, .int 0), (3, .int y_97), (0, .ref o0), (1, .int p1), (2, .int p2)]) hx hb dX12_closes_78 hl (by decide) rfl (fun ls hl => ?_)
              refine lv_iconst (v := 0) hx hb dX12_closes_80 (by decide) ?_
              refine lv_istore (lv' := [(5, .int 0), (4, .int 0), (3, .int y_97), (0, .ref o0), (1, .int p1), (2, .int p2)]) hx hb dX12_closes_81 hl (by decide) rfl (fun ls hl => ?_)
              have hloop_127 : ∀ (n : Nat), ∀ (y_128 : Int32), (0 ≤ y_128.toInt ∧ y_128.toInt ≤ 3) → ∀ (y_129 : Int32), (0 ≤ y_129.toInt ∧ y_129.toInt ≤ 1) → ∀ (H : Heap) (locs : List Loc), va_P (dC, dI) vwCl (va_pl L f) H → va_S (fun q => q ∈ L) s.heap H locs → 3 - y_128.toInt < (n : Int) → ∀ (ls : Array Slot), lv_has ls 6 [(5, .int y_128), (4, .int y_129), (3, .int y_97), (0, .ref o0), (1, .int p1), (2, .int p2)] → W p l e (headSpec (wU yX12_closes cX12_closes 6 (some .boolean)) { frames := 2, cells := 0, slots := 0, locals := 45 }).room s m [.ref o0, .int p1, .int p2].toArray below meth c H locs 0 0 (MQ below (va_Qi (fun (r : Int32) (f9 : Nat → va_E) => f = f9 ∧ (0 ≤ r.toInt ∧ r.toInt ≤ 1)) (qP (dC, dI) cI cL cZ cR cG cH L) (fun q => q ∈ L)) [.ref o0, .int p1, .int p2].toArray s 0 0 (fun q => q ∈ L)) (F0 m 83 ls []) := by
                intro n
                induction n with
                | zero => intro y_128 by_128 y_129 by_129 H locs hP hS hmuhloop_127 ls hl; exfalso; omega
                | succ n ih_hloop_127 =>
                  intro y_128 by_128 y_129 by_129 H locs hP hS hmuhloop_127 ls hl
                  refine lv_iload hx hb dX12_closes_83 (lv_at hl 0 rfl) ?_
                  refine lv_iconst (v := 3) hx hb dX12_closes_85 (by decide) ?_
                  refine lv_icmp_ge (tgt := 157) hx hb dX12_closes_86 (by decide) (fun c_131 => ?_) (fun c_131 => ?_)
                  · skip
                    rw [Int32.le_iff_toInt_le, ti_3] at c_131
                    refine lv_iload hx hb dX12_closes_157 (lv_at hl 1 rfl) ?_
                    refine lv_if_ne (tgt := 164) hx hb dX12_closes_159 (by decide) (fun c_132 => ?_) (fun c_132 => ?_)
                    · skip
                      rw [← Int32.toInt_inj, ti_0] at c_132
                      obtain ⟨x_133, ex_133⟩ : ∃ y : Int32, y_97 + 1 = y := ⟨_, rfl⟩
                      have hx_133 : x_133.toInt = y_97.toInt + 1 := by rw [← ex_133, ad_I (by rw [ti_1]; omega) (by rw [ti_1]; omega), ti_1]
                      have bx_133 : (1 ≤ x_133.toInt ∧ x_133.toInt ≤ 104) := by constructor <;> omega
                      refine lv_iinc (v := x_133) (lv' := [(3, .int x_133), (5, .int y_128), (4, .int y_129), (0, .ref o0), (1, .int p1), (2, .int p2)]) hx hb dX12_closes_164 hl (k := 2) rfl ex_133 (by decide) rfl (fun ls hl => ?_)
                      refine lv_goto (tgt := 67) hx hb dX12_closes_167 (by decide) ?_
                      exact ih_hloop_96 x_133 (by constructor <;> omega) _ _ hP hS (by omega) ls (lv_sub hl [0, 3, 4, 5] rfl)
                    · skip
                      rw [← Int32.toInt_inj, ti_0] at c_132
                      refine lv_iconst (v := 0) hx hb dX12_closes_162 (by decide) ?_
                      exact W.zret (v := 0) (ty := .boolean) hx hb hr rfl (fun t ht hW => ⟨⟨0, f, rfl, ⟨rfl, (by decide)⟩, by rw [ht]; exact hP, va_K.moved hW.alike hK, pl_in hD⟩, hS.F ht⟩) hS.2.2 dX12_closes_163
                  · skip
                    rw [Int32.le_iff_toInt_le, ti_3] at c_131
                    refine lv_iload hx hb dX12_closes_89 (lv_at hl 1 rfl) ?_
                    have hcut_136 : ∀ (y_134 : Int32), (0 ≤ y_134.toInt ∧ y_134.toInt ≤ 1) → ∀ (H : Heap) (locs : List Loc), va_P (dC, dI) vwCl (va_pl L f) H → va_S (fun q => q ∈ L) s.heap H locs → ∀ (ls : Array Slot), lv_has ls 6 [(5, .int y_128), (4, .int y_129), (3, .int y_97), (0, .ref o0), (1, .int p1), (2, .int p2)] → W p l e (headSpec (wU yX12_closes cX12_closes 6 (some .boolean)) { frames := 2, cells := 0, slots := 0, locals := 45 }).room s m [.ref o0, .int p1, .int p2].toArray below meth c H locs 0 0 (MQ below (va_Qi (fun (r : Int32) (f9 : Nat → va_E) => f = f9 ∧ (0 ≤ r.toInt ∧ r.toInt ≤ 1)) (qP (dC, dI) cI cL cZ cR cG cH L) (fun q => q ∈ L)) [.ref o0, .int p1, .int p2].toArray s 0 0 (fun q => q ∈ L)) (F0 m 149 ls [.int y_134]) := by
                      intro y_134 by_134 H locs hP hS ls hl
                      refine lv_istore (lv' := [(4, .int y_134), (5, .int y_128), (3, .int y_97), (0, .ref o0), (1, .int p1), (2, .int p2)]) hx hb dX12_closes_149 hl (by decide) rfl (fun ls hl => ?_)
                      obtain ⟨x_137, ex_137⟩ : ∃ y : Int32, y_128 + 1 = y := ⟨_, rfl⟩
                      have hx_137 : x_137.toInt = y_128.toInt + 1 := by rw [← ex_137, ad_I (by rw [ti_1]; omega) (by rw [ti_1]; omega), ti_1]
                      have bx_137 : (1 ≤ x_137.toInt ∧ x_137.toInt ≤ 3) := by constructor <;> omega
                      refine lv_iinc (v := x_137) (lv' := [(5, .int x_137), (4, .int y_134), (3, .int y_97), (0, .ref o0), (1, .int p1), (2, .int p2)]) hx hb dX12_closes_151 hl (k := 1) rfl ex_137 (by decide) rfl (fun ls hl => ?_)
                      refine lv_goto (tgt := 83) hx hb dX12_closes_154 (by decide) ?_
                      exact ih_hloop_127 x_137 (by constructor <;> omega) y_134 (by constructor <;> omega) _ _ hP hS (by omega) ls (lv_sub hl [0, 1, 2, 3, 4, 5] rfl)
                    refine lv_if_ne (tgt := 144) hx hb dX12_closes_91 (by decide) (fun c_138 => ?_) (fun c_138 => ?_)
                    · skip
                      rw [← Int32.toInt_inj, ti_0] at c_138
                      refine lv_iconst (v := 1) hx hb dX12_closes_144 (by decide) ?_
                      refine lv_goto (tgt := 149) hx hb dX12_closes_145 (by decide) ?_
                      exact hcut_136 1 (by decide) _ _ hP hS ls (lv_sub hl [0, 1, 2, 3, 4, 5] rfl)
                    · skip
                      rw [← Int32.toInt_inj, ti_0] at c_138
                      refine lv_aload_n hx hb dX12_closes_94 rfl (lv_at hl 3 rfl) ?_
                      refine tk_getP (D := (dC, dI)) (ci := 12) (v := .ref a_35) (C := RX12) (T := TX12) (N := 56) hx hb hU inlX12 hown hK hP mo0 hfo_16 rfl 18 (by decide) (hU _ wd_178) (fun _ h9 => h9) rfl dX12_closes_95 ?_
                      refine lv_iload_n hx hb dX12_closes_98 rfl (lv_at hl 4 rfl) ?_
                      obtain ⟨g_140, hfo_139, hbg_140⟩ := un_586 (hG _ ma_35) ka_35
                      obtain ⟨a_141, hga_141, ma_141, ka_141⟩ := hbg_140 (Int32.toNatClampNeg p1) (in_lt (vp_in_iff.mpr (by constructor <;> omega)))
                      refine tk_aldA hx hb hK hP 4 ma_35 hfo_139 rfl (vp_in_iff.mpr (by constructor <;> omega)) hga_141 dX12_closes_99 ?_
                      refine lv_iconst (v := 3) hx hb dX12_closes_100 (by decide) ?_
                      refine lv_iload_n hx hb dX12_closes_101 rfl (lv_at hl 2 rfl) ?_
                      refine lv_imul hx hb dX12_closes_102 ?_
                      refine lv_topi (fun x_142 ex_142 => ?_)
                      have hx_142 : x_142.toInt = 3 * y_97.toInt := by rw [ex_142, ml_I (by rw [ti_3]; omega) (by rw [ti_3]; omega), ti_3]
                      have bx_142 : (0 ≤ x_142.toInt ∧ x_142.toInt ≤ 309) := by constructor <;> omega
                      refine lv_iload hx hb dX12_closes_103 (lv_at hl 0 rfl) ?_
                      refine lv_iadd hx hb dX12_closes_105 ?_
                      refine lv_topi (fun x_143 ex_143 => ?_)
                      have hx_143 : x_143.toInt = x_142.toInt + y_128.toInt := by rw [ex_143, ad_I (by omega) (by omega)]
                      have bx_143 : (0 ≤ x_143.toInt ∧ x_143.toInt ≤ 311) := by constructor <;> omega
                      obtain ⟨g_145, hfo_144, hbg_145⟩ := un_585 (hG _ ma_141) ka_141
                      refine tk_ildP hx hb hK hP 0 ma_141 hfo_144 rfl (vp_in_iff.mpr (by constructor <;> omega)) dX12_closes_106 ?_
                      refine lv_topi (fun x_146 ex_146 => ?_)
                      have bx_146 : ((-2147483648) ≤ x_146.toInt ∧ x_146.toInt ≤ 2147483647) := ⟨i32_lo _, i32_hi _⟩
                      refine lv_if_eq (tgt := 148) hx hb dX12_closes_107 (by decide) (fun c_147 => ?_) (fun c_147 => ?_)
                      · skip
                        rw [← Int32.toInt_inj, ti_0] at c_147
                        refine lv_iconst (v := 0) hx hb dX12_closes_148 (by decide) ?_
                        exact hcut_136 0 (by decide) _ _ hP hS ls (lv_sub hl [0, 1, 2, 3, 4, 5] rfl)
                      · skip
                        rw [← Int32.toInt_inj, ti_0] at c_147
                        refine lv_aload_n hx hb dX12_closes_110 rfl (lv_at hl 3 rfl) ?_
                        refine lv_iconst (v := 3) hx hb dX12_closes_111 (by decide) ?_
                        refine lv_aload_n hx hb dX12_closes_112 rfl (lv_at hl 3 rfl) ?_
                        refine tk_getP (D := (dC, dI)) (ci := 12) (v := .ref a_34) (C := RX12) (T := TX12) (N := 56) hx hb hU inlX12 hown hK hP mo0 hfo_16 rfl 17 (by decide) (hU _ wd_177) (fun _ h9 => h9) rfl dX12_closes_113 ?_
                        refine lv_iload_n hx hb dX12_closes_116 rfl (lv_at hl 4 rfl) ?_
                        obtain ⟨g_149, hfo_148, hbg_149⟩ := un_584 (hG _ ma_34) ka_34
                        obtain ⟨a_150, hga_150, ma_150, ka_150⟩ := hbg_149 (Int32.toNatClampNeg p1) (in_lt (vp_in_iff.mpr (by constructor <;> omega)))
                        refine tk_aldA hx hb hK hP 4 ma_34 hfo_148 rfl (vp_in_iff.mpr (by constructor <;> omega)) hga_150 dX12_closes_117 ?_
                        refine lv_iload_n hx hb dX12_closes_118 rfl (lv_at hl 2 rfl) ?_
                        obtain ⟨g_152, hfo_151, hbg_152⟩ := un_583 (hG _ ma_150) ka_150
                        refine tk_ildP hx hb hK hP 0 ma_150 hfo_151 rfl (vp_in_iff.mpr (by constructor <;> omega)) dX12_closes_119 ?_
                        refine lv_topi (fun x_153 ex_153 => ?_)
                        have bx_153 : (0 ≤ x_153.toInt ∧ x_153.toInt ≤ 7) := by rw [ex_153]; exact hbg_152 _
                        refine lv_imul hx hb dX12_closes_120 ?_
                        refine lv_topi (fun x_154 ex_154 => ?_)
                        have hx_154 : x_154.toInt = 3 * x_153.toInt := by rw [ex_154, ml_I (by rw [ti_3]; omega) (by rw [ti_3]; omega), ti_3]
                        have bx_154 : (0 ≤ x_154.toInt ∧ x_154.toInt ≤ 21) := by constructor <;> omega
                        refine lv_iload hx hb dX12_closes_121 (lv_at hl 0 rfl) ?_
                        refine lv_iadd hx hb dX12_closes_123 ?_
                        refine lv_topi (fun x_155 ex_155 => ?_)
                        have hx_155 : x_155.toInt = x_154.toInt + y_128.toInt := by rw [ex_155, ad_I (by omega) (by omega)]
                        have bx_155 : (0 ≤ x_155.toInt ∧ x_155.toInt ≤ 23) := by constructor <;> omega
                        refine lv_iconst (v := 1) hx hb dX12_closes_124 (by decide) ?_
                        refine lv_aload_n hx hb dX12_closes_125 rfl (lv_at hl 3 rfl) ?_
                        refine tk_getP (D := (dC, dI)) (ci := 12) (v := .ref a_35) (C := RX12) (T := TX12) (N := 56) hx hb hU inlX12 hown hK hP mo0 hfo_16 rfl 18 (by decide) (hU _ wd_178) (fun _ h9 => h9) rfl dX12_closes_126 ?_
                        refine lv_iload_n hx hb dX12_closes_129 rfl (lv_at hl 4 rfl) ?_
                        obtain ⟨a_156, hga_156, ma_156, ka_156⟩ := hbg_140 (Int32.toNatClampNeg p1) (in_lt (vp_in_iff.mpr (by constructor <;> omega)))
                        refine tk_aldA hx hb hK hP 4 ma_35 hfo_139 rfl (vp_in_iff.mpr (by constructor <;> omega)) hga_156 dX12_closes_130 ?_
                        refine lv_iconst (v := 3) hx hb dX12_closes_131 (by decide) ?_
                        refine lv_iload_n hx hb dX12_closes_132 rfl (lv_at hl 2 rfl) ?_
                        refine lv_imul hx hb dX12_closes_133 ?_
                        refine lv_topi (fun x_157 ex_157 => ?_)
                        have hx_157 : x_157.toInt = 3 * y_97.toInt := by rw [ex_157, ml_I (by rw [ti_3]; omega) (by rw [ti_3]; omega), ti_3]
                        have bx_157 : (0 ≤ x_157.toInt ∧ x_157.toInt ≤ 309) := by constructor <;> omega
                        refine lv_iload hx hb dX12_closes_134 (lv_at hl 0 rfl) ?_
                        refine lv_iadd hx hb dX12_closes_136 ?_
                        refine lv_topi (fun x_158 ex_158 => ?_)
                        have hx_158 : x_158.toInt = x_157.toInt + y_128.toInt := by rw [ex_158, ad_I (by omega) (by omega)]
                        have bx_158 : (0 ≤ x_158.toInt ∧ x_158.toInt ≤ 311) := by constructor <;> omega
                        obtain ⟨g_160, hfo_159, hbg_160⟩ := un_585 (hG _ ma_156) ka_156
                        refine tk_ildP hx hb hK hP 0 ma_156 hfo_159 rfl (vp_in_iff.mpr (by constructor <;> omega)) dX12_closes_137 ?_
                        refine lv_topi (fun x_161 ex_161 => ?_)
                        have bx_161 : ((-2147483648) ≤ x_161.toInt ∧ x_161.toInt ≤ 2147483647) := ⟨i32_lo _, i32_hi _⟩
                        refine tk_ViP (As := [.int x_155, .int 1, .int x_161]) (rest := []) (n := 3) hx hb hml hown hU hN hZ (s_X12_isDone_k12 l (dC, dI) cI cL cZ cR cG cH Z kd L f hG o0 mo0 ko0 x_155 (by constructor <;> omega) 1 (by decide) x_161) wd_898 wd_899 wd_900 wd_5 wd_901 (by decide +kernel) ⟨Nat.le_of_ble_eq_true rfl, Nat.le_of_ble_eq_true rfl⟩ hK hP hD hS mo0 hfo_16 12 rfl rfl rfl hl.1 rfl (Nat.le_of_ble_eq_true rfl) dX12_closes_138 ⟨Nat.le_of_ble_eq_true rfl, Nat.le_of_ble_eq_true rfl⟩ (fun x_162 f_163 H locs hw hP hD hS => ?_)
                        obtain ⟨rfl, bx_162⟩ := hw
                        refine lv_if_eq (tgt := 148) hx hb dX12_closes_141 (by decide) (fun c_165 => ?_) (fun c_165 => ?_)
                        · skip
                          rw [← Int32.toInt_inj, ti_0] at c_165
                          refine lv_iconst (v := 0) hx hb dX12_closes_148 (by decide) ?_
                          exact hcut_136 0 (by decide) _ _ hP hS ls (lv_sub hl [0, 1, 2, 3, 4, 5] rfl)
                        · skip
                          rw [← Int32.toInt_inj, ti_0] at c_165
                          refine lv_iconst (v := 1) hx hb dX12_closes_144 (by decide) ?_
                          refine lv_goto (tgt := 149) hx hb dX12_closes_145 (by decide) ?_
                          exact hcut_136 1 (by decide) _ _ hP hS ls (lv_sub hl [0, 1, 2, 3, 4, 5] rfl)
              exact hloop_127 4 0 (by decide) 0 (by decide) _ _ hP hS (by (try rw [ti_0]) <;> omega) ls hl
        exact hloop_96 105 0 (by decide) _ _ hP hS (by (try rw [ti_0]) <;> omega) ls hl
      · skip
        rw [Int32.le_iff_toInt_le] at c_77
        refine lv_iload_n hx hb dX12_closes_15 rfl (lv_at hl 3 rfl) ?_
        refine lv_iload_n hx hb dX12_closes_16 rfl (lv_at hl 0 rfl) ?_
        refine lv_iconst (v := 3) hx hb dX12_closes_17 (by decide) ?_
        refine lv_idiv hx hb dX12_closes_18 (by decide) ?_
        refine lv_topi (fun x_166 ex_166 => ?_)
        have hx_166 : x_166.toInt = y_14.toInt / 3 := by rw [ex_166, dv_I (by omega) (by rw [ti_3]; omega), ti_3]
        have bx_166 : (0 ≤ x_166.toInt ∧ x_166.toInt ≤ 7) := by constructor <;> omega
        refine lv_ishr hx hb dX12_closes_19 ?_
        refine lv_topi (fun x_167 ex_167 => ?_)
        have bx_167 : ((-2147483648) ≤ x_167.toInt ∧ x_167.toInt ≤ 2147483647) := ⟨i32_lo _, i32_hi _⟩
        refine lv_iconst (v := 1) hx hb dX12_closes_20 (by decide) ?_
        refine lv_iand hx hb dX12_closes_21 ?_
        refine lv_topi (fun x_168 ex_168 => ?_)
        have bx_168 : (0 ≤ x_168.toInt ∧ x_168.toInt ≤ 1) := by rw [ex_168]; have h8 := an_C x_167 (m := 1) (by decide); rw [ti_1] at h8; exact h8
        refine lv_iconst (v := 1) hx hb dX12_closes_22 (by decide) ?_
        refine lv_icmp_ne (tgt := 59) hx hb dX12_closes_23 (by decide) (fun c_169 => ?_) (fun c_169 => ?_)
        · skip
          rw [← Int32.toInt_inj, ti_1] at c_169
          obtain ⟨x_170, ex_170⟩ : ∃ y : Int32, y_14 + 1 = y := ⟨_, rfl⟩
          have hx_170 : x_170.toInt = y_14.toInt + 1 := by rw [← ex_170, ad_I (by rw [ti_1]; omega) (by rw [ti_1]; omega), ti_1]
          have bx_170 : (1 ≤ x_170.toInt ∧ x_170.toInt ≤ 24) := by constructor <;> omega
          refine lv_iinc (v := x_170) (lv' := [(3, .int x_170), (0, .ref o0), (1, .int p1), (2, .int p2)]) hx hb dX12_closes_59 hl (k := 0) rfl ex_170 (by decide) rfl (fun ls hl => ?_)
          refine lv_goto (tgt := 2) hx hb dX12_closes_62 (by decide) ?_
          exact ih_hloop_13 x_170 (by constructor <;> omega) _ _ hP hS (by omega) ls (lv_sub hl [0, 1, 2, 3] rfl)
        · skip
          rw [← Int32.toInt_inj, ti_1] at c_169
          refine lv_iload_n hx hb dX12_closes_26 rfl (lv_at hl 0 rfl) ?_
          refine lv_iconst (v := 3) hx hb dX12_closes_27 (by decide) ?_
          refine lv_irem hx hb dX12_closes_28 (by decide) ?_
          refine lv_topi (fun x_171 ex_171 => ?_)
          have hx_171 : x_171.toInt = y_14.toInt % 3 := by rw [ex_171, rm_I (by omega) (by rw [ti_3]; omega), ti_3]
          have bx_171 : (0 ≤ x_171.toInt ∧ x_171.toInt ≤ 2) := by constructor <;> omega
          refine lv_aload_n hx hb dX12_closes_29 rfl (lv_at hl 1 rfl) ?_
          refine lv_iload_n hx hb dX12_closes_30 rfl (lv_at hl 0 rfl) ?_
          refine lv_iconst (v := 3) hx hb dX12_closes_31 (by decide) ?_
          refine lv_idiv hx hb dX12_closes_32 (by decide) ?_
          refine lv_topi (fun x_172 ex_172 => ?_)
          have hx_172 : x_172.toInt = y_14.toInt / 3 := by rw [ex_172, dv_I (by omega) (by rw [ti_3]; omega), ti_3]
          have bx_172 : (0 ≤ x_172.toInt ∧ x_172.toInt ≤ 7) := by constructor <;> omega
          refine lv_iconst (v := 3) hx hb dX12_closes_33 (by decide) ?_
          refine tk_ViP (As := [.int x_172, .int 3]) (rest := [.int x_171]) (n := 2) hx hb hml hown hU hN hZ (s_X12_ofRule_k12_c3_3 l (dC, dI) cI cL cZ cR cG cH Z kd L f hG o0 mo0 ko0 x_172 (by constructor <;> omega)) wd_894 wd_895 wd_896 wd_5 wd_897 (by decide +kernel) ⟨Nat.le_of_ble_eq_true rfl, Nat.le_of_ble_eq_true rfl⟩ hK hP hD hS mo0 hfo_16 12 rfl rfl rfl hl.1 rfl (Nat.le_of_ble_eq_true rfl) dX12_closes_34 ⟨Nat.le_of_ble_eq_true rfl, Nat.le_of_ble_eq_true rfl⟩ (fun x_173 f_174 H locs hw hP hD hS => ?_)
          obtain ⟨rfl, bx_173⟩ := hw
          refine lv_icmp_ge (tgt := 59) hx hb dX12_closes_37 (by decide) (fun c_176 => ?_) (fun c_176 => ?_)
          · skip
            rw [Int32.le_iff_toInt_le] at c_176
            obtain ⟨x_177, ex_177⟩ : ∃ y : Int32, y_14 + 1 = y := ⟨_, rfl⟩
            have hx_177 : x_177.toInt = y_14.toInt + 1 := by rw [← ex_177, ad_I (by rw [ti_1]; omega) (by rw [ti_1]; omega), ti_1]
            have bx_177 : (1 ≤ x_177.toInt ∧ x_177.toInt ≤ 24) := by constructor <;> omega
            refine lv_iinc (v := x_177) (lv' := [(3, .int x_177), (0, .ref o0), (1, .int p1), (2, .int p2)]) hx hb dX12_closes_59 hl (k := 0) rfl ex_177 (by decide) rfl (fun ls hl => ?_)
            refine lv_goto (tgt := 2) hx hb dX12_closes_62 (by decide) ?_
            exact ih_hloop_13 x_177 (by constructor <;> omega) _ _ hP hS (by omega) ls (lv_sub hl [0, 1, 2, 3] rfl)
          · skip
            rw [Int32.le_iff_toInt_le] at c_176
            refine lv_aload_n hx hb dX12_closes_40 rfl (lv_at hl 1 rfl) ?_
            refine lv_iload_n hx hb dX12_closes_41 rfl (lv_at hl 0 rfl) ?_
            refine lv_iconst (v := 1) hx hb dX12_closes_42 (by decide) ?_
            refine lv_aload_n hx hb dX12_closes_43 rfl (lv_at hl 1 rfl) ?_
            refine tk_getP (D := (dC, dI)) (ci := 12) (v := .ref a_33) (C := RX12) (T := TX12) (N := 56) hx hb hU inlX12 hown hK hP mo0 hfo_16 rfl 16 (by decide) (hU _ wd_176) (fun _ h9 => h9) rfl dX12_closes_44 ?_
            refine lv_iload_n hx hb dX12_closes_47 rfl (lv_at hl 2 rfl) ?_
            obtain ⟨g_179, hfo_178, hbg_179⟩ := un_582 (hG _ ma_33) ka_33
            obtain ⟨a_180, hga_180, ma_180, ka_180⟩ := hbg_179 (Int32.toNatClampNeg p1) (in_lt (vp_in_iff.mpr (by constructor <;> omega)))
            refine tk_aldA hx hb hK hP 4 ma_33 hfo_178 rfl (vp_in_iff.mpr (by constructor <;> omega)) hga_180 dX12_closes_48 ?_
            refine lv_iload_n hx hb dX12_closes_49 rfl (lv_at hl 0 rfl) ?_
            obtain ⟨g_182, hfo_181, hbg_182⟩ := un_581 (hG _ ma_180) ka_180
            refine tk_ildP hx hb hK hP 0 ma_180 hfo_181 rfl (vp_in_iff.mpr (by constructor <;> omega)) dX12_closes_50 ?_
            refine lv_topi (fun x_183 ex_183 => ?_)
            have bx_183 : ((-2147483648) ≤ x_183.toInt ∧ x_183.toInt ≤ 2147483647) := ⟨i32_lo _, i32_hi _⟩
            refine tk_ViP (As := [.int y_14, .int 1, .int x_183]) (rest := []) (n := 3) hx hb hml hown hU hN hZ (s_X12_isDone_k12 l (dC, dI) cI cL cZ cR cG cH Z kd L f hG o0 mo0 ko0 y_14 (by constructor <;> omega) 1 (by decide) x_183) wd_898 wd_899 wd_900 wd_5 wd_901 (by decide +kernel) ⟨Nat.le_of_ble_eq_true rfl, Nat.le_of_ble_eq_true rfl⟩ hK hP hD hS mo0 hfo_16 12 rfl rfl rfl hl.1 rfl (Nat.le_of_ble_eq_true rfl) dX12_closes_51 ⟨Nat.le_of_ble_eq_true rfl, Nat.le_of_ble_eq_true rfl⟩ (fun x_184 f_185 H locs hw hP hD hS => ?_)
            obtain ⟨rfl, bx_184⟩ := hw
            refine lv_if_eq (tgt := 59) hx hb dX12_closes_54 (by decide) (fun c_187 => ?_) (fun c_187 => ?_)
            · skip
              rw [← Int32.toInt_inj, ti_0] at c_187
              obtain ⟨x_188, ex_188⟩ : ∃ y : Int32, y_14 + 1 = y := ⟨_, rfl⟩
              have hx_188 : x_188.toInt = y_14.toInt + 1 := by rw [← ex_188, ad_I (by rw [ti_1]; omega) (by rw [ti_1]; omega), ti_1]
              have bx_188 : (1 ≤ x_188.toInt ∧ x_188.toInt ≤ 24) := by constructor <;> omega
              refine lv_iinc (v := x_188) (lv' := [(3, .int x_188), (0, .ref o0), (1, .int p1), (2, .int p2)]) hx hb dX12_closes_59 hl (k := 0) rfl ex_188 (by decide) rfl (fun ls hl => ?_)
              refine lv_goto (tgt := 2) hx hb dX12_closes_62 (by decide) ?_
              exact ih_hloop_13 x_188 (by constructor <;> omega) _ _ hP hS (by omega) ls (lv_sub hl [0, 1, 2, 3] rfl)
            · skip
              rw [← Int32.toInt_inj, ti_0] at c_187
              refine lv_iconst (v := 0) hx hb dX12_closes_57 (by decide) ?_
              exact W.zret (v := 0) (ty := .boolean) hx hb hr rfl (fun t ht hW => ⟨⟨0, f, rfl, ⟨rfl, (by decide)⟩, by rw [ht]; exact hP, va_K.moved hW.alike hK, pl_in hD⟩, hS.F ht⟩) hS.2.2 dX12_closes_58
  exact hloop_13 25 0 (by decide) _ _ hP hS (by (try rw [ti_0]) <;> omega) ls hl
set_option maxHeartbeats 8000000 in
set_option maxRecDepth 100000 in
theorem s_X12_takesWord_k12_c1_c8 (l : Launch) (D : va_G) (cI cL cZ cR cG cH : ClassId) (Z : zT) (kd : Nat → Nat) (L : List Nat) (f : Nat → va_E) (hG : GI (okc cI cL cZ cR cG cH L kd) kd L f) (o0 : Nat) (mo0 : o0 ∈ L) (ko0 : kd o0 = 12) : mPI l D cI cL cZ cR cG cH Z yX12_takesWord cX12_takesWord 6 (some .boolean) 1 22 [.ref o0, .int 1, .int 8] L f (fun (r : Int32) (f9 : Nat → va_E) => GI (okc cI cL cZ cR cG cH L kd) kd L f9 ∧ (0 ≤ r.toInt ∧ r.toInt ≤ 1) ∧ (∀ b, kd b ≠ 12 → kd b ≠ 589 → f9 b = f b) ∧ (∀ b, kd b = 12 → ∀ j, fldR (f9 b) j = fldR (f b) j) ∧ (∀ b, kd b = 12 → ∀ j, j ≠ 5 → j ≠ 23 → fldI (f9 b) j = fldI (f b) j) ∧ (∀ (w5 z5 : Int32) (w23 z23 : Int32), fldI (f o0) 5 = some w5 → fldI (f o0) 23 = some w23 → fldI (f9 o0) 5 = some z5 → fldI (f9 o0) 23 = some z23 → z5.toInt = 0 ∧ (r.toInt = 0 ∨ z23.toInt ≤ 8))) := by
  obtain ⟨dC, dI⟩ := D
  refine Met.ofW (cc := cX12_takesWord) (maxL := 6) (ret := (some .boolean)) (by decide) rfl ?_
  intro p e s m args below meth c s₁ B hml hv
  obtain ⟨rfl, hP, hK, hD0, hN, hZ⟩ := hv
  have hx := B.exec
  have hb := B.bytes
  have hr := B.returns
  have hU : ∀ w ∈ wsU, w.before _ s = true := fun w h => atoms_spec (ws := wU yX12_takesWord cX12_takesWord 6 (some .boolean)) B.pre w (List.mem_cons_of_mem _ h)
  have hown : s.vm.findClass RX12 = some m.cls := findClass_of_methodNamed B.named
  have hlocks := B.notSynchronized
  have hD := pl_in hD0
  have hS : va_S (fun q => q ∈ L) s.heap s.heap [] := va_S.rf
  have hl := lv_entry ([.ref o0, .int 1, .int 8]) (n := 6) (Nat.le_of_ble_eq_true rfl)
  rw [lg_entry_eq]
  generalize (lg_sl ([.ref o0, .int 1, .int 8]) ++ List.replicate (6 - (lg_sl ([.ref o0, .int 1, .int 8])).length) Slot.unset).toArray = ls at hl ⊢
  have hl : lv_has ls 6 [(0, .ref o0), (1, .int 1), (2, .int 8)] := hl
  have hfr0 : ∀ b, kd b ≠ 12 → kd b ≠ 589 → f b = f b := fun _ _ _ => rfl
  have hrA12 : ∀ b, kd b = 12 → ∀ j, fldR (f b) j = fldR (f b) j := fun _ _ _ => rfl
  have hfA12 : ∀ b, kd b = 12 → ∀ j, j ≠ 5 → j ≠ 23 → fldI (f b) j = fldI (f b) j := fun _ _ _ _ _ => rfl
  obtain ⟨a_2, a_3, a_4, v_5, a_6, v_7, v_8, v_9, v_10, v_11, v_12, v_13, v_14, v_15, v_16, a_17, a_18, a_19, a_20, a_21, a_22, a_23, a_24, v_25, v_26, v_27, v_28, v_29, a_30, v_31, a_32, a_33, v_34, v_35, a_36, v_37, a_38, a_39, v_40, v_41, a_42, a_43, a_44, v_45, a_46, a_47, a_48, a_49, a_50, a_51, a_52, a_53, a_54, v_55, v_56, a_57, hfo_1, ⟨ma_2, ka_2⟩, ⟨ma_3, ka_3⟩, ⟨ma_4, ka_4⟩, bv_5, ⟨ma_6, ka_6⟩, bv_7, bv_8, bv_13, bv_14, bv_15, ⟨ma_17, ka_17⟩, ⟨ma_18, ka_18⟩, ⟨ma_19, ka_19⟩, ⟨ma_20, ka_20⟩, ⟨ma_21, ka_21⟩, ⟨ma_22, ka_22⟩, ⟨ma_23, ka_23⟩, ⟨ma_24, ka_24⟩, bv_25, bv_27, bv_29, ⟨ma_30, ka_30⟩, bv_31, ⟨ma_32, ka_32⟩, ⟨ma_33, ka_33⟩, bv_34, ⟨ma_36, ka_36⟩, bv_37, ⟨ma_38, ka_38⟩, ⟨ma_39, ka_39⟩, bv_40, ⟨ma_42, ka_42⟩, ⟨ma_43, ka_43⟩, ⟨ma_44, ka_44⟩, bv_45, ⟨ma_46, ka_46⟩, ⟨ma_47, ka_47⟩, ⟨ma_48, ka_48⟩, ⟨ma_49, ka_49⟩, ⟨ma_50, ka_50⟩, ⟨ma_51, ka_51⟩, ⟨ma_52, ka_52⟩, ⟨ma_53, ka_53⟩, ⟨ma_54, ka_54⟩, bv_55, ⟨ma_57, ka_57⟩⟩ := un_12 (hG _ mo0) ko0
  have bv_9 : ((-2147483648) ≤ v_9.toInt ∧ v_9.toInt ≤ 2147483647) := ⟨i32_lo _, i32_hi _⟩
  have bv_10 : ((-2147483648) ≤ v_10.toInt ∧ v_10.toInt ≤ 2147483647) := ⟨i32_lo _, i32_hi _⟩
  have bv_11 : ((-2147483648) ≤ v_11.toInt ∧ v_11.toInt ≤ 2147483647) := ⟨i32_lo _, i32_hi _⟩
  have bv_12 : ((-2147483648) ≤ v_12.toInt ∧ v_12.toInt ≤ 2147483647) := ⟨i32_lo _, i32_hi _⟩
  have bv_16 : ((-2147483648) ≤ v_16.toInt ∧ v_16.toInt ≤ 2147483647) := ⟨i32_lo _, i32_hi _⟩
  have bv_26 : ((-2147483648) ≤ v_26.toInt ∧ v_26.toInt ≤ 2147483647) := ⟨i32_lo _, i32_hi _⟩
  have bv_28 : ((-2147483648) ≤ v_28.toInt ∧ v_28.toInt ≤ 2147483647) := ⟨i32_lo _, i32_hi _⟩
  have bv_35 : ((-2147483648) ≤ v_35.toInt ∧ v_35.toInt ≤ 2147483647) := ⟨i32_lo _, i32_hi _⟩
  have bv_41 : ((-2147483648) ≤ v_41.toInt ∧ v_41.toInt ≤ 2147483647) := ⟨i32_lo _, i32_hi _⟩
  have bv_56 : ((-2147483648) ≤ v_56.toInt ∧ v_56.toInt ≤ 2147483647) := ⟨i32_lo _, i32_hi _⟩
  refine lv_aload_n hx hb dX12_takesWord_0 rfl (lv_at hl 0 rfl) ?_
  refine tk_getP (D := (dC, dI)) (ci := 12) (v := .int v_7) (C := RX12) (T := TX12) (N := 56) hx hb hU inlX12 hown hK hP mo0 hfo_1 rfl 5 (by decide) (hU _ wd_218) (fun _ h9 => h9) rfl dX12_takesWord_1 ?_
  refine lv_istore_n (lv' := [(3, .int v_7), (0, .ref o0), (1, .int 1), (2, .int 8)]) hx hb dX12_takesWord_4 rfl hl (by decide) rfl (fun ls hl => ?_)
  refine lv_aload_n hx hb dX12_takesWord_5 rfl (lv_at hl 1 rfl) ?_
  refine lv_iconst (v := 0) hx hb dX12_takesWord_6 (by decide) ?_
  refine tk_putP (D := (dC, dI)) (ci := 12) (v := .int 0) (ty := .int) (C := RX12) (T := TX12) (N := 56) hx hb hU inlX12 tyX12 tyX12_ok nmX12 hown hK hP hD hS mo0 hfo_1 rfl 5 (by decide) (hU _ wd_218) (fun _ h9 => h9) rfl (by decide +kernel) rfl rfl (Nat.le_of_ble_eq_true rfl) dX12_takesWord_7 (fun H locs hP hD hS => ?_)
  obtain ⟨f_59, ef_59⟩ : ∃ y : Nat → va_E, y = va_up f o0 (.inr (12, [.ref a_2, .ref a_3, .ref a_4, .int v_5, .ref a_6, .int 0, .int v_8, .int v_9, .int v_10, .int v_11, .int v_12, .int v_13, .int v_14, .int v_15, .int v_16, .ref a_17, .ref a_18, .ref a_19, .ref a_20, .ref a_21, .ref a_22, .ref a_23, .ref a_24, .int v_25, .int v_26, .int v_27, .int v_28, .int v_29, .ref a_30, .int v_31, .ref a_32, .ref a_33, .int v_34, .int v_35, .ref a_36, .int v_37, .ref a_38, .ref a_39, .int v_40, .int v_41, .ref a_42, .ref a_43, .ref a_44, .int v_45, .ref a_46, .ref a_47, .ref a_48, .ref a_49, .ref a_50, .ref a_51, .ref a_52, .ref a_53, .ref a_54, .int v_55, .int v_56, .ref a_57])) := ⟨_, rfl⟩
  have hP : va_P (dC, dI) vwCl (va_pl L f_59) H := by rw [ef_59]; exact hP
  have hD : va_D (fun q => q ∈ L) (va_pl L f_59) := by rw [ef_59]; exact hD
  have hG : GI (okc cI cL cZ cR cG cH L kd) kd L f_59 := by rw [ef_59]; exact hG.set o0 (mk_12 ko0 ⟨a_2, a_3, a_4, v_5, a_6, 0, v_8, v_9, v_10, v_11, v_12, v_13, v_14, v_15, v_16, a_17, a_18, a_19, a_20, a_21, a_22, a_23, a_24, v_25, v_26, v_27, v_28, v_29, a_30, v_31, a_32, a_33, v_34, v_35, a_36, v_37, a_38, a_39, v_40, v_41, a_42, a_43, a_44, v_45, a_46, a_47, a_48, a_49, a_50, a_51, a_52, a_53, a_54, v_55, v_56, a_57, rfl, ⟨ma_2, ka_2⟩, ⟨ma_3, ka_3⟩, ⟨ma_4, ka_4⟩, (by constructor <;> omega), ⟨ma_6, ka_6⟩, (by decide), (by constructor <;> omega), (by constructor <;> omega), (by constructor <;> omega), (by constructor <;> omega), ⟨ma_17, ka_17⟩, ⟨ma_18, ka_18⟩, ⟨ma_19, ka_19⟩, ⟨ma_20, ka_20⟩, ⟨ma_21, ka_21⟩, ⟨ma_22, ka_22⟩, ⟨ma_23, ka_23⟩, ⟨ma_24, ka_24⟩, (by constructor <;> omega), (by constructor <;> omega), (by constructor <;> omega), ⟨ma_30, ka_30⟩, (by constructor <;> omega), ⟨ma_32, ka_32⟩, ⟨ma_33, ka_33⟩, (by constructor <;> omega), ⟨ma_36, ka_36⟩, (by constructor <;> omega), ⟨ma_38, ka_38⟩, ⟨ma_39, ka_39⟩, (by constructor <;> omega), ⟨ma_42, ka_42⟩, ⟨ma_43, ka_43⟩, ⟨ma_44, ka_44⟩, (by constructor <;> omega), ⟨ma_46, ka_46⟩, ⟨ma_47, ka_47⟩, ⟨ma_48, ka_48⟩, ⟨ma_49, ka_49⟩, ⟨ma_50, ka_50⟩, ⟨ma_51, ka_51⟩, ⟨ma_52, ka_52⟩, ⟨ma_53, ka_53⟩, ⟨ma_54, ka_54⟩, (by constructor <;> omega), ⟨ma_57, ka_57⟩⟩)
  have hfr0 : ∀ b, kd b ≠ 12 → kd b ≠ 589 → f_59 b = f b := fun b q12 q589 => (congrFun ef_59 b).trans ((up_ne (fun e9 => q12 (by rw [e9]; exact ko0))).trans (hfr0 b q12 q589))
  have hrA12 : ∀ b, kd b = 12 → ∀ j, fldR (f_59 b) j = fldR (f b) j := fun b kb j => ((congrArg (fun x => fldR x j) (congrFun ef_59 b)).trans (fra_up (fun j => by rw [hfo_1]; exact fr_set (k := 5) rfl rfl j) j b)).trans (hrA12 b kb j)
  have hfA12 : ∀ b, kd b = 12 → ∀ j, j ≠ 5 → j ≠ 23 → fldI (f_59 b) j = fldI (f b) j := fun b kb j n5 n23 => ((congrArg (fun x => fldI x j) (congrFun ef_59 b)).trans (fia_up (fun h9 => by rw [hfo_1]; exact fi_set (k := 5) rfl h9) n5 b)).trans (hfA12 b kb j n5 n23)
  have hfo_60 : f_59 o0 = .inr (12, [.ref a_2, .ref a_3, .ref a_4, .int v_5, .ref a_6, .int 0, .int v_8, .int v_9, .int v_10, .int v_11, .int v_12, .int v_13, .int v_14, .int v_15, .int v_16, .ref a_17, .ref a_18, .ref a_19, .ref a_20, .ref a_21, .ref a_22, .ref a_23, .ref a_24, .int v_25, .int v_26, .int v_27, .int v_28, .int v_29, .ref a_30, .int v_31, .ref a_32, .ref a_33, .int v_34, .int v_35, .ref a_36, .int v_37, .ref a_38, .ref a_39, .int v_40, .int v_41, .ref a_42, .ref a_43, .ref a_44, .int v_45, .ref a_46, .ref a_47, .ref a_48, .ref a_49, .ref a_50, .ref a_51, .ref a_52, .ref a_53, .ref a_54, .int v_55, .int v_56, .ref a_57]) := by rw [ef_59]; exact up_self
  refine lv_iload_n hx hb dX12_takesWord_10 rfl (lv_at hl 0 rfl) ?_
  refine lv_iload_n hx hb dX12_takesWord_11 rfl (lv_at hl 2 rfl) ?_
  refine lv_iload_n hx hb dX12_takesWord_12 rfl (lv_at hl 3 rfl) ?_
  refine tk_SiP (As := [.int v_7, .int 1, .int 8]) (rest := []) (n := 3) hx hb hml hown hU hN hZ (s_X12_isIn l (dC, dI) cI cL cZ cR cG cH Z kd L f_59 hG v_7 1 8) wd_227 wd_228 wd_5 wd_229 (by decide +kernel) ⟨Nat.le_of_ble_eq_true rfl, Nat.le_of_ble_eq_true rfl⟩ hK hP hD hS rfl hl.1 rfl (Nat.le_of_ble_eq_true rfl) dX12_takesWord_13 ⟨Nat.le_of_ble_eq_true rfl, Nat.le_of_ble_eq_true rfl⟩ (fun x_61 f_62 H locs hw hP hD hS => ?_)
  obtain ⟨rfl, bx_61, relx_61⟩ := hw
  try rw [ti_1] at relx_61
  try rw [ti_8] at relx_61
  refine lv_if_ne (tgt := 21) hx hb dX12_takesWord_16 (by decide) (fun c_64 => ?_) (fun c_64 => ?_)
  · skip
    rw [← Int32.toInt_inj, ti_0] at c_64
    refine lv_aload_n hx hb dX12_takesWord_21 rfl (lv_at hl 1 rfl) ?_
    refine lv_iconst (v := 0) hx hb dX12_takesWord_22 (by decide) ?_
    refine tk_putP (D := (dC, dI)) (ci := 12) (v := .int 0) (ty := .int) (C := RX12) (T := TX12) (N := 56) hx hb hU inlX12 tyX12 tyX12_ok nmX12 hown hK hP hD hS mo0 hfo_60 rfl 23 (by decide) (hU _ wd_867) (fun _ h9 => h9) rfl (by decide +kernel) rfl rfl (Nat.le_of_ble_eq_true rfl) dX12_takesWord_23 (fun H locs hP hD hS => ?_)
    obtain ⟨f_66, ef_66⟩ : ∃ y : Nat → va_E, y = va_up f_59 o0 (.inr (12, [.ref a_2, .ref a_3, .ref a_4, .int v_5, .ref a_6, .int 0, .int v_8, .int v_9, .int v_10, .int v_11, .int v_12, .int v_13, .int v_14, .int v_15, .int v_16, .ref a_17, .ref a_18, .ref a_19, .ref a_20, .ref a_21, .ref a_22, .ref a_23, .ref a_24, .int 0, .int v_26, .int v_27, .int v_28, .int v_29, .ref a_30, .int v_31, .ref a_32, .ref a_33, .int v_34, .int v_35, .ref a_36, .int v_37, .ref a_38, .ref a_39, .int v_40, .int v_41, .ref a_42, .ref a_43, .ref a_44, .int v_45, .ref a_46, .ref a_47, .ref a_48, .ref a_49, .ref a_50, .ref a_51, .ref a_52, .ref a_53, .ref a_54, .int v_55, .int v_56, .ref a_57])) := ⟨_, rfl⟩
    have hP : va_P (dC, dI) vwCl (va_pl L f_66) H := by rw [ef_66]; exact hP
    have hD : va_D (fun q => q ∈ L) (va_pl L f_66) := by rw [ef_66]; exact hD
    have hG : GI (okc cI cL cZ cR cG cH L kd) kd L f_66 := by rw [ef_66]; exact hG.set o0 (mk_12 ko0 ⟨a_2, a_3, a_4, v_5, a_6, 0, v_8, v_9, v_10, v_11, v_12, v_13, v_14, v_15, v_16, a_17, a_18, a_19, a_20, a_21, a_22, a_23, a_24, 0, v_26, v_27, v_28, v_29, a_30, v_31, a_32, a_33, v_34, v_35, a_36, v_37, a_38, a_39, v_40, v_41, a_42, a_43, a_44, v_45, a_46, a_47, a_48, a_49, a_50, a_51, a_52, a_53, a_54, v_55, v_56, a_57, rfl, ⟨ma_2, ka_2⟩, ⟨ma_3, ka_3⟩, ⟨ma_4, ka_4⟩, (by constructor <;> omega), ⟨ma_6, ka_6⟩, (by decide), (by constructor <;> omega), (by constructor <;> omega), (by constructor <;> omega), (by constructor <;> omega), ⟨ma_17, ka_17⟩, ⟨ma_18, ka_18⟩, ⟨ma_19, ka_19⟩, ⟨ma_20, ka_20⟩, ⟨ma_21, ka_21⟩, ⟨ma_22, ka_22⟩, ⟨ma_23, ka_23⟩, ⟨ma_24, ka_24⟩, (by decide), (by constructor <;> omega), (by constructor <;> omega), ⟨ma_30, ka_30⟩, (by constructor <;> omega), ⟨ma_32, ka_32⟩, ⟨ma_33, ka_33⟩, (by constructor <;> omega), ⟨ma_36, ka_36⟩, (by constructor <;> omega), ⟨ma_38, ka_38⟩, ⟨ma_39, ka_39⟩, (by constructor <;> omega), ⟨ma_42, ka_42⟩, ⟨ma_43, ka_43⟩, ⟨ma_44, ka_44⟩, (by constructor <;> omega), ⟨ma_46, ka_46⟩, ⟨ma_47, ka_47⟩, ⟨ma_48, ka_48⟩, ⟨ma_49, ka_49⟩, ⟨ma_50, ka_50⟩, ⟨ma_51, ka_51⟩, ⟨ma_52, ka_52⟩, ⟨ma_53, ka_53⟩, ⟨ma_54, ka_54⟩, (by constructor <;> omega), ⟨ma_57, ka_57⟩⟩)
    have hfr0 : ∀ b, kd b ≠ 12 → kd b ≠ 589 → f_66 b = f b := fun b q12 q589 => (congrFun ef_66 b).trans ((up_ne (fun e9 => q12 (by rw [e9]; exact ko0))).trans (hfr0 b q12 q589))
    have hrA12 : ∀ b, kd b = 12 → ∀ j, fldR (f_66 b) j = fldR (f b) j := fun b kb j => ((congrArg (fun x => fldR x j) (congrFun ef_66 b)).trans (fra_up (fun j => by rw [hfo_60]; exact fr_set (k := 23) rfl rfl j) j b)).trans (hrA12 b kb j)
    have hfA12 : ∀ b, kd b = 12 → ∀ j, j ≠ 5 → j ≠ 23 → fldI (f_66 b) j = fldI (f b) j := fun b kb j n5 n23 => ((congrArg (fun x => fldI x j) (congrFun ef_66 b)).trans (fia_up (fun h9 => by rw [hfo_60]; exact fi_set (k := 23) rfl h9) n23 b)).trans (hfA12 b kb j n5 n23)
    have hfo_67 : f_66 o0 = .inr (12, [.ref a_2, .ref a_3, .ref a_4, .int v_5, .ref a_6, .int 0, .int v_8, .int v_9, .int v_10, .int v_11, .int v_12, .int v_13, .int v_14, .int v_15, .int v_16, .ref a_17, .ref a_18, .ref a_19, .ref a_20, .ref a_21, .ref a_22, .ref a_23, .ref a_24, .int 0, .int v_26, .int v_27, .int v_28, .int v_29, .ref a_30, .int v_31, .ref a_32, .ref a_33, .int v_34, .int v_35, .ref a_36, .int v_37, .ref a_38, .ref a_39, .int v_40, .int v_41, .ref a_42, .ref a_43, .ref a_44, .int v_45, .ref a_46, .ref a_47, .ref a_48, .ref a_49, .ref a_50, .ref a_51, .ref a_52, .ref a_53, .ref a_54, .int v_55, .int v_56, .ref a_57]) := by rw [ef_66]; exact up_self
    refine lv_iconst (v := 0) hx hb dX12_takesWord_26 (by decide) ?_
    refine lv_istore (lv' := [(4, .int 0), (3, .int v_7), (0, .ref o0), (1, .int 1), (2, .int 8)]) hx hb dX12_takesWord_27 hl (by decide) rfl (fun ls hl => ?_)
    have hloop_73 : ∀ (n : Nat), ∀ (y_74 : Int32), (0 ≤ y_74.toInt ∧ y_74.toInt ≤ 8) → ∀ (f_76 : Nat → va_E), GI (okc cI cL cZ cR cG cH L kd) kd L f_76 → ∀ (H : Heap) (locs : List Loc), va_P (dC, dI) vwCl (va_pl L f_76) H → va_S (fun q => q ∈ L) s.heap H locs → va_D (fun q => q ∈ L) (va_pl L f_76) → (∀ b, kd b ≠ 12 → kd b ≠ 589 → f_76 b = f b) → (∀ b, kd b = 12 → ∀ j, fldR (f_76 b) j = fldR (f b) j) → (∀ b, kd b = 12 → ∀ j, j ≠ 5 → j ≠ 23 → fldI (f_76 b) j = fldI (f b) j) → ∀ (whloop_73_0_23 : Int32), fldI (f_76 o0) 23 = some whloop_73_0_23 → ∀ (whloop_73_0_5 : Int32), fldI (f_76 o0) 5 = some whloop_73_0_5 → (whloop_73_0_23.toInt ≤ y_74.toInt) → (0 ≤ whloop_73_0_23.toInt ∧ whloop_73_0_23.toInt ≤ 8) → (0 ≤ whloop_73_0_5.toInt ∧ whloop_73_0_5.toInt ≤ 0) → 8 - y_74.toInt < (n : Int) → ∀ (ls : Array Slot), lv_has ls 6 [(4, .int y_74), (3, .int v_7), (0, .ref o0), (1, .int 1), (2, .int 8)] → W p l e (headSpec (wU yX12_takesWord cX12_takesWord 6 (some .boolean)) { frames := 1, cells := 0, slots := 0, locals := 22 }).room s m [.ref o0, .int 1, .int 8].toArray below meth c H locs 0 0 (MQ below (va_Qi (fun (r : Int32) (f9 : Nat → va_E) => GI (okc cI cL cZ cR cG cH L kd) kd L f9 ∧ (0 ≤ r.toInt ∧ r.toInt ≤ 1) ∧ (∀ b, kd b ≠ 12 → kd b ≠ 589 → f9 b = f b) ∧ (∀ b, kd b = 12 → ∀ j, fldR (f9 b) j = fldR (f b) j) ∧ (∀ b, kd b = 12 → ∀ j, j ≠ 5 → j ≠ 23 → fldI (f9 b) j = fldI (f b) j) ∧ (∀ (w5 z5 : Int32) (w23 z23 : Int32), fldI (f o0) 5 = some w5 → fldI (f o0) 23 = some w23 → fldI (f9 o0) 5 = some z5 → fldI (f9 o0) 23 = some z23 → z5.toInt = 0 ∧ (r.toInt = 0 ∨ z23.toInt ≤ 8))) (qP (dC, dI) cI cL cZ cR cG cH L) (fun q => q ∈ L)) [.ref o0, .int 1, .int 8].toArray s 0 0 (fun q => q ∈ L)) (F0 m 29 ls []) := by
      intro n
      induction n with
      | zero => intro y_74 by_74 f_76 hG H locs hP hS hD hfr0 hrA12 hfA12 whloop_73_0_23 hghloop_73_0_23 whloop_73_0_5 hghloop_73_0_5 hrelhloop_73_0 hrelhloop_73_1 hrelhloop_73_2 hmuhloop_73 ls hl; exfalso; omega
      | succ n ih_hloop_73 =>
        intro y_74 by_74 f_76 hG H locs hP hS hD hfr0 hrA12 hfA12 whloop_73_0_23 hghloop_73_0_23 whloop_73_0_5 hghloop_73_0_5 hrelhloop_73_0 hrelhloop_73_1 hrelhloop_73_2 hmuhloop_73 ls hl
        obtain ⟨a_78, a_79, a_80, v_81, a_82, v_83, v_84, v_85, v_86, v_87, v_88, v_89, v_90, v_91, v_92, a_93, a_94, a_95, a_96, a_97, a_98, a_99, a_100, v_101, v_102, v_103, v_104, v_105, a_106, v_107, a_108, a_109, v_110, v_111, a_112, v_113, a_114, a_115, v_116, v_117, a_118, a_119, a_120, v_121, a_122, a_123, a_124, a_125, a_126, a_127, a_128, a_129, a_130, v_131, v_132, a_133, hfo_77, ⟨ma_78, ka_78⟩, ⟨ma_79, ka_79⟩, ⟨ma_80, ka_80⟩, bv_81, ⟨ma_82, ka_82⟩, bv_83, bv_84, bv_89, bv_90, bv_91, ⟨ma_93, ka_93⟩, ⟨ma_94, ka_94⟩, ⟨ma_95, ka_95⟩, ⟨ma_96, ka_96⟩, ⟨ma_97, ka_97⟩, ⟨ma_98, ka_98⟩, ⟨ma_99, ka_99⟩, ⟨ma_100, ka_100⟩, bv_101, bv_103, bv_105, ⟨ma_106, ka_106⟩, bv_107, ⟨ma_108, ka_108⟩, ⟨ma_109, ka_109⟩, bv_110, ⟨ma_112, ka_112⟩, bv_113, ⟨ma_114, ka_114⟩, ⟨ma_115, ka_115⟩, bv_116, ⟨ma_118, ka_118⟩, ⟨ma_119, ka_119⟩, ⟨ma_120, ka_120⟩, bv_121, ⟨ma_122, ka_122⟩, ⟨ma_123, ka_123⟩, ⟨ma_124, ka_124⟩, ⟨ma_125, ka_125⟩, ⟨ma_126, ka_126⟩, ⟨ma_127, ka_127⟩, ⟨ma_128, ka_128⟩, ⟨ma_129, ka_129⟩, ⟨ma_130, ka_130⟩, bv_131, ⟨ma_133, ka_133⟩⟩ := un_12 (hG _ mo0) ko0
        have bv_85 : ((-2147483648) ≤ v_85.toInt ∧ v_85.toInt ≤ 2147483647) := ⟨i32_lo _, i32_hi _⟩
        have bv_86 : ((-2147483648) ≤ v_86.toInt ∧ v_86.toInt ≤ 2147483647) := ⟨i32_lo _, i32_hi _⟩
        have bv_87 : ((-2147483648) ≤ v_87.toInt ∧ v_87.toInt ≤ 2147483647) := ⟨i32_lo _, i32_hi _⟩
        have bv_88 : ((-2147483648) ≤ v_88.toInt ∧ v_88.toInt ≤ 2147483647) := ⟨i32_lo _, i32_hi _⟩
        have bv_92 : ((-2147483648) ≤ v_92.toInt ∧ v_92.toInt ≤ 2147483647) := ⟨i32_lo _, i32_hi _⟩
        have bv_102 : ((-2147483648) ≤ v_102.toInt ∧ v_102.toInt ≤ 2147483647) := ⟨i32_lo _, i32_hi _⟩
        have bv_104 : ((-2147483648) ≤ v_104.toInt ∧ v_104.toInt ≤ 2147483647) := ⟨i32_lo _, i32_hi _⟩
        have bv_111 : ((-2147483648) ≤ v_111.toInt ∧ v_111.toInt ≤ 2147483647) := ⟨i32_lo _, i32_hi _⟩
        have bv_117 : ((-2147483648) ≤ v_117.toInt ∧ v_117.toInt ≤ 2147483647) := ⟨i32_lo _, i32_hi _⟩
        have bv_132 : ((-2147483648) ≤ v_132.toInt ∧ v_132.toInt ≤ 2147483647) := ⟨i32_lo _, i32_hi _⟩
        obtain ⟨rfl, rfl, rfl, rfl, rfl, rfl, rfl, rfl, rfl, rfl, rfl, rfl, rfl, rfl, rfl, rfl, rfl, rfl, rfl, rfl, rfl, rfl, rfl, rfl, rfl, rfl, rfl, rfl, rfl, rfl, rfl⟩ := re_12 hfo_1 hfo_77 (hrA12 o0 ko0)
        obtain rfl := ri_12_3 hfo_1 hfo_77 (hfA12 o0 ko0 3 (by decide) (by decide))
        obtain rfl := ri_12_6 hfo_1 hfo_77 (hfA12 o0 ko0 6 (by decide) (by decide))
        obtain rfl := ri_12_11 hfo_1 hfo_77 (hfA12 o0 ko0 11 (by decide) (by decide))
        obtain rfl := ri_12_12 hfo_1 hfo_77 (hfA12 o0 ko0 12 (by decide) (by decide))
        obtain rfl := ri_12_13 hfo_1 hfo_77 (hfA12 o0 ko0 13 (by decide) (by decide))
        obtain rfl := ri_12_14 hfo_1 hfo_77 (hfA12 o0 ko0 14 (by decide) (by decide))
        obtain rfl := ri_12_25 hfo_1 hfo_77 (hfA12 o0 ko0 25 (by decide) (by decide))
        obtain rfl := ri_12_27 hfo_1 hfo_77 (hfA12 o0 ko0 27 (by decide) (by decide))
        obtain rfl := ri_12_29 hfo_1 hfo_77 (hfA12 o0 ko0 29 (by decide) (by decide))
        obtain rfl := ri_12_32 hfo_1 hfo_77 (hfA12 o0 ko0 32 (by decide) (by decide))
        obtain rfl := ri_12_33 hfo_1 hfo_77 (hfA12 o0 ko0 33 (by decide) (by decide))
        obtain rfl := ri_12_35 hfo_1 hfo_77 (hfA12 o0 ko0 35 (by decide) (by decide))
        obtain rfl := ri_12_38 hfo_1 hfo_77 (hfA12 o0 ko0 38 (by decide) (by decide))
        obtain rfl := ri_12_43 hfo_1 hfo_77 (hfA12 o0 ko0 43 (by decide) (by decide))
        obtain rfl := ri_12_53 hfo_1 hfo_77 (hfA12 o0 ko0 53 (by decide) (by decide))
        obtain rfl : v_101 = whloop_73_0_23 := by rw [hfo_77] at hghloop_73_0_23; exact Option.some.inj hghloop_73_0_23
        obtain rfl : v_83 = whloop_73_0_5 := by rw [hfo_77] at hghloop_73_0_5; exact Option.some.inj hghloop_73_0_5
        refine lv_iload hx hb dX12_takesWord_29 (lv_at hl 0 rfl) ?_
        refine lv_iload_n hx hb dX12_takesWord_31 rfl (lv_at hl 1 rfl) ?_
        refine lv_icmp_ge (tgt := 85) hx hb dX12_takesWord_32 (by decide) (fun c_134 => ?_) (fun c_134 => ?_)
        · skip
          rw [Int32.le_iff_toInt_le] at c_134
          refine lv_iconst (v := 1) hx hb dX12_takesWord_85 (by decide) ?_
          exact W.zret (v := 1) (ty := .boolean) hx hb hr rfl (fun t ht hW => ⟨⟨1, f_76, rfl, ⟨hG, (by decide), hfr0, hrA12, hfA12, (by intro w5 z5 w23 z23 e5 e23 d5 d23; rw [hfo_1] at e5 e23; rw [hfo_77] at d5 d23; obtain rfl := Option.some.inj e5; obtain rfl := Option.some.inj d5; obtain rfl := Option.some.inj e23; obtain rfl := Option.some.inj d23; (try rw [ti_1]) <;> omega)⟩, by rw [ht]; exact hP, va_K.moved hW.alike hK, pl_in hD⟩, hS.F ht⟩) hS.2.2 dX12_takesWord_86
        · skip
          rw [Int32.le_iff_toInt_le] at c_134
          refine lv_aload_n hx hb dX12_takesWord_35 rfl (lv_at hl 2 rfl) ?_
          refine tk_getP (D := (dC, dI)) (ci := 12) (v := .ref a_2) (C := RX12) (T := TX12) (N := 56) hx hb hU inlX12 hown hK hP mo0 hfo_77 rfl 0 (by decide) (hU _ wd_169) (fun _ h9 => h9) rfl dX12_takesWord_36 ?_
          refine lv_aload_n hx hb dX12_takesWord_39 rfl (lv_at hl 2 rfl) ?_
          refine tk_getP (D := (dC, dI)) (ci := 12) (v := .ref a_6) (C := RX12) (T := TX12) (N := 56) hx hb hU inlX12 hown hK hP mo0 hfo_77 rfl 4 (by decide) (hU _ wd_172) (fun _ h9 => h9) rfl dX12_takesWord_40 ?_
          refine lv_iload hx hb dX12_takesWord_43 (lv_at hl 0 rfl) ?_
          obtain ⟨g_136, hfo_135, hbg_136⟩ := un_578 (hG _ ma_6) ka_6
          refine tk_ildP hx hb hK hP 0 ma_6 hfo_135 rfl (vp_in_iff.mpr (by constructor <;> omega)) dX12_takesWord_45 ?_
          refine lv_topi (fun x_137 ex_137 => ?_)
          have bx_137 : (0 ≤ x_137.toInt ∧ x_137.toInt ≤ 255) := by rw [ex_137]; exact hbg_136 _
          refine tk_SiP (As := [.ref a_2, .int x_137]) (rest := []) (n := 2) hx hb hml hown hU hN hZ (s_X12_letterIn_a575 l (dC, dI) cI cL cZ cR cG cH Z kd L f_76 hG a_2 ma_2 ka_2 x_137) wd_606 wd_607 wd_5 wd_608 (by decide +kernel) ⟨Nat.le_of_ble_eq_true rfl, Nat.le_of_ble_eq_true rfl⟩ hK hP hD hS rfl hl.1 rfl (Nat.le_of_ble_eq_true rfl) dX12_takesWord_46 ⟨Nat.le_of_ble_eq_true rfl, Nat.le_of_ble_eq_true rfl⟩ (fun x_138 f_139 H locs hw hP hD hS => ?_)
          obtain ⟨rfl, bx_138, hxp_140⟩ := hw
          obtain ⟨g_143, hfo_142, hbg_143⟩ := un_575 (hG _ ma_2) ka_2
          have hlix_138 := hxp_140 g_143 hfo_142
          refine lv_istore (lv' := [(5, .int x_138), (4, .int y_74), (3, .int v_7), (0, .ref o0), (1, .int 1), (2, .int 8)]) hx hb dX12_takesWord_49 hl (by decide) rfl (fun ls hl => ?_)
          refine lv_iload hx hb dX12_takesWord_51 (lv_at hl 0 rfl) ?_
          refine lv_if_ne (tgt := 58) hx hb dX12_takesWord_53 (by decide) (fun c_144 => ?_) (fun c_144 => ?_)
          · skip
            rw [← Int32.toInt_inj, ti_0] at c_144
            refine lv_aload_n hx hb dX12_takesWord_58 rfl (lv_at hl 3 rfl) ?_
            refine tk_getP (D := (dC, dI)) (ci := 12) (v := .ref a_23) (C := RX12) (T := TX12) (N := 56) hx hb hU inlX12 hown hK hP mo0 hfo_77 rfl 21 (by decide) (hU _ wd_181) (fun _ h9 => h9) rfl dX12_takesWord_59 ?_
            refine lv_aload_n hx hb dX12_takesWord_62 rfl (lv_at hl 3 rfl) ?_
            refine tk_getP (D := (dC, dI)) (ci := 12) (v := .int v_101) (C := RX12) (T := TX12) (N := 56) hx hb hU inlX12 hown hK hP mo0 hfo_77 rfl 23 (by decide) (hU _ wd_867) (fun _ h9 => h9) rfl dX12_takesWord_63 ?_
            refine lv_iload hx hb dX12_takesWord_66 (lv_at hl 0 rfl) ?_
            obtain ⟨g_146, hfo_145, hbg_146⟩ := un_589 (hG _ ma_23) ka_23
            refine tk_istP hx hb hK hP hD hS 0 ma_23 hfo_145 rfl (vp_in_iff.mpr (by constructor <;> omega)) dX12_takesWord_68 (fun H locs hP hD hS => ?_)
            obtain ⟨f_148, ef_148⟩ : ∃ y : Nat → va_E, y = va_up f_76 a_23 (.inl (cI, 16, .inl (upd g_146 (Int32.toNatClampNeg v_101) x_138))) := ⟨_, rfl⟩
            have hP : va_P (dC, dI) vwCl (va_pl L f_148) H := by rw [ef_148]; exact hP
            have hD : va_D (fun q => q ∈ L) (va_pl L f_148) := by rw [ef_148]; exact hD
            have hG : GI (okc cI cL cZ cR cG cH L kd) kd L f_148 := by rw [ef_148]; exact hG.set a_23 (mk_589 ka_23 ⟨_, rfl, okI_up hbg_146 (by constructor <;> omega) _⟩)
            have hfo_149 : f_148 o0 = .inr (12, [.ref a_2, .ref a_3, .ref a_4, .int v_5, .ref a_6, .int v_83, .int v_8, .int v_85, .int v_86, .int v_87, .int v_88, .int v_13, .int v_14, .int v_15, .int v_16, .ref a_17, .ref a_18, .ref a_19, .ref a_20, .ref a_21, .ref a_22, .ref a_23, .ref a_24, .int v_101, .int v_102, .int v_27, .int v_104, .int v_29, .ref a_30, .int v_31, .ref a_32, .ref a_33, .int v_34, .int v_35, .ref a_36, .int v_37, .ref a_38, .ref a_39, .int v_40, .int v_117, .ref a_42, .ref a_43, .ref a_44, .int v_45, .ref a_46, .ref a_47, .ref a_48, .ref a_49, .ref a_50, .ref a_51, .ref a_52, .ref a_53, .ref a_54, .int v_55, .int v_132, .ref a_57]) := by rw [ef_148, up_ne (kd_ne ka_23 ko0 (by decide))]; exact hfo_77
            have hfo_150 : f_148 a_6 = .inl (cI, 600, .inl g_136) := by rw [ef_148, up_ne (kd_ne ka_23 ka_6 (by decide))]; exact hfo_135
            have hfo_151 : f_148 a_2 = .inl (cI, 1560, .inl g_143) := by rw [ef_148, up_ne (kd_ne ka_23 ka_2 (by decide))]; exact hfo_142
            have hfr0 : ∀ b, kd b ≠ 12 → kd b ≠ 589 → f_148 b = f b := fun b q12 q589 => (congrFun ef_148 b).trans ((up_ne (fun e9 => q589 (by rw [e9]; exact ka_23))).trans (hfr0 b q12 q589))
            have hrA12 : ∀ b, kd b = 12 → ∀ j, fldR (f_148 b) j = fldR (f b) j := fun b kb j => (congrArg (fun x => fldR x j) ((congrFun ef_148 b).trans (up_ne (kd_ne ka_23 kb (by decide))))).trans (hrA12 b kb j)
            have hfA12 : ∀ b, kd b = 12 → ∀ j, j ≠ 5 → j ≠ 23 → fldI (f_148 b) j = fldI (f b) j := fun b kb j n5 n23 => (congrArg (fun x => fldI x j) ((congrFun ef_148 b).trans (up_ne (kd_ne ka_23 kb (by decide))))).trans (hfA12 b kb j n5 n23)
            have hfo_152 : f_148 a_23 = .inl (cI, 16, .inl (upd g_146 (Int32.toNatClampNeg v_101) x_138)) := by rw [ef_148]; exact up_self
            refine lv_aload_n hx hb dX12_takesWord_69 rfl (lv_at hl 3 rfl) ?_
            refine lv_dup hx hb dX12_takesWord_70 rfl ?_
            refine tk_getP (D := (dC, dI)) (ci := 12) (v := .int v_101) (C := RX12) (T := TX12) (N := 56) hx hb hU inlX12 hown hK hP mo0 hfo_149 rfl 23 (by decide) (hU _ wd_867) (fun _ h9 => h9) rfl dX12_takesWord_71 ?_
            refine lv_iconst (v := 1) hx hb dX12_takesWord_74 (by decide) ?_
            refine lv_iadd hx hb dX12_takesWord_75 ?_
            refine lv_topi (fun x_153 ex_153 => ?_)
            have hx_153 : x_153.toInt = v_101.toInt + 1 := by rw [ex_153, ad_I (by rw [ti_1]; omega) (by rw [ti_1]; omega), ti_1]
            have bx_153 : (1 ≤ x_153.toInt ∧ x_153.toInt ≤ 9) := by constructor <;> omega
            refine tk_putP (D := (dC, dI)) (ci := 12) (v := .int x_153) (ty := .int) (C := RX12) (T := TX12) (N := 56) hx hb hU inlX12 tyX12 tyX12_ok nmX12 hown hK hP hD hS mo0 hfo_149 rfl 23 (by decide) (hU _ wd_867) (fun _ h9 => h9) rfl (by decide +kernel) rfl rfl (Nat.le_of_ble_eq_true rfl) dX12_takesWord_76 (fun H locs hP hD hS => ?_)
            obtain ⟨f_155, ef_155⟩ : ∃ y : Nat → va_E, y = va_up f_148 o0 (.inr (12, [.ref a_2, .ref a_3, .ref a_4, .int v_5, .ref a_6, .int v_83, .int v_8, .int v_85, .int v_86, .int v_87, .int v_88, .int v_13, .int v_14, .int v_15, .int v_16, .ref a_17, .ref a_18, .ref a_19, .ref a_20, .ref a_21, .ref a_22, .ref a_23, .ref a_24, .int x_153, .int v_102, .int v_27, .int v_104, .int v_29, .ref a_30, .int v_31, .ref a_32, .ref a_33, .int v_34, .int v_35, .ref a_36, .int v_37, .ref a_38, .ref a_39, .int v_40, .int v_117, .ref a_42, .ref a_43, .ref a_44, .int v_45, .ref a_46, .ref a_47, .ref a_48, .ref a_49, .ref a_50, .ref a_51, .ref a_52, .ref a_53, .ref a_54, .int v_55, .int v_132, .ref a_57])) := ⟨_, rfl⟩
            have hP : va_P (dC, dI) vwCl (va_pl L f_155) H := by rw [ef_155]; exact hP
            have hD : va_D (fun q => q ∈ L) (va_pl L f_155) := by rw [ef_155]; exact hD
            have hG : GI (okc cI cL cZ cR cG cH L kd) kd L f_155 := by rw [ef_155]; exact hG.set o0 (mk_12 ko0 ⟨a_2, a_3, a_4, v_5, a_6, v_83, v_8, v_85, v_86, v_87, v_88, v_13, v_14, v_15, v_16, a_17, a_18, a_19, a_20, a_21, a_22, a_23, a_24, x_153, v_102, v_27, v_104, v_29, a_30, v_31, a_32, a_33, v_34, v_35, a_36, v_37, a_38, a_39, v_40, v_117, a_42, a_43, a_44, v_45, a_46, a_47, a_48, a_49, a_50, a_51, a_52, a_53, a_54, v_55, v_132, a_57, rfl, ⟨ma_2, ka_2⟩, ⟨ma_3, ka_3⟩, ⟨ma_4, ka_4⟩, (by constructor <;> omega), ⟨ma_6, ka_6⟩, (by constructor <;> omega), (by constructor <;> omega), (by constructor <;> omega), (by constructor <;> omega), (by constructor <;> omega), ⟨ma_17, ka_17⟩, ⟨ma_18, ka_18⟩, ⟨ma_19, ka_19⟩, ⟨ma_20, ka_20⟩, ⟨ma_21, ka_21⟩, ⟨ma_22, ka_22⟩, ⟨ma_23, ka_23⟩, ⟨ma_24, ka_24⟩, (by constructor <;> omega), (by constructor <;> omega), (by constructor <;> omega), ⟨ma_30, ka_30⟩, (by constructor <;> omega), ⟨ma_32, ka_32⟩, ⟨ma_33, ka_33⟩, (by constructor <;> omega), ⟨ma_36, ka_36⟩, (by constructor <;> omega), ⟨ma_38, ka_38⟩, ⟨ma_39, ka_39⟩, (by constructor <;> omega), ⟨ma_42, ka_42⟩, ⟨ma_43, ka_43⟩, ⟨ma_44, ka_44⟩, (by constructor <;> omega), ⟨ma_46, ka_46⟩, ⟨ma_47, ka_47⟩, ⟨ma_48, ka_48⟩, ⟨ma_49, ka_49⟩, ⟨ma_50, ka_50⟩, ⟨ma_51, ka_51⟩, ⟨ma_52, ka_52⟩, ⟨ma_53, ka_53⟩, ⟨ma_54, ka_54⟩, (by constructor <;> omega), ⟨ma_57, ka_57⟩⟩)
            have hfo_156 : f_155 a_6 = .inl (cI, 600, .inl g_136) := by rw [ef_155, up_ne (kd_ne ko0 ka_6 (by decide))]; exact hfo_150
            have hfo_157 : f_155 a_2 = .inl (cI, 1560, .inl g_143) := by rw [ef_155, up_ne (kd_ne ko0 ka_2 (by decide))]; exact hfo_151
            have hfr0 : ∀ b, kd b ≠ 12 → kd b ≠ 589 → f_155 b = f b := fun b q12 q589 => (congrFun ef_155 b).trans ((up_ne (fun e9 => q12 (by rw [e9]; exact ko0))).trans (hfr0 b q12 q589))
            have hrA12 : ∀ b, kd b = 12 → ∀ j, fldR (f_155 b) j = fldR (f b) j := fun b kb j => ((congrArg (fun x => fldR x j) (congrFun ef_155 b)).trans (fra_up (fun j => by rw [hfo_149]; exact fr_set (k := 23) rfl rfl j) j b)).trans (hrA12 b kb j)
            have hfA12 : ∀ b, kd b = 12 → ∀ j, j ≠ 5 → j ≠ 23 → fldI (f_155 b) j = fldI (f b) j := fun b kb j n5 n23 => ((congrArg (fun x => fldI x j) (congrFun ef_155 b)).trans (fia_up (fun h9 => by rw [hfo_149]; exact fi_set (k := 23) rfl h9) n23 b)).trans (hfA12 b kb j n5 n23)
            have hfo_158 : f_155 o0 = .inr (12, [.ref a_2, .ref a_3, .ref a_4, .int v_5, .ref a_6, .int v_83, .int v_8, .int v_85, .int v_86, .int v_87, .int v_88, .int v_13, .int v_14, .int v_15, .int v_16, .ref a_17, .ref a_18, .ref a_19, .ref a_20, .ref a_21, .ref a_22, .ref a_23, .ref a_24, .int x_153, .int v_102, .int v_27, .int v_104, .int v_29, .ref a_30, .int v_31, .ref a_32, .ref a_33, .int v_34, .int v_35, .ref a_36, .int v_37, .ref a_38, .ref a_39, .int v_40, .int v_117, .ref a_42, .ref a_43, .ref a_44, .int v_45, .ref a_46, .ref a_47, .ref a_48, .ref a_49, .ref a_50, .ref a_51, .ref a_52, .ref a_53, .ref a_54, .int v_55, .int v_132, .ref a_57]) := by rw [ef_155]; exact up_self
            obtain ⟨x_159, ex_159⟩ : ∃ y : Int32, y_74 + 1 = y := ⟨_, rfl⟩
            have hx_159 : x_159.toInt = y_74.toInt + 1 := by rw [← ex_159, ad_I (by rw [ti_1]; omega) (by rw [ti_1]; omega), ti_1]
            have bx_159 : (1 ≤ x_159.toInt ∧ x_159.toInt ≤ 8) := by constructor <;> omega
            refine lv_iinc (v := x_159) (lv' := [(4, .int x_159), (5, .int x_138), (3, .int v_7), (0, .ref o0), (1, .int 1), (2, .int 8)]) hx hb dX12_takesWord_79 hl (k := 1) rfl ex_159 (by decide) rfl (fun ls hl => ?_)
            refine lv_goto (tgt := 29) hx hb dX12_takesWord_82 (by decide) ?_
            exact ih_hloop_73 x_159 (by constructor <;> omega) f_155 hG _ _ hP hS hD hfr0 hrA12 hfA12 x_153 (by rw [hfo_158]; rfl) v_83 (by rw [hfo_158]; rfl) (by (try rw [ti_1]) <;> (try rw [ti_8]) <;> omega) (by (try rw [ti_1]) <;> (try rw [ti_8]) <;> omega) (by (try rw [ti_1]) <;> (try rw [ti_8]) <;> omega) (by (try rw [ti_1]) <;> (try rw [ti_8]) <;> omega) ls (lv_sub hl [0, 2, 3, 4, 5] rfl)
          · skip
            rw [← Int32.toInt_inj, ti_0] at c_144
            refine lv_iconst (v := 0) hx hb dX12_takesWord_56 (by decide) ?_
            exact W.zret (v := 0) (ty := .boolean) hx hb hr rfl (fun t ht hW => ⟨⟨0, f_76, rfl, ⟨hG, (by decide), hfr0, hrA12, hfA12, (by intro w5 z5 w23 z23 e5 e23 d5 d23; rw [hfo_1] at e5 e23; rw [hfo_77] at d5 d23; obtain rfl := Option.some.inj e5; obtain rfl := Option.some.inj d5; obtain rfl := Option.some.inj e23; obtain rfl := Option.some.inj d23; (try rw [ti_0]) <;> omega)⟩, by rw [ht]; exact hP, va_K.moved hW.alike hK, pl_in hD⟩, hS.F ht⟩) hS.2.2 dX12_takesWord_57
    exact hloop_73 9 0 (by decide) f_66 hG _ _ hP hS hD hfr0 hrA12 hfA12 0 (by rw [hfo_67]; rfl) 0 (by rw [hfo_67]; rfl) (by (try rw [ti_0]) <;> (try rw [ti_1]) <;> (try rw [ti_8]) <;> omega) (by (try rw [ti_0]) <;> (try rw [ti_1]) <;> (try rw [ti_8]) <;> omega) (by (try rw [ti_0]) <;> (try rw [ti_1]) <;> (try rw [ti_8]) <;> omega) (by (try rw [ti_0]) <;> (try rw [ti_1]) <;> (try rw [ti_8]) <;> omega) ls hl
  · skip
    rw [← Int32.toInt_inj, ti_0] at c_64
    refine lv_iconst (v := 0) hx hb dX12_takesWord_19 (by decide) ?_
    exact W.zret (v := 0) (ty := .boolean) hx hb hr rfl (fun t ht hW => ⟨⟨0, f_59, rfl, ⟨hG, (by decide), hfr0, hrA12, hfA12, (by intro w5 z5 w23 z23 e5 e23 d5 d23; rw [hfo_1] at e5 e23; rw [hfo_60] at d5 d23; obtain rfl := Option.some.inj e5; obtain rfl := Option.some.inj d5; obtain rfl := Option.some.inj e23; obtain rfl := Option.some.inj d23; (try rw [ti_0]) <;> omega)⟩, by rw [ht]; exact hP, va_K.moved hW.alike hK, pl_in hD⟩, hS.F ht⟩) hS.2.2 dX12_takesWord_20
