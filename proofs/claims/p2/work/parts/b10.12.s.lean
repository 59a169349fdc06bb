set_option maxHeartbeats 8000000 in
set_option maxRecDepth 100000 in
theorem s_X12_holds_k12_a588 (l : Launch) (D : va_G) (cI cL cZ cR cG cH : ClassId) (Z : zT) (kd : Nat → Nat) (L : List Nat) (f : Nat → va_E) (hG : GI (okc cI cL cZ cR cG cH L kd) kd L f) (o0 : Nat) (mo0 : o0 ∈ L) (ko0 : kd o0 = 12) (p1 : Int32) (bp1 : (0 ≤ p1.toInt ∧ p1.toInt ≤ 23)) (p2 : Int32) (bp2 : (0 ≤ p2.toInt ∧ p2.toInt ≤ 19)) (o3 : Nat) (mo3 : o3 ∈ L) (ko3 : kd o3 = 588) (p4 : Int32) (bp4 : (0 ≤ p4.toInt ∧ p4.toInt ≤ 20)) : mPI l D cI cL cZ cR cG cH Z yX12_holds cX12_holds 8 (some .boolean) 3 76 [.ref o0, .int p1, .int p2, .ref o3, .int p4] L f (fun (r : Int32) (f9 : Nat → va_E) => f = f9 ∧ (0 ≤ r.toInt ∧ r.toInt ≤ 1)) := by
  obtain ⟨dC, dI⟩ := D
  refine Met.ofW (cc := cX12_holds) (maxL := 8) (ret := (some .boolean)) (by decide) rfl ?_
  intro p e s m args below meth c s₁ B hml hv
  obtain ⟨rfl, hP, hK, hD0, hN, hZ⟩ := hv
  have hx := B.exec
  have hb := B.bytes
  have hr := B.returns
  have hU : ∀ w ∈ wsU, w.before _ s = true := fun w h => atoms_spec (ws := wU yX12_holds cX12_holds 8 (some .boolean)) B.pre w (List.mem_cons_of_mem _ h)
  have hown : s.vm.findClass RX12 = some m.cls := findClass_of_methodNamed B.named
  have hlocks := B.notSynchronized
  have hD := pl_in hD0
  have hS : va_S (fun q => q ∈ L) s.heap s.heap [] := va_S.rf
  have hl := lv_entry ([.ref o0, .int p1, .int p2, .ref o3, .int p4]) (n := 8) (Nat.le_of_ble_eq_true rfl)
  rw [lg_entry_eq]
  generalize (lg_sl ([.ref o0, .int p1, .int p2, .ref o3, .int p4]) ++ List.replicate (8 - (lg_sl ([.ref o0, .int p1, .int p2, .ref o3, .int p4])).length) Slot.unset).toArray = ls at hl ⊢
  have hl : lv_has ls 8 [(0, .ref o0), (1, .int p1), (2, .int p2), (3, .ref o3), (4, .int p4)] := hl
  refine lv_aload_n hx hb dX12_holds_0 rfl (lv_at hl 0 rfl) ?_
  refine lv_iload_n hx hb dX12_holds_1 rfl (lv_at hl 1 rfl) ?_
  refine lv_iconst (v := 0) hx hb dX12_holds_2 (by decide) ?_
  refine lv_iconst (v := 1) hx hb dX12_holds_3 (by decide) ?_
  obtain ⟨a_1, a_2, a_3, v_4, a_5, v_6, v_7, v_8, v_9, v_10, v_11, v_12, v_13, v_14, v_15, a_16, a_17, a_18, a_19, a_20, a_21, a_22, a_23, v_24, v_25, v_26, v_27, v_28, a_29, v_30, a_31, a_32, v_33, v_34, a_35, v_36, a_37, a_38, v_39, v_40, a_41, a_42, a_43, v_44, a_45, a_46, a_47, a_48, a_49, a_50, a_51, a_52, a_53, v_54, v_55, a_56, hfo_57, fa_58⟩ := un12 (hG _ mo0) ko0
  refine tk_ViP (As := [.int p1, .int 0, .int 1]) (rest := []) (n := 3) hx hb hml hown hU hN hZ (s_X12_closed_k12 l (dC, dI) cI cL cZ cR cG cH Z kd L f hG o0 mo0 ko0 p1 (by constructor <;> omega) 0 (by decide) 1 (by decide)) wd_878 wd_879 wd_880 wd_5 wd_881 (by decide +kernel) ⟨Nat.le_of_ble_eq_true rfl, Nat.le_of_ble_eq_true rfl⟩ hK hP hD hS mo0 hfo_57 12 rfl rfl rfl hl.1 rfl (Nat.le_of_ble_eq_true rfl) dX12_holds_4 ⟨Nat.le_of_ble_eq_true rfl, Nat.le_of_ble_eq_true rfl⟩ (fun x_59 f_60 H locs hw hP hD hS => ?_)
  obtain ⟨rfl, bx_59⟩ := hw
  refine lv_istore (lv' := [(5, .int x_59), (0, .ref o0), (1, .int p1), (2, .int p2), (3, .ref o3), (4, .int p4)]) hx hb dX12_holds_7 hl (by decide) rfl (fun ls hl => ?_)
  refine lv_iconst (v := 0) hx hb dX12_holds_9 (by decide) ?_
  refine lv_istore (lv' := [(6, .int 0), (5, .int x_59), (0, .ref o0), (1, .int p1), (2, .int p2), (3, .ref o3), (4, .int p4)]) hx hb dX12_holds_10 hl (by decide) rfl (fun ls hl => ?_)
  have hloop_80 : ∀ (n : Nat), ∀ (y_81 : Int32), (0 ≤ y_81.toInt ∧ y_81.toInt ≤ 19) → ∀ (y_82 : Int32), (0 ≤ y_82.toInt ∧ y_82.toInt ≤ 63) → ∀ (H : Heap) (locs : List Loc), va_P (dC, dI) vwCl (va_pl L f) H → va_S (fun q => q ∈ L) s.heap H locs → 19 - y_81.toInt < (n : Int) → ∀ (ls : Array Slot), lv_has ls 8 [(6, .int y_81), (5, .int y_82), (0, .ref o0), (1, .int p1), (2, .int p2), (3, .ref o3), (4, .int p4)] → W p l e (headSpec (wU yX12_holds cX12_holds 8 (some .boolean)) { frames := 3, cells := 0, slots := 0, locals := 76 }).room s m [.ref o0, .int p1, .int p2, .ref o3, .int p4].toArray below meth c H locs 0 0 (MQ below (va_Qi (fun (r : Int32) (f9 : Nat → va_E) => f = f9 ∧ (0 ≤ r.toInt ∧ r.toInt ≤ 1)) (qP (dC, dI) cI cL cZ cR cG cH L) (fun q => q ∈ L)) [.ref o0, .int p1, .int p2, .ref o3, .int p4].toArray s 0 0 (fun q => q ∈ L)) (F0 m 12 ls []) := by
    intro n
    induction n with
    | zero => intro y_81 by_81 y_82 by_82 H locs hP hS hmuhloop_80 ls hl; exfalso; omega
    | succ n ih_hloop_80 =>
      intro y_81 by_81 y_82 by_82 H locs hP hS hmuhloop_80 ls hl
      refine lv_iload hx hb dX12_holds_12 (lv_at hl 0 rfl) ?_
      refine lv_iload_n hx hb dX12_holds_14 rfl (lv_at hl 4 rfl) ?_
      refine lv_icmp_ge (tgt := 59) hx hb dX12_holds_15 (by decide) (fun c_84 => ?_) (fun c_84 => ?_)
      · skip
        rw [Int32.le_iff_toInt_le] at c_84
        refine lv_aload_n hx hb dX12_holds_59 rfl (lv_at hl 2 rfl) ?_
        refine lv_iload_n hx hb dX12_holds_60 rfl (lv_at hl 3 rfl) ?_
        refine lv_iconst (v := 0) hx hb dX12_holds_61 (by decide) ?_
        refine lv_iload hx hb dX12_holds_62 (lv_at hl 1 rfl) ?_
        refine tk_ViP (As := [.int p1, .int 0, .int y_82]) (rest := []) (n := 3) hx hb hml hown hU hN hZ (s_X12_isDone_k12 l (dC, dI) cI cL cZ cR cG cH Z kd L f hG o0 mo0 ko0 p1 (by constructor <;> omega) 0 (by decide) y_82) wd_898 wd_899 wd_900 wd_5 wd_901 (by decide +kernel) ⟨Nat.le_of_ble_eq_true rfl, Nat.le_of_ble_eq_true rfl⟩ hK hP hD hS mo0 hfo_57 12 rfl rfl rfl hl.1 rfl (Nat.le_of_ble_eq_true rfl) dX12_holds_64 ⟨Nat.le_of_ble_eq_true rfl, Nat.le_of_ble_eq_true rfl⟩ (fun x_85 f_86 H locs hw hP hD hS => ?_)
        obtain ⟨rfl, bx_85⟩ := hw
        refine lv_if_ne (tgt := 72) hx hb dX12_holds_67 (by decide) (fun c_88 => ?_) (fun c_88 => ?_)
        · skip
          rw [← Int32.toInt_inj, ti_0] at c_88
          refine lv_aload_n hx hb dX12_holds_72 rfl (lv_at hl 2 rfl) ?_
          refine lv_iload_n hx hb dX12_holds_73 rfl (lv_at hl 3 rfl) ?_
          refine lv_iconst (v := 1) hx hb dX12_holds_74 (by decide) ?_
          refine lv_iconst (v := 1) hx hb dX12_holds_75 (by decide) ?_
          refine tk_ViP (As := [.int p1, .int 1, .int 1]) (rest := []) (n := 3) hx hb hml hown hU hN hZ (s_X12_closed_k12 l (dC, dI) cI cL cZ cR cG cH Z kd L f hG o0 mo0 ko0 p1 (by constructor <;> omega) 1 (by decide) 1 (by decide)) wd_878 wd_879 wd_880 wd_5 wd_881 (by decide +kernel) ⟨Nat.le_of_ble_eq_true rfl, Nat.le_of_ble_eq_true rfl⟩ hK hP hD hS mo0 hfo_57 12 rfl rfl rfl hl.1 rfl (Nat.le_of_ble_eq_true rfl) dX12_holds_76 ⟨Nat.le_of_ble_eq_true rfl, Nat.le_of_ble_eq_true rfl⟩ (fun x_89 f_90 H locs hw hP hD hS => ?_)
          obtain ⟨rfl, bx_89⟩ := hw
          refine lv_istore (lv' := [(5, .int x_89), (6, .int y_81), (0, .ref o0), (1, .int p1), (2, .int p2), (3, .ref o3), (4, .int p4)]) hx hb dX12_holds_79 hl (by decide) rfl (fun ls hl => ?_)
          refine lv_aload_n hx hb dX12_holds_81 rfl (lv_at hl 2 rfl) ?_
          refine lv_iload_n hx hb dX12_holds_82 rfl (lv_at hl 3 rfl) ?_
          refine lv_iconst (v := 1) hx hb dX12_holds_83 (by decide) ?_
          refine tk_ViP (As := [.int p1, .int 1]) (rest := []) (n := 2) hx hb hml hown hU hN hZ (s_X12_isAnchored_k12 l (dC, dI) cI cL cZ cR cG cH Z kd L f hG o0 mo0 ko0 p1 (by constructor <;> omega) 1 (by decide)) wd_946 wd_947 wd_948 wd_5 wd_949 (by decide +kernel) ⟨Nat.le_of_ble_eq_true rfl, Nat.le_of_ble_eq_true rfl⟩ hK hP hD hS mo0 hfo_57 12 rfl rfl rfl hl.1 rfl (Nat.le_of_ble_eq_true rfl) dX12_holds_84 ⟨Nat.le_of_ble_eq_true rfl, Nat.le_of_ble_eq_true rfl⟩ (fun x_92 f_93 H locs hw hP hD hS => ?_)
          obtain ⟨rfl, bx_92⟩ := hw
          have hcut_96 : ∀ (y_95 : Int32), (0 ≤ y_95.toInt ∧ y_95.toInt ≤ 1) → ∀ (ls : Array Slot), lv_has ls 8 [(5, .int x_89), (6, .int y_81), (0, .ref o0), (1, .int p1), (2, .int p2), (3, .ref o3), (4, .int p4)] → W p l e (headSpec (wU yX12_holds cX12_holds 8 (some .boolean)) { frames := 3, cells := 0, slots := 0, locals := 76 }).room s m [.ref o0, .int p1, .int p2, .ref o3, .int p4].toArray below meth c H locs 0 0 (MQ below (va_Qi (fun (r : Int32) (f9 : Nat → va_E) => f = f9 ∧ (0 ≤ r.toInt ∧ r.toInt ≤ 1)) (qP (dC, dI) cI cL cZ cR cG cH L) (fun q => q ∈ L)) [.ref o0, .int p1, .int p2, .ref o3, .int p4].toArray s 0 0 (fun q => q ∈ L)) (F0 m 95 ls [.int y_95]) := by
            intro y_95 by_95 ls hl
            refine lv_istore (lv' := [(6, .int y_95), (5, .int x_89), (0, .ref o0), (1, .int p1), (2, .int p2), (3, .ref o3), (4, .int p4)]) hx hb dX12_holds_95 hl (by decide) rfl (fun ls hl => ?_)
            refine lv_iload_n hx hb dX12_holds_97 rfl (lv_at hl 4 rfl) ?_
            refine lv_iconst (v := 1) hx hb dX12_holds_98 (by decide) ?_
            refine lv_iadd hx hb dX12_holds_99 ?_
            refine lv_topi (fun x_97 ex_97 => ?_)
            have hx_97 : x_97.toInt = p2.toInt + 1 := by rw [ex_97, ad_I (by rw [ti_1]; omega) (by rw [ti_1]; omega), ti_1]
            have bx_97 : (1 ≤ x_97.toInt ∧ x_97.toInt ≤ 20) := by constructor <;> omega
            refine lv_istore (lv' := [(7, .int x_97), (6, .int y_95), (5, .int x_89), (0, .ref o0), (1, .int p1), (2, .int p2), (3, .ref o3), (4, .int p4)]) hx hb dX12_holds_100 hl (by decide) rfl (fun ls hl => ?_)
            have hloop_104 : ∀ (n : Nat), ∀ (y_105 : Int32), (1 ≤ y_105.toInt ∧ y_105.toInt ≤ 20) → ∀ (y_106 : Int32), (0 ≤ y_106.toInt ∧ y_106.toInt ≤ 63) → ∀ (H : Heap) (locs : List Loc), va_P (dC, dI) vwCl (va_pl L f) H → va_S (fun q => q ∈ L) s.heap H locs → 20 - y_105.toInt < (n : Int) → ∀ (ls : Array Slot), lv_has ls 8 [(7, .int y_105), (6, .int y_95), (5, .int y_106), (0, .ref o0), (1, .int p1), (2, .int p2), (3, .ref o3), (4, .int p4)] → W p l e (headSpec (wU yX12_holds cX12_holds 8 (some .boolean)) { frames := 3, cells := 0, slots := 0, locals := 76 }).room s m [.ref o0, .int p1, .int p2, .ref o3, .int p4].toArray below meth c H locs 0 0 (MQ below (va_Qi (fun (r : Int32) (f9 : Nat → va_E) => f = f9 ∧ (0 ≤ r.toInt ∧ r.toInt ≤ 1)) (qP (dC, dI) cI cL cZ cR cG cH L) (fun q => q ∈ L)) [.ref o0, .int p1, .int p2, .ref o3, .int p4].toArray s 0 0 (fun q => q ∈ L)) (F0 m 102 ls []) := by
              intro n
              induction n with
              | zero => intro y_105 by_105 y_106 by_106 H locs hP hS hmuhloop_104 ls hl; exfalso; omega
              | succ n ih_hloop_104 =>
                intro y_105 by_105 y_106 by_106 H locs hP hS hmuhloop_104 ls hl
                refine lv_iload hx hb dX12_holds_102 (lv_at hl 0 rfl) ?_
                refine lv_iload hx hb dX12_holds_104 (lv_at hl 7 rfl) ?_
                have hcut_109 : ∀ (H : Heap) (locs : List Loc), va_P (dC, dI) vwCl (va_pl L f) H → va_S (fun q => q ∈ L) s.heap H locs → ∀ (ls : Array Slot), lv_has ls 8 [(7, .int y_105), (6, .int y_95), (5, .int y_106), (0, .ref o0), (1, .int p1), (2, .int p2), (3, .ref o3), (4, .int p4)] → W p l e (headSpec (wU yX12_holds cX12_holds 8 (some .boolean)) { frames := 3, cells := 0, slots := 0, locals := 76 }).room s m [.ref o0, .int p1, .int p2, .ref o3, .int p4].toArray below meth c H locs 0 0 (MQ below (va_Qi (fun (r : Int32) (f9 : Nat → va_E) => f = f9 ∧ (0 ≤ r.toInt ∧ r.toInt ≤ 1)) (qP (dC, dI) cI cL cZ cR cG cH L) (fun q => q ∈ L)) [.ref o0, .int p1, .int p2, .ref o3, .int p4].toArray s 0 0 (fun q => q ∈ L)) (F0 m 145 ls []) := by
                  intro H locs hP hS ls hl
                  refine lv_aload_n hx hb dX12_holds_145 rfl (lv_at hl 3 rfl) ?_
                  refine lv_iload_n hx hb dX12_holds_146 rfl (lv_at hl 4 rfl) ?_
                  refine lv_iconst (v := 1) hx hb dX12_holds_147 (by decide) ?_
                  refine lv_iload hx hb dX12_holds_148 (lv_at hl 2 rfl) ?_
                  refine tk_ViP (As := [.int p1, .int 1, .int y_106]) (rest := []) (n := 3) hx hb hml hown hU hN hZ (s_X12_isDone_k12 l (dC, dI) cI cL cZ cR cG cH Z kd L f hG o0 mo0 ko0 p1 (by constructor <;> omega) 1 (by decide) y_106) wd_898 wd_899 wd_900 wd_5 wd_901 (by decide +kernel) ⟨Nat.le_of_ble_eq_true rfl, Nat.le_of_ble_eq_true rfl⟩ hK hP hD hS mo0 hfo_57 12 rfl rfl rfl hl.1 rfl (Nat.le_of_ble_eq_true rfl) dX12_holds_150 ⟨Nat.le_of_ble_eq_true rfl, Nat.le_of_ble_eq_true rfl⟩ (fun x_110 f_111 H locs hw hP hD hS => ?_)
                  obtain ⟨rfl, bx_110⟩ := hw
                  exact W.zret (v := x_110) (ty := .boolean) hx hb hr (zb_n (by constructor <;> omega)) (fun t ht hW => ⟨⟨x_110, f, rfl, ⟨rfl, (by constructor <;> omega)⟩, by rw [ht]; exact hP, va_K.moved hW.alike hK, pl_in hD⟩, hS.F ht⟩) hS.2.2 dX12_holds_153
                refine lv_icmp_ge (tgt := 145) hx hb dX12_holds_106 (by decide) (fun c_113 => ?_) (fun c_113 => ?_)
                · skip
                  rw [Int32.le_iff_toInt_le] at c_113
                  exact hcut_109 _ _ hP hS ls (lv_sub hl [0, 1, 2, 3, 4, 5, 6, 7] rfl)
                · skip
                  rw [Int32.le_iff_toInt_le] at c_113
                  refine lv_iload hx hb dX12_holds_109 (lv_at hl 1 rfl) ?_
                  refine lv_if_eq (tgt := 125) hx hb dX12_holds_111 (by decide) (fun c_114 => ?_) (fun c_114 => ?_)
                  · skip
                    rw [← Int32.toInt_inj, ti_0] at c_114
                    refine lv_aload_n hx hb dX12_holds_125 rfl (lv_at hl 3 rfl) ?_
                    refine lv_iload_n hx hb dX12_holds_126 rfl (lv_at hl 4 rfl) ?_
                    refine lv_iconst (v := 1) hx hb dX12_holds_127 (by decide) ?_
                    refine lv_iload hx hb dX12_holds_128 (lv_at hl 2 rfl) ?_
                    refine lv_aload_n hx hb dX12_holds_130 rfl (lv_at hl 6 rfl) ?_
                    refine lv_iload hx hb dX12_holds_131 (lv_at hl 0 rfl) ?_
                    obtain ⟨g_116, hfo_115, hbg_116⟩ := un_588 (hG _ mo3) ko3
                    refine tk_ildP hx hb hK hP 0 mo3 hfo_115 rfl (vp_in_iff.mpr (by constructor <;> omega)) dX12_holds_133 ?_
                    refine lv_topi (fun x_117 ex_117 => ?_)
                    have bx_117 : ((-2147483648) ≤ x_117.toInt ∧ x_117.toInt ≤ 2147483647) := ⟨i32_lo _, i32_hi _⟩
                    refine tk_ViP (As := [.int p1, .int 1, .int y_106, .int x_117]) (rest := []) (n := 4) hx hb hml hown hU hN hZ (s_X12_goesOn_k12 l (dC, dI) cI cL cZ cR cG cH Z kd L f hG o0 mo0 ko0 p1 (by constructor <;> omega) 1 (by decide) y_106 x_117) wd_942 wd_943 wd_944 wd_5 wd_945 (by decide +kernel) ⟨Nat.le_of_ble_eq_true rfl, Nat.le_of_ble_eq_true rfl⟩ hK hP hD hS mo0 hfo_57 12 rfl rfl rfl hl.1 rfl (Nat.le_of_ble_eq_true rfl) dX12_holds_134 ⟨Nat.le_of_ble_eq_true rfl, Nat.le_of_ble_eq_true rfl⟩ (fun x_118 f_119 H locs hw hP hD hS => ?_)
                    obtain ⟨rfl, bx_118⟩ := hw
                    refine lv_istore (lv' := [(5, .int x_118), (7, .int y_105), (6, .int y_95), (0, .ref o0), (1, .int p1), (2, .int p2), (3, .ref o3), (4, .int p4)]) hx hb dX12_holds_137 hl (by decide) rfl (fun ls hl => ?_)
                    obtain ⟨x_121, ex_121⟩ : ∃ y : Int32, y_105 + 1 = y := ⟨_, rfl⟩
                    have hx_121 : x_121.toInt = y_105.toInt + 1 := by rw [← ex_121, ad_I (by rw [ti_1]; omega) (by rw [ti_1]; omega), ti_1]
                    have bx_121 : (2 ≤ x_121.toInt ∧ x_121.toInt ≤ 20) := by constructor <;> omega
                    refine lv_iinc (v := x_121) (lv' := [(7, .int x_121), (5, .int x_118), (6, .int y_95), (0, .ref o0), (1, .int p1), (2, .int p2), (3, .ref o3), (4, .int p4)]) hx hb dX12_holds_139 hl (k := 1) rfl ex_121 (by decide) rfl (fun ls hl => ?_)
                    refine lv_goto (tgt := 102) hx hb dX12_holds_142 (by decide) ?_
                    exact ih_hloop_104 x_121 (by constructor <;> omega) x_118 (by constructor <;> omega) _ _ hP hS (by omega) ls (lv_sub hl [0, 2, 1, 3, 4, 5, 6, 7] rfl)
                  · skip
                    rw [← Int32.toInt_inj, ti_0] at c_114
                    refine lv_aload_n hx hb dX12_holds_114 rfl (lv_at hl 3 rfl) ?_
                    refine lv_iload_n hx hb dX12_holds_115 rfl (lv_at hl 4 rfl) ?_
                    refine lv_iconst (v := 1) hx hb dX12_holds_116 (by decide) ?_
                    refine lv_iload hx hb dX12_holds_117 (lv_at hl 2 rfl) ?_
                    refine tk_ViP (As := [.int p1, .int 1, .int y_106]) (rest := []) (n := 3) hx hb hml hown hU hN hZ (s_X12_isDone_k12 l (dC, dI) cI cL cZ cR cG cH Z kd L f hG o0 mo0 ko0 p1 (by constructor <;> omega) 1 (by decide) y_106) wd_898 wd_899 wd_900 wd_5 wd_901 (by decide +kernel) ⟨Nat.le_of_ble_eq_true rfl, Nat.le_of_ble_eq_true rfl⟩ hK hP hD hS mo0 hfo_57 12 rfl rfl rfl hl.1 rfl (Nat.le_of_ble_eq_true rfl) dX12_holds_119 ⟨Nat.le_of_ble_eq_true rfl, Nat.le_of_ble_eq_true rfl⟩ (fun x_122 f_123 H locs hw hP hD hS => ?_)
                    obtain ⟨rfl, bx_122⟩ := hw
                    refine lv_if_ne (tgt := 145) hx hb dX12_holds_122 (by decide) (fun c_125 => ?_) (fun c_125 => ?_)
                    · skip
                      rw [← Int32.toInt_inj, ti_0] at c_125
                      exact hcut_109 _ _ hP hS ls (lv_sub hl [0, 1, 2, 3, 4, 5, 6, 7] rfl)
                    · skip
                      rw [← Int32.toInt_inj, ti_0] at c_125
                      refine lv_aload_n hx hb dX12_holds_125 rfl (lv_at hl 3 rfl) ?_
                      refine lv_iload_n hx hb dX12_holds_126 rfl (lv_at hl 4 rfl) ?_
                      refine lv_iconst (v := 1) hx hb dX12_holds_127 (by decide) ?_
                      refine lv_iload hx hb dX12_holds_128 (lv_at hl 2 rfl) ?_
                      refine lv_aload_n hx hb dX12_holds_130 rfl (lv_at hl 6 rfl) ?_
                      refine lv_iload hx hb dX12_holds_131 (lv_at hl 0 rfl) ?_
                      obtain ⟨g_127, hfo_126, hbg_127⟩ := un_588 (hG _ mo3) ko3
                      refine tk_ildP hx hb hK hP 0 mo3 hfo_126 rfl (vp_in_iff.mpr (by constructor <;> omega)) dX12_holds_133 ?_
                      refine lv_topi (fun x_128 ex_128 => ?_)
                      have bx_128 : ((-2147483648) ≤ x_128.toInt ∧ x_128.toInt ≤ 2147483647) := ⟨i32_lo _, i32_hi _⟩
                      refine tk_ViP (As := [.int p1, .int 1, .int y_106, .int x_128]) (rest := []) (n := 4) hx hb hml hown hU hN hZ (s_X12_goesOn_k12 l (dC, dI) cI cL cZ cR cG cH Z kd L f hG o0 mo0 ko0 p1 (by constructor <;> omega) 1 (by decide) y_106 x_128) wd_942 wd_943 wd_944 wd_5 wd_945 (by decide +kernel) ⟨Nat.le_of_ble_eq_true rfl, Nat.le_of_ble_eq_true rfl⟩ hK hP hD hS mo0 hfo_57 12 rfl rfl rfl hl.1 rfl (Nat.le_of_ble_eq_true rfl) dX12_holds_134 ⟨Nat.le_of_ble_eq_true rfl, Nat.le_of_ble_eq_true rfl⟩ (fun x_129 f_130 H locs hw hP hD hS => ?_)
                      obtain ⟨rfl, bx_129⟩ := hw
                      refine lv_istore (lv' := [(5, .int x_129), (7, .int y_105), (6, .int y_95), (0, .ref o0), (1, .int p1), (2, .int p2), (3, .ref o3), (4, .int p4)]) hx hb dX12_holds_137 hl (by decide) rfl (fun ls hl => ?_)
                      obtain ⟨x_132, ex_132⟩ : ∃ y : Int32, y_105 + 1 = y := ⟨_, rfl⟩
                      have hx_132 : x_132.toInt = y_105.toInt + 1 := by rw [← ex_132, ad_I (by rw [ti_1]; omega) (by rw [ti_1]; omega), ti_1]
                      have bx_132 : (2 ≤ x_132.toInt ∧ x_132.toInt ≤ 20) := by constructor <;> omega
                      refine lv_iinc (v := x_132) (lv' := [(7, .int x_132), (5, .int x_129), (6, .int y_95), (0, .ref o0), (1, .int p1), (2, .int p2), (3, .ref o3), (4, .int p4)]) hx hb dX12_holds_139 hl (k := 1) rfl ex_132 (by decide) rfl (fun ls hl => ?_)
                      refine lv_goto (tgt := 102) hx hb dX12_holds_142 (by decide) ?_
                      exact ih_hloop_104 x_132 (by constructor <;> omega) x_129 (by constructor <;> omega) _ _ hP hS (by omega) ls (lv_sub hl [0, 2, 1, 3, 4, 5, 6, 7] rfl)
            exact hloop_104 20 x_97 (by constructor <;> omega) x_89 (by constructor <;> omega) _ _ hP hS (by omega) ls hl
          refine lv_if_ne (tgt := 94) hx hb dX12_holds_87 (by decide) (fun c_133 => ?_) (fun c_133 => ?_)
          · skip
            rw [← Int32.toInt_inj, ti_0] at c_133
            refine lv_iconst (v := 0) hx hb dX12_holds_94 (by decide) ?_
            exact hcut_96 0 (by decide) ls (lv_sub hl [0, 1, 2, 3, 4, 5, 6] rfl)
          · skip
            rw [← Int32.toInt_inj, ti_0] at c_133
            refine lv_iconst (v := 1) hx hb dX12_holds_90 (by decide) ?_
            refine lv_goto (tgt := 95) hx hb dX12_holds_91 (by decide) ?_
            exact hcut_96 1 (by decide) ls (lv_sub hl [0, 1, 2, 3, 4, 5, 6] rfl)
        · skip
          rw [← Int32.toInt_inj, ti_0] at c_88
          refine lv_iconst (v := 0) hx hb dX12_holds_70 (by decide) ?_
          exact W.zret (v := 0) (ty := .boolean) hx hb hr rfl (fun t ht hW => ⟨⟨0, f, rfl, ⟨rfl, (by decide)⟩, by rw [ht]; exact hP, va_K.moved hW.alike hK, pl_in hD⟩, hS.F ht⟩) hS.2.2 dX12_holds_71
      · skip
        rw [Int32.le_iff_toInt_le] at c_84
        refine lv_aload_n hx hb dX12_holds_18 rfl (lv_at hl 2 rfl) ?_
        refine lv_iload_n hx hb dX12_holds_19 rfl (lv_at hl 3 rfl) ?_
        refine lv_iconst (v := 0) hx hb dX12_holds_20 (by decide) ?_
        refine lv_iload hx hb dX12_holds_21 (lv_at hl 1 rfl) ?_
        refine lv_aload_n hx hb dX12_holds_23 rfl (lv_at hl 5 rfl) ?_
        refine lv_iload hx hb dX12_holds_24 (lv_at hl 0 rfl) ?_
        obtain ⟨g_135, hfo_134, hbg_135⟩ := un_588 (hG _ mo3) ko3
        refine tk_ildP hx hb hK hP 0 mo3 hfo_134 rfl (vp_in_iff.mpr (by constructor <;> omega)) dX12_holds_26 ?_
        refine lv_topi (fun x_136 ex_136 => ?_)
        have bx_136 : ((-2147483648) ≤ x_136.toInt ∧ x_136.toInt ≤ 2147483647) := ⟨i32_lo _, i32_hi _⟩
        refine tk_ViP (As := [.int p1, .int 0, .int y_82, .int x_136]) (rest := []) (n := 4) hx hb hml hown hU hN hZ (s_X12_goesOn_k12 l (dC, dI) cI cL cZ cR cG cH Z kd L f hG o0 mo0 ko0 p1 (by constructor <;> omega) 0 (by decide) y_82 x_136) wd_942 wd_943 wd_944 wd_5 wd_945 (by decide +kernel) ⟨Nat.le_of_ble_eq_true rfl, Nat.le_of_ble_eq_true rfl⟩ hK hP hD hS mo0 hfo_57 12 rfl rfl rfl hl.1 rfl (Nat.le_of_ble_eq_true rfl) dX12_holds_27 ⟨Nat.le_of_ble_eq_true rfl, Nat.le_of_ble_eq_true rfl⟩ (fun x_137 f_138 H locs hw hP hD hS => ?_)
        obtain ⟨rfl, bx_137⟩ := hw
        refine lv_aload_n hx hb dX12_holds_30 rfl (lv_at hl 2 rfl) ?_
        refine lv_iload_n hx hb dX12_holds_31 rfl (lv_at hl 3 rfl) ?_
        refine lv_iconst (v := 0) hx hb dX12_holds_32 (by decide) ?_
        refine tk_ViP (As := [.int p1, .int 0]) (rest := [.int x_137]) (n := 2) hx hb hml hown hU hN hZ (s_X12_isAnchored_k12 l (dC, dI) cI cL cZ cR cG cH Z kd L f hG o0 mo0 ko0 p1 (by constructor <;> omega) 0 (by decide)) wd_946 wd_947 wd_948 wd_5 wd_949 (by decide +kernel) ⟨Nat.le_of_ble_eq_true rfl, Nat.le_of_ble_eq_true rfl⟩ hK hP hD hS mo0 hfo_57 12 rfl rfl rfl hl.1 rfl (Nat.le_of_ble_eq_true rfl) dX12_holds_33 ⟨Nat.le_of_ble_eq_true rfl, Nat.le_of_ble_eq_true rfl⟩ (fun x_140 f_141 H locs hw hP hD hS => ?_)
        obtain ⟨rfl, bx_140⟩ := hw
        have hcut_145 : ∀ (y_143 : Int32), (0 ≤ y_143.toInt ∧ y_143.toInt ≤ 63) → ∀ (H : Heap) (locs : List Loc), va_P (dC, dI) vwCl (va_pl L f) H → va_S (fun q => q ∈ L) s.heap H locs → ∀ (ls : Array Slot), lv_has ls 8 [(6, .int y_81), (5, .int y_82), (0, .ref o0), (1, .int p1), (2, .int p2), (3, .ref o3), (4, .int p4)] → W p l e (headSpec (wU yX12_holds cX12_holds 8 (some .boolean)) { frames := 3, cells := 0, slots := 0, locals := 76 }).room s m [.ref o0, .int p1, .int p2, .ref o3, .int p4].toArray below meth c H locs 0 0 (MQ below (va_Qi (fun (r : Int32) (f9 : Nat → va_E) => f = f9 ∧ (0 ≤ r.toInt ∧ r.toInt ≤ 1)) (qP (dC, dI) cI cL cZ cR cG cH L) (fun q => q ∈ L)) [.ref o0, .int p1, .int p2, .ref o3, .int p4].toArray s 0 0 (fun q => q ∈ L)) (F0 m 50 ls [.int y_143, .int x_137]) := by
          intro y_143 by_143 H locs hP hS ls hl
          refine lv_ior hx hb dX12_holds_50 ?_
          refine lv_topi (fun x_146 ex_146 => ?_)
          have bx_146 : (0 ≤ x_146.toInt ∧ x_146.toInt ≤ 63) := by rw [ex_146]; exact or_K 6 (by decide) (by constructor <;> omega) (by constructor <;> omega)
          refine lv_istore (lv' := [(5, .int x_146), (6, .int y_81), (0, .ref o0), (1, .int p1), (2, .int p2), (3, .ref o3), (4, .int p4)]) hx hb dX12_holds_51 hl (by decide) rfl (fun ls hl => ?_)
          obtain ⟨x_147, ex_147⟩ : ∃ y : Int32, y_81 + 1 = y := ⟨_, rfl⟩
          have hx_147 : x_147.toInt = y_81.toInt + 1 := by rw [← ex_147, ad_I (by rw [ti_1]; omega) (by rw [ti_1]; omega), ti_1]
          have bx_147 : (1 ≤ x_147.toInt ∧ x_147.toInt ≤ 19) := by constructor <;> omega
          refine lv_iinc (v := x_147) (lv' := [(6, .int x_147), (5, .int x_146), (0, .ref o0), (1, .int p1), (2, .int p2), (3, .ref o3), (4, .int p4)]) hx hb dX12_holds_53 hl (k := 1) rfl ex_147 (by decide) rfl (fun ls hl => ?_)
          refine lv_goto (tgt := 12) hx hb dX12_holds_56 (by decide) ?_
          exact ih_hloop_80 x_147 (by constructor <;> omega) x_146 (by constructor <;> omega) _ _ hP hS (by omega) ls (lv_sub hl [0, 1, 2, 3, 4, 5, 6] rfl)
        refine lv_if_eq (tgt := 43) hx hb dX12_holds_36 (by decide) (fun c_148 => ?_) (fun c_148 => ?_)
        · skip
          rw [← Int32.toInt_inj, ti_0] at c_148
          refine lv_aload_n hx hb dX12_holds_43 rfl (lv_at hl 2 rfl) ?_
          refine lv_iload_n hx hb dX12_holds_44 rfl (lv_at hl 3 rfl) ?_
          refine lv_iconst (v := 0) hx hb dX12_holds_45 (by decide) ?_
          refine lv_iconst (v := 1) hx hb dX12_holds_46 (by decide) ?_
          refine tk_ViP (As := [.int p1, .int 0, .int 1]) (rest := [.int x_137]) (n := 3) hx hb hml hown hU hN hZ (s_X12_closed_k12 l (dC, dI) cI cL cZ cR cG cH Z kd L f hG o0 mo0 ko0 p1 (by constructor <;> omega) 0 (by decide) 1 (by decide)) wd_878 wd_879 wd_880 wd_5 wd_881 (by decide +kernel) ⟨Nat.le_of_ble_eq_true rfl, Nat.le_of_ble_eq_true rfl⟩ hK hP hD hS mo0 hfo_57 12 rfl rfl rfl hl.1 rfl (Nat.le_of_ble_eq_true rfl) dX12_holds_47 ⟨Nat.le_of_ble_eq_true rfl, Nat.le_of_ble_eq_true rfl⟩ (fun x_149 f_150 H locs hw hP hD hS => ?_)
          obtain ⟨rfl, bx_149⟩ := hw
          exact hcut_145 x_149 (by constructor <;> omega) _ _ hP hS ls (lv_sub hl [0, 1, 2, 3, 4, 5, 6] rfl)
        · skip
          rw [← Int32.toInt_inj, ti_0] at c_148
          refine lv_iconst (v := 0) hx hb dX12_holds_39 (by decide) ?_
          refine lv_goto (tgt := 50) hx hb dX12_holds_40 (by decide) ?_
          exact hcut_145 0 (by decide) _ _ hP hS ls (lv_sub hl [0, 1, 2, 3, 4, 5, 6] rfl)
  exact hloop_80 20 0 (by decide) x_59 (by constructor <;> omega) _ _ hP hS (by (try rw [ti_0]) <;> omega) ls hl
set_option maxHeartbeats 8000000 in
set_option maxRecDepth 100000 in
theorem s_X12_someHolds_k12_a588 (l : Launch) (D : va_G) (cI cL cZ cR cG cH : ClassId) (Z : zT) (kd : Nat → Nat) (L : List Nat) (f : Nat → va_E) (hG : GI (okc cI cL cZ cR cG cH L kd) kd L f) (o0 : Nat) (mo0 : o0 ∈ L) (ko0 : kd o0 = 12) (p1 : Int32) (bp1 : (0 ≤ p1.toInt ∧ p1.toInt ≤ 7)) (p2 : Int32) (bp2 : (0 ≤ p2.toInt ∧ p2.toInt ≤ 19)) (o3 : Nat) (mo3 : o3 ∈ L) (ko3 : kd o3 = 588) (p4 : Int32) (bp4 : (0 ≤ p4.toInt ∧ p4.toInt ≤ 20)) : mPI l D cI cL cZ cR cG cH Z yX12_someHolds cX12_someHolds 6 (some .boolean) 4 103 [.ref o0, .int p1, .int p2, .ref o3, .int p4] L f (fun (r : Int32) (f9 : Nat → va_E) => f = f9 ∧ (0 ≤ r.toInt ∧ r.toInt ≤ 1)) := by
  obtain ⟨dC, dI⟩ := D
  refine Met.ofW (cc := cX12_someHolds) (maxL := 6) (ret := (some .boolean)) (by decide) rfl ?_
  intro p e s m args below meth c s₁ B hml hv
  obtain ⟨rfl, hP, hK, hD0, hN, hZ⟩ := hv
  have hx := B.exec
  have hb := B.bytes
  have hr := B.returns
  have hU : ∀ w ∈ wsU, w.before _ s = true := fun w h => atoms_spec (ws := wU yX12_someHolds cX12_someHolds 6 (some .boolean)) B.pre w (List.mem_cons_of_mem _ h)
  have hown : s.vm.findClass RX12 = some m.cls := findClass_of_methodNamed B.named
  have hlocks := B.notSynchronized
  have hD := pl_in hD0
  have hS : va_S (fun q => q ∈ L) s.heap s.heap [] := va_S.rf
  have hl := lv_entry ([.ref o0, .int p1, .int p2, .ref o3, .int p4]) (n := 6) (Nat.le_of_ble_eq_true rfl)
  rw [lg_entry_eq]
  generalize (lg_sl ([.ref o0, .int p1, .int p2, .ref o3, .int p4]) ++ List.replicate (6 - (lg_sl ([.ref o0, .int p1, .int p2, .ref o3, .int p4])).length) Slot.unset).toArray = ls at hl ⊢
  have hl : lv_has ls 6 [(0, .ref o0), (1, .int p1), (2, .int p2), (3, .ref o3), (4, .int p4)] := hl
  refine lv_iconst (v := 0) hx hb dX12_someHolds_0 (by decide) ?_
  refine lv_istore (lv' := [(5, .int 0), (0, .ref o0), (1, .int p1), (2, .int p2), (3, .ref o3), (4, .int p4)]) hx hb dX12_someHolds_1 hl (by decide) rfl (fun ls hl => ?_)
  have hloop_13 : ∀ (n : Nat), ∀ (y_14 : Int32), (0 ≤ y_14.toInt ∧ y_14.toInt ≤ 3) → ∀ (H : Heap) (locs : List Loc), va_P (dC, dI) vwCl (va_pl L f) H → va_S (fun q => q ∈ L) s.heap H locs → 3 - y_14.toInt < (n : Int) → ∀ (ls : Array Slot), lv_has ls 6 [(5, .int y_14), (0, .ref o0), (1, .int p1), (2, .int p2), (3, .ref o3), (4, .int p4)] → W p l e (headSpec (wU yX12_someHolds cX12_someHolds 6 (some .boolean)) { frames := 4, cells := 0, slots := 0, locals := 103 }).room s m [.ref o0, .int p1, .int p2, .ref o3, .int p4].toArray below meth c H locs 0 0 (MQ below (va_Qi (fun (r : Int32) (f9 : Nat → va_E) => f = f9 ∧ (0 ≤ r.toInt ∧ r.toInt ≤ 1)) (qP (dC, dI) cI cL cZ cR cG cH L) (fun q => q ∈ L)) [.ref o0, .int p1, .int p2, .ref o3, .int p4].toArray s 0 0 (fun q => q ∈ L)) (F0 m 3 ls []) := by
    intro n
    induction n with
    | zero => intro y_14 by_14 H locs hP hS hmuhloop_13 ls hl; exfalso; omega
    | succ n ih_hloop_13 =>
      intro y_14 by_14 H locs hP hS hmuhloop_13 ls hl
      refine lv_iload hx hb dX12_someHolds_3 (lv_at hl 0 rfl) ?_
      refine lv_aload_n hx hb dX12_someHolds_5 rfl (lv_at hl 1 rfl) ?_
      refine lv_iload_n hx hb dX12_someHolds_6 rfl (lv_at hl 2 rfl) ?_
      refine lv_iconst (v := 3) hx hb dX12_someHolds_7 (by decide) ?_
      obtain ⟨a_16, a_17, a_18, v_19, a_20, v_21, v_22, v_23, v_24, v_25, v_26, v_27, v_28, v_29, v_30, a_31, a_32, a_33, a_34, a_35, a_36, a_37, a_38, v_39, v_40, v_41, v_42, v_43, a_44, v_45, a_46, a_47, v_48, v_49, a_50, v_51, a_52, a_53, v_54, v_55, a_56, a_57, a_58, v_59, a_60, a_61, a_62, a_63, a_64, a_65, a_66, a_67, a_68, v_69, v_70, a_71, hfo_72, fa_73⟩ := un12 (hG _ mo0) ko0
      refine tk_ViP (As := [.int p1, .int 3]) (rest := [.int y_14]) (n := 2) hx hb hml hown hU hN hZ (s_X12_ofRule_k12_c3_3 l (dC, dI) cI cL cZ cR cG cH Z kd L f hG o0 mo0 ko0 p1 (by constructor <;> omega)) wd_894 wd_895 wd_896 wd_5 wd_897 (by decide +kernel) ⟨Nat.le_of_ble_eq_true rfl, Nat.le_of_ble_eq_true rfl⟩ hK hP hD hS mo0 hfo_72 12 rfl rfl rfl hl.1 rfl (Nat.le_of_ble_eq_true rfl) dX12_someHolds_8 ⟨Nat.le_of_ble_eq_true rfl, Nat.le_of_ble_eq_true rfl⟩ (fun x_74 f_75 H locs hw hP hD hS => ?_)
      obtain ⟨rfl, bx_74⟩ := hw
      refine lv_icmp_ge (tgt := 39) hx hb dX12_someHolds_11 (by decide) (fun c_77 => ?_) (fun c_77 => ?_)
      · skip
        rw [Int32.le_iff_toInt_le] at c_77
        refine lv_iconst (v := 0) hx hb dX12_someHolds_39 (by decide) ?_
        exact W.zret (v := 0) (ty := .boolean) hx hb hr rfl (fun t ht hW => ⟨⟨0, f, rfl, ⟨rfl, (by decide)⟩, by rw [ht]; exact hP, va_K.moved hW.alike hK, pl_in hD⟩, hS.F ht⟩) hS.2.2 dX12_someHolds_40
      · skip
        rw [Int32.le_iff_toInt_le] at c_77
        refine lv_aload_n hx hb dX12_someHolds_14 rfl (lv_at hl 1 rfl) ?_
        refine lv_iconst (v := 3) hx hb dX12_someHolds_15 (by decide) ?_
        refine lv_iload_n hx hb dX12_someHolds_16 rfl (lv_at hl 2 rfl) ?_
        refine lv_imul hx hb dX12_someHolds_17 ?_
        refine lv_topi (fun x_78 ex_78 => ?_)
        have hx_78 : x_78.toInt = 3 * p1.toInt := by rw [ex_78, ml_I (by rw [ti_3]; omega) (by rw [ti_3]; omega), ti_3]
        have bx_78 : (0 ≤ x_78.toInt ∧ x_78.toInt ≤ 21) := by constructor <;> omega
        refine lv_iload hx hb dX12_someHolds_18 (lv_at hl 0 rfl) ?_
        refine lv_iadd hx hb dX12_someHolds_20 ?_
        refine lv_topi (fun x_79 ex_79 => ?_)
        have hx_79 : x_79.toInt = x_78.toInt + y_14.toInt := by rw [ex_79, ad_I (by omega) (by omega)]
        have bx_79 : (0 ≤ x_79.toInt ∧ x_79.toInt ≤ 23) := by constructor <;> omega
        refine lv_iload_n hx hb dX12_someHolds_21 rfl (lv_at hl 3 rfl) ?_
        refine lv_aload_n hx hb dX12_someHolds_22 rfl (lv_at hl 4 rfl) ?_
        refine lv_iload hx hb dX12_someHolds_23 (lv_at hl 5 rfl) ?_
        refine tk_ViP (As := [.int x_79, .int p2, .ref o3, .int p4]) (rest := []) (n := 4) hx hb hml hown hU hN hZ (s_X12_holds_k12_a588 l (dC, dI) cI cL cZ cR cG cH Z kd L f hG o0 mo0 ko0 x_79 (by constructor <;> omega) p2 (by constructor <;> omega) o3 mo3 ko3 p4 (by constructor <;> omega)) wd_938 wd_939 wd_940 wd_5 wd_941 (by decide +kernel) ⟨Nat.le_of_ble_eq_true rfl, Nat.le_of_ble_eq_true rfl⟩ hK hP hD hS mo0 hfo_72 12 rfl rfl rfl hl.1 rfl (Nat.le_of_ble_eq_true rfl) dX12_someHolds_25 ⟨Nat.le_of_ble_eq_true rfl, Nat.le_of_ble_eq_true rfl⟩ (fun x_80 f_81 H locs hw hP hD hS => ?_)
        obtain ⟨rfl, bx_80⟩ := hw
        refine lv_if_eq (tgt := 33) hx hb dX12_someHolds_28 (by decide) (fun c_83 => ?_) (fun c_83 => ?_)
        · skip
          rw [← Int32.toInt_inj, ti_0] at c_83
          obtain ⟨x_84, ex_84⟩ : ∃ y : Int32, y_14 + 1 = y := ⟨_, rfl⟩
          have hx_84 : x_84.toInt = y_14.toInt + 1 := by rw [← ex_84, ad_I (by rw [ti_1]; omega) (by rw [ti_1]; omega), ti_1]
          have bx_84 : (1 ≤ x_84.toInt ∧ x_84.toInt ≤ 3) := by constructor <;> omega
          refine lv_iinc (v := x_84) (lv' := [(5, .int x_84), (0, .ref o0), (1, .int p1), (2, .int p2), (3, .ref o3), (4, .int p4)]) hx hb dX12_someHolds_33 hl (k := 0) rfl ex_84 (by decide) rfl (fun ls hl => ?_)
          refine lv_goto (tgt := 3) hx hb dX12_someHolds_36 (by decide) ?_
          exact ih_hloop_13 x_84 (by constructor <;> omega) _ _ hP hS (by omega) ls (lv_sub hl [0, 1, 2, 3, 4, 5] rfl)
        · skip
          rw [← Int32.toInt_inj, ti_0] at c_83
          refine lv_iconst (v := 1) hx hb dX12_someHolds_31 (by decide) ?_
          exact W.zret (v := 1) (ty := .boolean) hx hb hr rfl (fun t ht hW => ⟨⟨1, f, rfl, ⟨rfl, (by decide)⟩, by rw [ht]; exact hP, va_K.moved hW.alike hK, pl_in hD⟩, hS.F ht⟩) hS.2.2 dX12_someHolds_32
  exact hloop_13 4 0 (by decide) _ _ hP hS (by (try rw [ti_0]) <;> omega) ls hl
set_option maxHeartbeats 8000000 in
set_option maxRecDepth 100000 in
theorem s_X12_holds_k12_a598 (l : Launch) (D : va_G) (cI cL cZ cR cG cH : ClassId) (Z : zT) (kd : Nat → Nat) (L : List Nat) (f : Nat → va_E) (hG : GI (okc cI cL cZ cR cG cH L kd) kd L f) (o0 : Nat) (mo0 : o0 ∈ L) (ko0 : kd o0 = 12) (p1 : Int32) (bp1 : (0 ≤ p1.toInt ∧ p1.toInt ≤ 23)) (p2 : Int32) (bp2 : (0 ≤ p2.toInt ∧ p2.toInt ≤ 15)) (o3 : Nat) (mo3 : o3 ∈ L) (ko3 : kd o3 = 598) (p4 : Int32) (bp4 : (0 ≤ p4.toInt ∧ p4.toInt ≤ 16)) : mPI l D cI cL cZ cR cG cH Z yX12_holds cX12_holds 8 (some .boolean) 3 76 [.ref o0, .int p1, .int p2, .ref o3, .int p4] L f (fun (r : Int32) (f9 : Nat → va_E) => f = f9 ∧ (0 ≤ r.toInt ∧ r.toInt ≤ 1)) := by
  obtain ⟨dC, dI⟩ := D
  refine Met.ofW (cc := cX12_holds) (maxL := 8) (ret := (some .boolean)) (by decide) rfl ?_
  intro p e s m args below meth c s₁ B hml hv
  obtain ⟨rfl, hP, hK, hD0, hN, hZ⟩ := hv
  have hx := B.exec
  have hb := B.bytes
  have hr := B.returns
  have hU : ∀ w ∈ wsU, w.before _ s = true := fun w h => atoms_spec (ws := wU yX12_holds cX12_holds 8 (some .boolean)) B.pre w (List.mem_cons_of_mem _ h)
  have hown : s.vm.findClass RX12 = some m.cls := findClass_of_methodNamed B.named
  have hlocks := B.notSynchronized
  have hD := pl_in hD0
  have hS : va_S (fun q => q ∈ L) s.heap s.heap [] := va_S.rf
  have hl := lv_entry ([.ref o0, .int p1, .int p2, .ref o3, .int p4]) (n := 8) (Nat.le_of_ble_eq_true rfl)
  rw [lg_entry_eq]
  generalize (lg_sl ([.ref o0, .int p1, .int p2, .ref o3, .int p4]) ++ List.replicate (8 - (lg_sl ([.ref o0, .int p1, .int p2, .ref o3, .int p4])).length) Slot.unset).toArray = ls at hl ⊢
  have hl : lv_has ls 8 [(0, .ref o0), (1, .int p1), (2, .int p2), (3, .ref o3), (4, .int p4)] := hl
  refine lv_aload_n hx hb dX12_holds_0 rfl (lv_at hl 0 rfl) ?_
  refine lv_iload_n hx hb dX12_holds_1 rfl (lv_at hl 1 rfl) ?_
  refine lv_iconst (v := 0) hx hb dX12_holds_2 (by decide) ?_
  refine lv_iconst (v := 1) hx hb dX12_holds_3 (by decide) ?_
  obtain ⟨a_1, a_2, a_3, v_4, a_5, v_6, v_7, v_8, v_9, v_10, v_11, v_12, v_13, v_14, v_15, a_16, a_17, a_18, a_19, a_20, a_21, a_22, a_23, v_24, v_25, v_26, v_27, v_28, a_29, v_30, a_31, a_32, v_33, v_34, a_35, v_36, a_37, a_38, v_39, v_40, a_41, a_42, a_43, v_44, a_45, a_46, a_47, a_48, a_49, a_50, a_51, a_52, a_53, v_54, v_55, a_56, hfo_57, fa_58⟩ := un12 (hG _ mo0) ko0
  refine tk_ViP (As := [.int p1, .int 0, .int 1]) (rest := []) (n := 3) hx hb hml hown hU hN hZ (s_X12_closed_k12 l (dC, dI) cI cL cZ cR cG cH Z kd L f hG o0 mo0 ko0 p1 (by constructor <;> omega) 0 (by decide) 1 (by decide)) wd_878 wd_879 wd_880 wd_5 wd_881 (by decide +kernel) ⟨Nat.le_of_ble_eq_true rfl, Nat.le_of_ble_eq_true rfl⟩ hK hP hD hS mo0 hfo_57 12 rfl rfl rfl hl.1 rfl (Nat.le_of_ble_eq_true rfl) dX12_holds_4 ⟨Nat.le_of_ble_eq_true rfl, Nat.le_of_ble_eq_true rfl⟩ (fun x_59 f_60 H locs hw hP hD hS => ?_)
  obtain ⟨rfl, bx_59⟩ := hw
  refine lv_istore (lv' := [(5, .int x_59), (0, .ref o0), (1, .int p1), (2, .int p2), (3, .ref o3), (4, .int p4)]) hx hb dX12_holds_7 hl (by decide) rfl (fun ls hl => ?_)
  refine lv_iconst (v := 0) hx hb dX12_holds_9 (by decide) ?_
  refine lv_istore (lv' := [(6, .int 0), (5, .int x_59), (0, .ref o0), (1, .int p1), (2, .int p2), (3, .ref o3), (4, .int p4)]) hx hb dX12_holds_10 hl (by decide) rfl (fun ls hl => ?_)
  have hloop_80 : ∀ (n : Nat), ∀ (y_81 : Int32), (0 ≤ y_81.toInt ∧ y_81.toInt ≤ 15) → ∀ (y_82 : Int32), (0 ≤ y_82.toInt ∧ y_82.toInt ≤ 63) → ∀ (H : Heap) (locs : List Loc), va_P (dC, dI) vwCl (va_pl L f) H → va_S (fun q => q ∈ L) s.heap H locs → 15 - y_81.toInt < (n : Int) → ∀ (ls : Array Slot), lv_has ls 8 [(6, .int y_81), (5, .int y_82), (0, .ref o0), (1, .int p1), (2, .int p2), (3, .ref o3), (4, .int p4)] → W p l e (headSpec (wU yX12_holds cX12_holds 8 (some .boolean)) { frames := 3, cells := 0, slots := 0, locals := 76 }).room s m [.ref o0, .int p1, .int p2, .ref o3, .int p4].toArray below meth c H locs 0 0 (MQ below (va_Qi (fun (r : Int32) (f9 : Nat → va_E) => f = f9 ∧ (0 ≤ r.toInt ∧ r.toInt ≤ 1)) (qP (dC, dI) cI cL cZ cR cG cH L) (fun q => q ∈ L)) [.ref o0, .int p1, .int p2, .ref o3, .int p4].toArray s 0 0 (fun q => q ∈ L)) (F0 m 12 ls []) := by
    intro n
    induction n with
    | zero => intro y_81 by_81 y_82 by_82 H locs hP hS hmuhloop_80 ls hl; exfalso; omega
    | succ n ih_hloop_80 =>
      intro y_81 by_81 y_82 by_82 H locs hP hS hmuhloop_80 ls hl
      refine lv_iload hx hb dX12_holds_12 (lv_at hl 0 rfl) ?_
      refine lv_iload_n hx hb dX12_holds_14 rfl (lv_at hl 4 rfl) ?_
      refine lv_icmp_ge (tgt := 59) hx hb dX12_holds_15 (by decide) (fun c_84 => ?_) (fun c_84 => ?_)
      · skip
        rw [Int32.le_iff_toInt_le] at c_84
        refine lv_aload_n hx hb dX12_holds_59 rfl (lv_at hl 2 rfl) ?_
        refine lv_iload_n hx hb dX12_holds_60 rfl (lv_at hl 3 rfl) ?_
        refine lv_iconst (v := 0) hx hb dX12_holds_61 (by decide) ?_
        refine lv_iload hx hb dX12_holds_62 (lv_at hl 1 rfl) ?_
        refine tk_ViP (As := [.int p1, .int 0, .int y_82]) (rest := []) (n := 3) hx hb hml hown hU hN hZ (s_X12_isDone_k12 l (dC, dI) cI cL cZ cR cG cH Z kd L f hG o0 mo0 ko0 p1 (by constructor <;> omega) 0 (by decide) y_82) wd_898 wd_899 wd_900 wd_5 wd_901 (by decide +kernel) ⟨Nat.le_of_ble_eq_true rfl, Nat.le_of_ble_eq_true rfl⟩ hK hP hD hS mo0 hfo_57 12 rfl rfl rfl hl.1 rfl (Nat.le_of_ble_eq_true rfl) dX12_holds_64 ⟨Nat.le_of_ble_eq_true rfl, Nat.le_of_ble_eq_true rfl⟩ (fun x_85 f_86 H locs hw hP hD hS => ?_)
        obtain ⟨rfl, bx_85⟩ := hw
        refine lv_if_ne (tgt := 72) hx hb dX12_holds_67 (by decide) (fun c_88 => ?_) (fun c_88 => ?_)
        · skip
          rw [← Int32.toInt_inj, ti_0] at c_88
          refine lv_aload_n hx hb dX12_holds_72 rfl (lv_at hl 2 rfl) ?_
          refine lv_iload_n hx hb dX12_holds_73 rfl (lv_at hl 3 rfl) ?_
          refine lv_iconst (v := 1) hx hb dX12_holds_74 (by decide) ?_
          refine lv_iconst (v := 1) hx hb dX12_holds_75 (by decide) ?_
          refine tk_ViP (As := [.int p1, .int 1, .int 1]) (rest := []) (n := 3) hx hb hml hown hU hN hZ (s_X12_closed_k12 l (dC, dI) cI cL cZ cR cG cH Z kd L f hG o0 mo0 ko0 p1 (by constructor <;> omega) 1 (by decide) 1 (by decide)) wd_878 wd_879 wd_880 wd_5 wd_881 (by decide +kernel) ⟨Nat.le_of_ble_eq_true rfl, Nat.le_of_ble_eq_true rfl⟩ hK hP hD hS mo0 hfo_57 12 rfl rfl rfl hl.1 rfl (Nat.le_of_ble_eq_true rfl) dX12_holds_76 ⟨Nat.le_of_ble_eq_true rfl, Nat.le_of_ble_eq_true rfl⟩ (fun x_89 f_90 H locs hw hP hD hS => ?_)
          obtain ⟨rfl, bx_89⟩ := hw
          refine lv_istore (lv' := [(5, .int x_89), (6, .int y_81), (0, .ref o0), (1, .int p1), (2, .int p2), (3, .ref o3), (4, .int p4)]) hx hb dX12_holds_79 hl (by decide) rfl (fun ls hl => ?_)
          refine lv_aload_n hx hb dX12_holds_81 rfl (lv_at hl 2 rfl) ?_
          refine lv_iload_n hx hb dX12_holds_82 rfl (lv_at hl 3 rfl) ?_
          refine lv_iconst (v := 1) hx hb dX12_holds_83 (by decide) ?_
          refine tk_ViP (As := [.int p1, .int 1]) (rest := []) (n := 2) hx hb hml hown hU hN hZ (s_X12_isAnchored_k12 l (dC, dI) cI cL cZ cR cG cH Z kd L f hG o0 mo0 ko0 p1 (by constructor <;> omega) 1 (by decide)) wd_946 wd_947 wd_948 wd_5 wd_949 (by decide +kernel) ⟨Nat.le_of_ble_eq_true rfl, Nat.le_of_ble_eq_true rfl⟩ hK hP hD hS mo0 hfo_57 12 rfl rfl rfl hl.1 rfl (Nat.le_of_ble_eq_true rfl) dX12_holds_84 ⟨Nat.le_of_ble_eq_true rfl, Nat.le_of_ble_eq_true rfl⟩ (fun x_92 f_93 H locs hw hP hD hS => ?_)
          obtain ⟨rfl, bx_92⟩ := hw
          have hcut_96 : ∀ (y_95 : Int32), (0 ≤ y_95.toInt ∧ y_95.toInt ≤ 1) → ∀ (ls : Array Slot), lv_has ls 8 [(5, .int x_89), (6, .int y_81), (0, .ref o0), (1, .int p1), (2, .int p2), (3, .ref o3), (4, .int p4)] → W p l e (headSpec (wU yX12_holds cX12_holds 8 (some .boolean)) { frames := 3, cells := 0, slots := 0, locals := 76 }).room s m [.ref o0, .int p1, .int p2, .ref o3, .int p4].toArray below meth c H locs 0 0 (MQ below (va_Qi (fun (r : Int32) (f9 : Nat → va_E) => f = f9 ∧ (0 ≤ r.toInt ∧ r.toInt ≤ 1)) (qP (dC, dI) cI cL cZ cR cG cH L) (fun q => q ∈ L)) [.ref o0, .int p1, .int p2, .ref o3, .int p4].toArray s 0 0 (fun q => q ∈ L)) (F0 m 95 ls [.int y_95]) := by
            intro y_95 by_95 ls hl
            refine lv_istore (lv' := [(6, .int y_95), (5, .int x_89), (0, .ref o0), (1, .int p1), (2, .int p2), (3, .ref o3), (4, .int p4)]) hx hb dX12_holds_95 hl (by decide) rfl (fun ls hl => ?_)
            refine lv_iload_n hx hb dX12_holds_97 rfl (lv_at hl 4 rfl) ?_
            refine lv_iconst (v := 1) hx hb dX12_holds_98 (by decide) ?_
            refine lv_iadd hx hb dX12_holds_99 ?_
            refine lv_topi (fun x_97 ex_97 => ?_)
            have hx_97 : x_97.toInt = p2.toInt + 1 := by rw [ex_97, ad_I (by rw [ti_1]; omega) (by rw [ti_1]; omega), ti_1]
            have bx_97 : (1 ≤ x_97.toInt ∧ x_97.toInt ≤ 16) := by constructor <;> omega
            refine lv_istore (lv' := [(7, .int x_97), (6, .int y_95), (5, .int x_89), (0, .ref o0), (1, .int p1), (2, .int p2), (3, .ref o3), (4, .int p4)]) hx hb dX12_holds_100 hl (by decide) rfl (fun ls hl => ?_)
            have hloop_104 : ∀ (n : Nat), ∀ (y_105 : Int32), (1 ≤ y_105.toInt ∧ y_105.toInt ≤ 16) → ∀ (y_106 : Int32), (0 ≤ y_106.toInt ∧ y_106.toInt ≤ 63) → ∀ (H : Heap) (locs : List Loc), va_P (dC, dI) vwCl (va_pl L f) H → va_S (fun q => q ∈ L) s.heap H locs → 16 - y_105.toInt < (n : Int) → ∀ (ls : Array Slot), lv_has ls 8 [(7, .int y_105), (6, .int y_95), (5, .int y_106), (0, .ref o0), (1, .int p1), (2, .int p2), (3, .ref o3), (4, .int p4)] → W p l e (headSpec (wU yX12_holds cX12_holds 8 (some .boolean)) { frames := 3, cells := 0, slots := 0, locals := 76 }).room s m [.ref o0, .int p1, .int p2, .ref o3, .int p4].toArray below meth c H locs 0 0 (MQ below (va_Qi (fun (r : Int32) (f9 : Nat → va_E) => f = f9 ∧ (0 ≤ r.toInt ∧ r.toInt ≤ 1)) (qP (dC, dI) cI cL cZ cR cG cH L) (fun q => q ∈ L)) [.ref o0, .int p1, .int p2, .ref o3, .int p4].toArray s 0 0 (fun q => q ∈ L)) (F0 m 102 ls []) := by
              intro n
              induction n with
              | zero => intro y_105 by_105 y_106 by_106 H locs hP hS hmuhloop_104 ls hl; exfalso; omega
              | succ n ih_hloop_104 =>
                intro y_105 by_105 y_106 by_106 H locs hP hS hmuhloop_104 ls hl
                refine lv_iload hx hb dX12_holds_102 (lv_at hl 0 rfl) ?_
                refine lv_iload hx hb dX12_holds_104 (lv_at hl 7 rfl) ?_
                have hcut_109 : ∀ (H : Heap) (locs : List Loc), va_P (dC, dI) vwCl (va_pl L f) H → va_S (fun q => q ∈ L) s.heap H locs → ∀ (ls : Array Slot), lv_has ls 8 [(7, .int y_105), (6, .int y_95), (5, .int y_106), (0, .ref o0), (1, .int p1), (2, .int p2), (3, .ref o3), (4, .int p4)] → W p l e (headSpec (wU yX12_holds cX12_holds 8 (some .boolean)) { frames := 3, cells := 0, slots := 0, locals := 76 }).room s m [.ref o0, .int p1, .int p2, .ref o3, .int p4].toArray below meth c H locs 0 0 (MQ below (va_Qi (fun (r : Int32) (f9 : Nat → va_E) => f = f9 ∧ (0 ≤ r.toInt ∧ r.toInt ≤ 1)) (qP (dC, dI) cI cL cZ cR cG cH L) (fun q => q ∈ L)) [.ref o0, .int p1, .int p2, .ref o3, .int p4].toArray s 0 0 (fun q => q ∈ L)) (F0 m 145 ls []) := by
                  intro H locs hP hS ls hl
                  refine lv_aload_n hx hb dX12_holds_145 rfl (lv_at hl 3 rfl) ?_
                  refine lv_iload_n hx hb dX12_holds_146 rfl (lv_at hl 4 rfl) ?_
                  refine lv_iconst (v := 1) hx hb dX12_holds_147 (by decide) ?_
                  refine lv_iload hx hb dX12_holds_148 (lv_at hl 2 rfl) ?_
                  refine tk_ViP (As := [.int p1, .int 1, .int y_106]) (rest := []) (n := 3) hx hb hml hown hU hN hZ (s_X12_isDone_k12 l (dC, dI) cI cL cZ cR cG cH Z kd L f hG o0 mo0 ko0 p1 (by constructor <;> omega) 1 (by decide) y_106) wd_898 wd_899 wd_900 wd_5 wd_901 (by decide +kernel) ⟨Nat.le_of_ble_eq_true rfl, Nat.le_of_ble_eq_true rfl⟩ hK hP hD hS mo0 hfo_57 12 rfl rfl rfl hl.1 rfl (Nat.le_of_ble_eq_true rfl) dX12_holds_150 ⟨Nat.le_of_ble_eq_true rfl, Nat.le_of_ble_eq_true rfl⟩ (fun x_110 f_111 H locs hw hP hD hS => ?_)
                  obtain ⟨rfl, bx_110⟩ := hw
                  exact W.zret (v := x_110) (ty := .boolean) hx hb hr (zb_n (by constructor <;> omega)) (fun t ht hW => ⟨⟨x_110, f, rfl, ⟨rfl, (by constructor <;> omega)⟩, by rw [ht]; exact hP, va_K.moved hW.alike hK, pl_in hD⟩, hS.F ht⟩) hS.2.2 dX12_holds_153
                refine lv_icmp_ge (tgt := 145) hx hb dX12_holds_106 (by decide) (fun c_113 => ?_) (fun c_113 => ?_)
                · skip
                  rw [Int32.le_iff_toInt_le] at c_113
                  exact hcut_109 _ _ hP hS ls (lv_sub hl [0, 1, 2, 3, 4, 5, 6, 7] rfl)
                · skip
                  rw [Int32.le_iff_toInt_le] at c_113
                  refine lv_iload hx hb dX12_holds_109 (lv_at hl 1 rfl) ?_
                  refine lv_if_eq (tgt := 125) hx hb dX12_holds_111 (by decide) (fun c_114 => ?_) (fun c_114 => ?_)
                  · skip
                    rw [← Int32.toInt_inj, ti_0] at c_114
                    refine lv_aload_n hx hb dX12_holds_125 rfl (lv_at hl 3 rfl) ?_
                    refine lv_iload_n hx hb dX12_holds_126 rfl (lv_at hl 4 rfl) ?_
                    refine lv_iconst (v := 1) hx hb dX12_holds_127 (by decide) ?_
                    refine lv_iload hx hb dX12_holds_128 (lv_at hl 2 rfl) ?_
                    refine lv_aload_n hx hb dX12_holds_130 rfl (lv_at hl 6 rfl) ?_
                    refine lv_iload hx hb dX12_holds_131 (lv_at hl 0 rfl) ?_
                    obtain ⟨g_116, hfo_115, hbg_116⟩ := un_598 (hG _ mo3) ko3
                    refine tk_ildP hx hb hK hP 0 mo3 hfo_115 rfl (vp_in_iff.mpr (by constructor <;> omega)) dX12_holds_133 ?_
                    refine lv_topi (fun x_117 ex_117 => ?_)
                    have bx_117 : ((-2147483648) ≤ x_117.toInt ∧ x_117.toInt ≤ 2147483647) := ⟨i32_lo _, i32_hi _⟩
                    refine tk_ViP (As := [.int p1, .int 1, .int y_106, .int x_117]) (rest := []) (n := 4) hx hb hml hown hU hN hZ (s_X12_goesOn_k12 l (dC, dI) cI cL cZ cR cG cH Z kd L f hG o0 mo0 ko0 p1 (by constructor <;> omega) 1 (by decide) y_106 x_117) wd_942 wd_943 wd_944 wd_5 wd_945 (by decide +kernel) ⟨Nat.le_of_ble_eq_true rfl, Nat.le_of_ble_eq_true rfl⟩ hK hP hD hS mo0 hfo_57 12 rfl rfl rfl hl.1 rfl (Nat.le_of_ble_eq_true rfl) dX12_holds_134 ⟨Nat.le_of_ble_eq_true rfl, Nat.le_of_ble_eq_true rfl⟩ (fun x_118 f_119 H locs hw hP hD hS => ?_)
                    obtain ⟨rfl, bx_118⟩ := hw
                    refine lv_istore (lv' := [(5, .int x_118), (7, .int y_105), (6, .int y_95), (0, .ref o0), (1, .int p1), (2, .int p2), (3, .ref o3), (4, .int p4)]) hx hb dX12_holds_137 hl (by decide) rfl (fun ls hl => ?_)
                    obtain ⟨x_121, ex_121⟩ : ∃ y : Int32, y_105 + 1 = y := ⟨_, rfl⟩
                    have hx_121 : x_121.toInt = y_105.toInt + 1 := by rw [← ex_121, ad_I (by rw [ti_1]; omega) (by rw [ti_1]; omega), ti_1]
                    have bx_121 : (2 ≤ x_121.toInt ∧ x_121.toInt ≤ 16) := by constructor <;> omega
                    refine lv_iinc (v := x_121) (lv' := [(7, .int x_121), (5, .int x_118), (6, .int y_95), (0, .ref o0), (1, .int p1), (2, .int p2), (3, .ref o3), (4, .int p4)]) hx hb dX12_holds_139 hl (k := 1) rfl ex_121 (by decide) rfl (fun ls hl => ?_)
                    refine lv_goto (tgt := 102) hx hb dX12_holds_142 (by decide) ?_
                    exact ih_hloop_104 x_121 (by constructor <;> omega) x_118 (by constructor <;> omega) _ _ hP hS (by omega) ls (lv_sub hl [0, 2, 1, 3, 4, 5, 6, 7] rfl)
                  · skip
                    rw [← Int32.toInt_inj, ti_0] at c_114
                    refine lv_aload_n hx hb dX12_holds_114 rfl (lv_at hl 3 rfl) ?_
                    refine lv_iload_n hx hb dX12_holds_115 rfl (lv_at hl 4 rfl) ?_
                    refine lv_iconst (v := 1) hx hb dX12_holds_116 (by decide) ?_
                    refine lv_iload hx hb dX12_holds_117 (lv_at hl 2 rfl) ?_
                    refine tk_ViP (As := [.int p1, .int 1, .int y_106]) (rest := []) (n := 3) hx hb hml hown hU hN hZ (s_X12_isDone_k12 l (dC, dI) cI cL cZ cR cG cH Z kd L f hG o0 mo0 ko0 p1 (by constructor <;> omega) 1 (by decide) y_106) wd_898 wd_899 wd_900 wd_5 wd_901 (by decide +kernel) ⟨Nat.le_of_ble_eq_true rfl, Nat.le_of_ble_eq_true rfl⟩ hK hP hD hS mo0 hfo_57 12 rfl rfl rfl hl.1 rfl (Nat.le_of_ble_eq_true rfl) dX12_holds_119 ⟨Nat.le_of_ble_eq_true rfl, Nat.le_of_ble_eq_true rfl⟩ (fun x_122 f_123 H locs hw hP hD hS => ?_)
                    obtain ⟨rfl, bx_122⟩ := hw
                    refine lv_if_ne (tgt := 145) hx hb dX12_holds_122 (by decide) (fun c_125 => ?_) (fun c_125 => ?_)
                    · skip
                      rw [← Int32.toInt_inj, ti_0] at c_125
                      exact hcut_109 _ _ hP hS ls (lv_sub hl [0, 1, 2, 3, 4, 5, 6, 7] rfl)
                    · skip
                      rw [← Int32.toInt_inj, ti_0] at c_125
                      refine lv_aload_n hx hb dX12_holds_125 rfl (lv_at hl 3 rfl) ?_
                      refine lv_iload_n hx hb dX12_holds_126 rfl (lv_at hl 4 rfl) ?_
                      refine lv_iconst (v := 1) hx hb dX12_holds_127 (by decide) ?_
                      refine lv_iload hx hb dX12_holds_128 (lv_at hl 2 rfl) ?_
                      refine lv_aload_n hx hb dX12_holds_130 rfl (lv_at hl 6 rfl) ?_
                      refine lv_iload hx hb dX12_holds_131 (lv_at hl 0 rfl) ?_
                      obtain ⟨g_127, hfo_126, hbg_127⟩ := un_598 (hG _ mo3) ko3
                      refine tk_ildP hx hb hK hP 0 mo3 hfo_126 rfl (vp_in_iff.mpr (by constructor <;> omega)) dX12_holds_133 ?_
                      refine lv_topi (fun x_128 ex_128 => ?_)
                      have bx_128 : ((-2147483648) ≤ x_128.toInt ∧ x_128.toInt ≤ 2147483647) := ⟨i32_lo _, i32_hi _⟩
                      refine tk_ViP (As := [.int p1, .int 1, .int y_106, .int x_128]) (rest := []) (n := 4) hx hb hml hown hU hN hZ (s_X12_goesOn_k12 l (dC, dI) cI cL cZ cR cG cH Z kd L f hG o0 mo0 ko0 p1 (by constructor <;> omega) 1 (by decide) y_106 x_128) wd_942 wd_943 wd_944 wd_5 wd_945 (by decide +kernel) ⟨Nat.le_of_ble_eq_true rfl, Nat.le_of_ble_eq_true rfl⟩ hK hP hD hS mo0 hfo_57 12 rfl rfl rfl hl.1 rfl (Nat.le_of_ble_eq_true rfl) dX12_holds_134 ⟨Nat.le_of_ble_eq_true rfl, Nat.le_of_ble_eq_true rfl⟩ (fun x_129 f_130 H locs hw hP hD hS => ?_)
                      obtain ⟨rfl, bx_129⟩ := hw
                      refine lv_istore (lv' := [(5, .int x_129), (7, .int y_105), (6, .int y_95), (0, .ref o0), (1, .int p1), (2, .int p2), (3, .ref o3), (4, .int p4)]) hx hb dX12_holds_137 hl (by decide) rfl (fun ls hl => ?_)
                      obtain ⟨x_132, ex_132⟩ : ∃ y : Int32, y_105 + 1 = y := ⟨_, rfl⟩
                      have hx_132 : x_132.toInt = y_105.toInt + 1 := by rw [← ex_132, ad_I (by rw [ti_1]; omega) (by rw [ti_1]; omega), ti_1]
                      have bx_132 : (2 ≤ x_132.toInt ∧ x_132.toInt ≤ 16) := by constructor <;> omega
                      refine lv_iinc (v := x_132) (lv' := [(7, .int x_132), (5, .int x_129), (6, .int y_95), (0, .ref o0), (1, .int p1), (2, .int p2), (3, .ref o3), (4, .int p4)]) hx hb dX12_holds_139 hl (k := 1) rfl ex_132 (by decide) rfl (fun ls hl => ?_)
                      refine lv_goto (tgt := 102) hx hb dX12_holds_142 (by decide) ?_
                      exact ih_hloop_104 x_132 (by constructor <;> omega) x_129 (by constructor <;> omega) _ _ hP hS (by omega) ls (lv_sub hl [0, 2, 1, 3, 4, 5, 6, 7] rfl)
            exact hloop_104 16 x_97 (by constructor <;> omega) x_89 (by constructor <;> omega) _ _ hP hS (by omega) ls hl
          refine lv_if_ne (tgt := 94) hx hb dX12_holds_87 (by decide) (fun c_133 => ?_) (fun c_133 => ?_)
          · skip
            rw [← Int32.toInt_inj, ti_0] at c_133
            refine lv_iconst (v := 0) hx hb dX12_holds_94 (by decide) ?_
            exact hcut_96 0 (by decide) ls (lv_sub hl [0, 1, 2, 3, 4, 5, 6] rfl)
          · skip
            rw [← Int32.toInt_inj, ti_0] at c_133
            refine lv_iconst (v := 1) hx hb dX12_holds_90 (by decide) ?_
            refine lv_goto (tgt := 95) hx hb dX12_holds_91 (by decide) ?_
            exact hcut_96 1 (by decide) ls (lv_sub hl [0, 1, 2, 3, 4, 5, 6] rfl)
        · skip
          rw [← Int32.toInt_inj, ti_0] at c_88
          refine lv_iconst (v := 0) hx hb dX12_holds_70 (by decide) ?_
          exact W.zret (v := 0) (ty := .boolean) hx hb hr rfl (fun t ht hW => ⟨⟨0, f, rfl, ⟨rfl, (by decide)⟩, by rw [ht]; exact hP, va_K.moved hW.alike hK, pl_in hD⟩, hS.F ht⟩) hS.2.2 dX12_holds_71
      · skip
        rw [Int32.le_iff_toInt_le] at c_84
        refine lv_aload_n hx hb dX12_holds_18 rfl (lv_at hl 2 rfl) ?_
        refine lv_iload_n hx hb dX12_holds_19 rfl (lv_at hl 3 rfl) ?_
        refine lv_iconst (v := 0) hx hb dX12_holds_20 (by decide) ?_
        refine lv_iload hx hb dX12_holds_21 (lv_at hl 1 rfl) ?_
        refine lv_aload_n hx hb dX12_holds_23 rfl (lv_at hl 5 rfl) ?_
        refine lv_iload hx hb dX12_holds_24 (lv_at hl 0 rfl) ?_
        obtain ⟨g_135, hfo_134, hbg_135⟩ := un_598 (hG _ mo3) ko3
        refine tk_ildP hx hb hK hP 0 mo3 hfo_134 rfl (vp_in_iff.mpr (by constructor <;> omega)) dX12_holds_26 ?_
        refine lv_topi (fun x_136 ex_136 => ?_)
        have bx_136 : ((-2147483648) ≤ x_136.toInt ∧ x_136.toInt ≤ 2147483647) := ⟨i32_lo _, i32_hi _⟩
        refine tk_ViP (As := [.int p1, .int 0, .int y_82, .int x_136]) (rest := []) (n := 4) hx hb hml hown hU hN hZ (s_X12_goesOn_k12 l (dC, dI) cI cL cZ cR cG cH Z kd L f hG o0 mo0 ko0 p1 (by constructor <;> omega) 0 (by decide) y_82 x_136) wd_942 wd_943 wd_944 wd_5 wd_945 (by decide +kernel) ⟨Nat.le_of_ble_eq_true rfl, Nat.le_of_ble_eq_true rfl⟩ hK hP hD hS mo0 hfo_57 12 rfl rfl rfl hl.1 rfl (Nat.le_of_ble_eq_true rfl) dX12_holds_27 ⟨Nat.le_of_ble_eq_true rfl, Nat.le_of_ble_eq_true rfl⟩ (fun x_137 f_138 H locs hw hP hD hS => ?_)
        obtain ⟨rfl, bx_137⟩ := hw
        refine lv_aload_n hx hb dX12_holds_30 rfl (lv_at hl 2 rfl) ?_
        refine lv_iload_n hx hb dX12_holds_31 rfl (lv_at hl 3 rfl) ?_
        refine lv_iconst (v := 0) hx hb dX12_holds_32 (by decide) ?_
        refine tk_ViP (As := [.int p1, .int 0]) (rest := [.int x_137]) (n := 2) hx hb hml hown hU hN hZ (s_X12_isAnchored_k12 l (dC, dI) cI cL cZ cR cG cH Z kd L f hG o0 mo0 ko0 p1 (by constructor <;> omega) 0 (by decide)) wd_946 wd_947 wd_948 wd_5 wd_949 (by decide +kernel) ⟨Nat.le_of_ble_eq_true rfl, Nat.le_of_ble_eq_true rfl⟩ hK hP hD hS mo0 hfo_57 12 rfl rfl rfl hl.1 rfl (Nat.le_of_ble_eq_true rfl) dX12_holds_33 ⟨Nat.le_of_ble_eq_true rfl, Nat.le_of_ble_eq_true rfl⟩ (fun x_140 f_141 H locs hw hP hD hS => ?_)
        obtain ⟨rfl, bx_140⟩ := hw
        have hcut_145 : ∀ (y_143 : Int32), (0 ≤ y_143.toInt ∧ y_143.toInt ≤ 63) → ∀ (H : Heap) (locs : List Loc), va_P (dC, dI) vwCl (va_pl L f) H → va_S (fun q => q ∈ L) s.heap H locs → ∀ (ls : Array Slot), lv_has ls 8 [(6, .int y_81), (5, .int y_82), (0, .ref o0), (1, .int p1), (2, .int p2), (3, .ref o3), (4, .int p4)] → W p l e (headSpec (wU yX12_holds cX12_holds 8 (some .boolean)) { frames := 3, cells := 0, slots := 0, locals := 76 }).room s m [.ref o0, .int p1, .int p2, .ref o3, .int p4].toArray below meth c H locs 0 0 (MQ below (va_Qi (fun (r : Int32) (f9 : Nat → va_E) => f = f9 ∧ (0 ≤ r.toInt ∧ r.toInt ≤ 1)) (qP (dC, dI) cI cL cZ cR cG cH L) (fun q => q ∈ L)) [.ref o0, .int p1, .int p2, .ref o3, .int p4].toArray s 0 0 (fun q => q ∈ L)) (F0 m 50 ls [.int y_143, .int x_137]) := by
          intro y_143 by_143 H locs hP hS ls hl
          refine lv_ior hx hb dX12_holds_50 ?_
          refine lv_topi (fun x_146 ex_146 => ?_)
          have bx_146 : (0 ≤ x_146.toInt ∧ x_146.toInt ≤ 63) := by rw [ex_146]; exact or_K 6 (by decide) (by constructor <;> omega) (by constructor <;> omega)
          refine lv_istore (lv' := [(5, .int x_146), (6, .int y_81), (0, .ref o0), (1, .int p1), (2, .int p2), (3, .ref o3), (4, .int p4)]) hx hb dX12_holds_51 hl (by decide) rfl (fun ls hl => ?_)
          obtain ⟨x_147, ex_147⟩ : ∃ y : Int32, y_81 + 1 = y := ⟨_, rfl⟩
          have hx_147 : x_147.toInt = y_81.toInt + 1 := by rw [← ex_147, ad_I (by rw [ti_1]; omega) (by rw [ti_1]; omega), ti_1]
          have bx_147 : (1 ≤ x_147.toInt ∧ x_147.toInt ≤ 15) := by constructor <;> omega
          refine lv_iinc (v := x_147) (lv' := [(6, .int x_147), (5, .int x_146), (0, .ref o0), (1, .int p1), (2, .int p2), (3, .ref o3), (4, .int p4)]) hx hb dX12_holds_53 hl (k := 1) rfl ex_147 (by decide) rfl (fun ls hl => ?_)
          refine lv_goto (tgt := 12) hx hb dX12_holds_56 (by decide) ?_
          exact ih_hloop_80 x_147 (by constructor <;> omega) x_146 (by constructor <;> omega) _ _ hP hS (by omega) ls (lv_sub hl [0, 1, 2, 3, 4, 5, 6] rfl)
        refine lv_if_eq (tgt := 43) hx hb dX12_holds_36 (by decide) (fun c_148 => ?_) (fun c_148 => ?_)
        · skip
          rw [← Int32.toInt_inj, ti_0] at c_148
          refine lv_aload_n hx hb dX12_holds_43 rfl (lv_at hl 2 rfl) ?_
          refine lv_iload_n hx hb dX12_holds_44 rfl (lv_at hl 3 rfl) ?_
          refine lv_iconst (v := 0) hx hb dX12_holds_45 (by decide) ?_
          refine lv_iconst (v := 1) hx hb dX12_holds_46 (by decide) ?_
          refine tk_ViP (As := [.int p1, .int 0, .int 1]) (rest := [.int x_137]) (n := 3) hx hb hml hown hU hN hZ (s_X12_closed_k12 l (dC, dI) cI cL cZ cR cG cH Z kd L f hG o0 mo0 ko0 p1 (by constructor <;> omega) 0 (by decide) 1 (by decide)) wd_878 wd_879 wd_880 wd_5 wd_881 (by decide +kernel) ⟨Nat.le_of_ble_eq_true rfl, Nat.le_of_ble_eq_true rfl⟩ hK hP hD hS mo0 hfo_57 12 rfl rfl rfl hl.1 rfl (Nat.le_of_ble_eq_true rfl) dX12_holds_47 ⟨Nat.le_of_ble_eq_true rfl, Nat.le_of_ble_eq_true rfl⟩ (fun x_149 f_150 H locs hw hP hD hS => ?_)
          obtain ⟨rfl, bx_149⟩ := hw
          exact hcut_145 x_149 (by constructor <;> omega) _ _ hP hS ls (lv_sub hl [0, 1, 2, 3, 4, 5, 6] rfl)
        · skip
          rw [← Int32.toInt_inj, ti_0] at c_148
          refine lv_iconst (v := 0) hx hb dX12_holds_39 (by decide) ?_
          refine lv_goto (tgt := 50) hx hb dX12_holds_40 (by decide) ?_
          exact hcut_145 0 (by decide) _ _ hP hS ls (lv_sub hl [0, 1, 2, 3, 4, 5, 6] rfl)
  exact hloop_80 16 0 (by decide) x_59 (by constructor <;> omega) _ _ hP hS (by (try rw [ti_0]) <;> omega) ls hl
