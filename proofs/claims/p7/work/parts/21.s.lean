set_option maxHeartbeats 8000000 in
set_option maxRecDepth 100000 in
theorem s_X6_firstUntrue_k6 (l : Launch) (D : va_G) (cI cL cZ cR : ClassId) (kd : Nat → Nat) (L : List Nat) (f : Nat → va_E) (hG : GI (okc cI cL cZ cR L kd) kd L f) (o0 : Nat) (mo0 : o0 ∈ L) (ko0 : kd o0 = 6) (p1 : Int32) : mPI l D cI cL cZ cR yX6_firstUntrue cX6_firstUntrue 5 (some .int) 0 0 [.ref o0, .int p1] L f (fun (r : Int32) (f9 : Nat → va_E) => GI (okc cI cL cZ cR L kd) kd L f9 ∧ ((-1) ≤ r.toInt ∧ r.toInt ≤ 11)) := by
  obtain ⟨dC, dI⟩ := D
  refine Met.ofW (cc := cX6_firstUntrue) (maxL := 5) (ret := (some .int)) (by decide) rfl ?_
  intro p e s m args below meth c s₁ B hml hv
  obtain ⟨rfl, hP, hK, hD0, hN⟩ := hv
  have hx := B.exec
  have hb := B.bytes
  have hr := B.returns
  have hU : ∀ w ∈ wsU, w.before _ s = true := fun w h => atoms_spec (ws := wU yX6_firstUntrue cX6_firstUntrue 5 (some .int)) B.pre w (List.mem_cons_of_mem _ h)
  have hown : s.vm.findClass RX6 = some m.cls := findClass_of_methodNamed B.named
  have hlocks := B.notSynchronized
  have hD := pl_in hD0
  have hS : va_S (fun q => q ∈ L) s.heap s.heap [] := va_S.rf
  have hl := lv_entry ([.ref o0, .int p1]) (n := 5) (Nat.le_of_ble_eq_true rfl)
  rw [lg_entry_eq]
  generalize (lg_sl ([.ref o0, .int p1]) ++ List.replicate (5 - (lg_sl ([.ref o0, .int p1])).length) Slot.unset).toArray = ls at hl ⊢
  have hl : lv_has ls 5 [(0, .ref o0), (1, .int p1)] := hl
  have bp1 : ((-2147483648) ≤ p1.toInt ∧ p1.toInt ≤ 2147483647) := ⟨i32_lo _, i32_hi _⟩
  refine lv_iconst (v := 0) hx hb dX6_firstUntrue_0 (by decide) ?_
  refine lv_istore_n (lv' := [(2, .int 0), (0, .ref o0), (1, .int p1)]) hx hb dX6_firstUntrue_1 rfl hl (by decide) rfl (fun ls hl => ?_)
  have hloop_5 : ∀ (n : Nat), ∀ (y_4 : Int32), (0 ≤ y_4.toInt ∧ y_4.toInt ≤ 12) → 12 - y_4.toInt < (n : Int) → ∀ (ls : Array Slot), lv_has ls 5 [(2, .int y_4), (0, .ref o0), (1, .int p1)] → W p l e (headSpec (wU yX6_firstUntrue cX6_firstUntrue 5 (some .int)) { frames := 0, cells := 0, slots := 0, locals := 0 }).room s m [.ref o0, .int p1].toArray below meth c s.heap [] 0 0 (MQ below (va_Qi (fun (r : Int32) (f9 : Nat → va_E) => GI (okc cI cL cZ cR L kd) kd L f9 ∧ ((-1) ≤ r.toInt ∧ r.toInt ≤ 11)) (qP (dC, dI) cI cL cZ cR L) (fun q => q ∈ L)) [.ref o0, .int p1].toArray s 0 0 (fun q => q ∈ L)) (F0 m 2 ls []) := by
    intro n
    induction n with
    | zero => intro y_4 by_4 hmuhloop_5 ls hl; exfalso; omega
    | succ n ih_hloop_5 =>
      intro y_4 by_4 hmuhloop_5 ls hl
      refine lv_iload_n hx hb dX6_firstUntrue_2 rfl (lv_at hl 0 rfl) ?_
      refine lv_aload_n hx hb dX6_firstUntrue_3 rfl (lv_at hl 1 rfl) ?_
      obtain ⟨v_7, v_8, a_9, a_10, a_11, v_12, a_13, a_14, a_15, hfo_6, bv_8, ⟨ma_9, ka_9⟩, ⟨ma_10, ka_10⟩, ⟨ma_11, ka_11⟩, ⟨ma_13, ka_13⟩, ⟨ma_14, ka_14⟩, ⟨ma_15, ka_15⟩⟩ := un_6 (hG _ mo0) ko0
      have bv_7 : ((-2147483648) ≤ v_7.toInt ∧ v_7.toInt ≤ 2147483647) := ⟨i32_lo _, i32_hi _⟩
      have bv_12 : ((-2147483648) ≤ v_12.toInt ∧ v_12.toInt ≤ 2147483647) := ⟨i32_lo _, i32_hi _⟩
      refine tk_getP (D := (dC, dI)) (ci := 6) (v := .ref a_10) (C := RX6) (T := TX6) (N := 9) hx hb hU inlX6 hown hK hP mo0 hfo_6 rfl 3 (by decide) (hU _ wd_139) (fun _ h9 => h9) rfl dX6_firstUntrue_4 ?_
      obtain ⟨a_17, a_18, v_19, hfo_16, ⟨ma_17, ka_17⟩, ⟨ma_18, ka_18⟩, bv_19⟩ := un_9 (hG _ ma_10) ka_10
      refine tk_getP (D := (dC, dI)) (ci := 9) (v := .int v_19) (C := RX9) (T := TX9) (N := 3) hx hb hU inlX9 hown hK hP ma_10 hfo_16 rfl 2 (by decide) (hU _ wd_1397) (fun _ h9 => h9) rfl dX6_firstUntrue_7 ?_
      refine lv_icmp_ge (tgt := 89) hx hb dX6_firstUntrue_10 (by decide) (fun c_20 => ?_) (fun c_20 => ?_)
      · skip
        rw [Int32.le_iff_toInt_le] at c_20
        refine lv_iconst (v := (-1)) hx hb dX6_firstUntrue_89 (by decide) ?_
        exact W.iret (v := (-1)) hx hb hr (fun t ht hW => ⟨⟨(-1), f, rfl, ⟨hG, (by decide)⟩, by rw [ht]; exact hP, va_K.moved hW.alike hK, pl_in hD⟩, hS.F ht⟩) hS.2.2 dX6_firstUntrue_90
      · skip
        rw [Int32.le_iff_toInt_le] at c_20
        refine lv_iconst (v := 0) hx hb dX6_firstUntrue_13 (by decide) ?_
        refine lv_istore_n (lv' := [(3, .int 0), (2, .int y_4), (0, .ref o0), (1, .int p1)]) hx hb dX6_firstUntrue_14 rfl hl (by decide) rfl (fun ls hl => ?_)
        refine lv_iconst (v := 0) hx hb dX6_firstUntrue_15 (by decide) ?_
        refine lv_istore (lv' := [(4, .int 0), (3, .int 0), (2, .int y_4), (0, .ref o0), (1, .int p1)]) hx hb dX6_firstUntrue_16 hl (by decide) rfl (fun ls hl => ?_)
        have hloop_29 : ∀ (n : Nat), ∀ (y_27 : Int32), (0 ≤ y_27.toInt ∧ y_27.toInt ≤ 9) → ∀ (y_28 : Int32), ((-2147483648) ≤ y_28.toInt ∧ y_28.toInt ≤ 2147483647) → 9 - y_27.toInt < (n : Int) → ∀ (ls : Array Slot), lv_has ls 5 [(4, .int y_27), (3, .int y_28), (2, .int y_4), (0, .ref o0), (1, .int p1)] → W p l e (headSpec (wU yX6_firstUntrue cX6_firstUntrue 5 (some .int)) { frames := 0, cells := 0, slots := 0, locals := 0 }).room s m [.ref o0, .int p1].toArray below meth c s.heap [] 0 0 (MQ below (va_Qi (fun (r : Int32) (f9 : Nat → va_E) => GI (okc cI cL cZ cR L kd) kd L f9 ∧ ((-1) ≤ r.toInt ∧ r.toInt ≤ 11)) (qP (dC, dI) cI cL cZ cR L) (fun q => q ∈ L)) [.ref o0, .int p1].toArray s 0 0 (fun q => q ∈ L)) (F0 m 18 ls []) := by
          intro n
          induction n with
          | zero => intro y_27 by_27 y_28 by_28 hmuhloop_29 ls hl; exfalso; omega
          | succ n ih_hloop_29 =>
            intro y_27 by_27 y_28 by_28 hmuhloop_29 ls hl
            refine lv_iload hx hb dX6_firstUntrue_18 (lv_at hl 0 rfl) ?_
            refine lv_aload_n hx hb dX6_firstUntrue_20 rfl (lv_at hl 3 rfl) ?_
            refine tk_getP (D := (dC, dI)) (ci := 6) (v := .ref a_14) (C := RX6) (T := TX6) (N := 9) hx hb hU inlX6 hown hK hP mo0 hfo_6 rfl 7 (by decide) (hU _ wd_142) (fun _ h9 => h9) rfl dX6_firstUntrue_21 ?_
            refine lv_iload_n hx hb dX6_firstUntrue_24 rfl (lv_at hl 2 rfl) ?_
            obtain ⟨g_31, hfo_30, hbg_31⟩ := un_52 (hG _ ma_14) ka_14
            refine tk_ildP hx hb hK hP 0 ma_14 hfo_30 rfl (vp_in_iff.mpr (by constructor <;> omega)) dX6_firstUntrue_25 ?_
            refine lv_topi (fun x_32 ex_32 => ?_)
            have bx_32 : (0 ≤ x_32.toInt ∧ x_32.toInt ≤ 9) := by rw [ex_32]; exact hbg_31 _
            refine lv_icmp_ge (tgt := 60) hx hb dX6_firstUntrue_26 (by decide) (fun c_33 => ?_) (fun c_33 => ?_)
            · skip
              rw [Int32.le_iff_toInt_le] at c_33
              refine lv_iload_n hx hb dX6_firstUntrue_60 rfl (lv_at hl 1 rfl) ?_
              refine lv_aload_n hx hb dX6_firstUntrue_61 rfl (lv_at hl 3 rfl) ?_
              refine tk_getP (D := (dC, dI)) (ci := 6) (v := .int v_12) (C := RX6) (T := TX6) (N := 9) hx hb hU inlX6 hown hK hP mo0 hfo_6 rfl 5 (by decide) (hU _ wd_554) (fun _ h9 => h9) rfl dX6_firstUntrue_62 ?_
              refine lv_iload_n hx hb dX6_firstUntrue_65 rfl (lv_at hl 2 rfl) ?_
              refine lv_ishr hx hb dX6_firstUntrue_66 ?_
              refine lv_topi (fun x_34 ex_34 => ?_)
              have bx_34 : ((-2147483648) ≤ x_34.toInt ∧ x_34.toInt ≤ 2147483647) := ⟨i32_lo _, i32_hi _⟩
              refine lv_iconst (v := 1) hx hb dX6_firstUntrue_67 (by decide) ?_
              refine lv_iand hx hb dX6_firstUntrue_68 ?_
              refine lv_topi (fun x_35 ex_35 => ?_)
              have bx_35 : (0 ≤ x_35.toInt ∧ x_35.toInt ≤ 1) := by rw [ex_35]; have h8 := an_C x_34 (m := 1) (by decide); rw [ti_1] at h8; exact h8
              refine lv_iconst (v := 1) hx hb dX6_firstUntrue_69 (by decide) ?_
              have hcut_37 : ∀ (y_36 : Int32), (0 ≤ y_36.toInt ∧ y_36.toInt ≤ 1) → ∀ (ls : Array Slot), lv_has ls 5 [(4, .int y_27), (3, .int y_28), (2, .int y_4), (0, .ref o0), (1, .int p1)] → W p l e (headSpec (wU yX6_firstUntrue cX6_firstUntrue 5 (some .int)) { frames := 0, cells := 0, slots := 0, locals := 0 }).room s m [.ref o0, .int p1].toArray below meth c s.heap [] 0 0 (MQ below (va_Qi (fun (r : Int32) (f9 : Nat → va_E) => GI (okc cI cL cZ cR L kd) kd L f9 ∧ ((-1) ≤ r.toInt ∧ r.toInt ≤ 11)) (qP (dC, dI) cI cL cZ cR L) (fun q => q ∈ L)) [.ref o0, .int p1].toArray s 0 0 (fun q => q ∈ L)) (F0 m 78 ls [.int y_36, .int y_28]) := by
                intro y_36 by_36 ls hl
                refine lv_icmp_eq (tgt := 83) hx hb dX6_firstUntrue_78 (by decide) (fun c_38 => ?_) (fun c_38 => ?_)
                · skip
                  rw [← Int32.toInt_inj] at c_38
                  obtain ⟨x_39, ex_39⟩ : ∃ y : Int32, y_4 + 1 = y := ⟨_, rfl⟩
                  have hx_39 : x_39.toInt = y_4.toInt + 1 := by rw [← ex_39, ad_I (by rw [ti_1]; omega) (by rw [ti_1]; omega), ti_1]
                  have bx_39 : (1 ≤ x_39.toInt ∧ x_39.toInt ≤ 12) := by constructor <;> omega
                  refine lv_iinc (v := x_39) (lv' := [(2, .int x_39), (4, .int y_27), (3, .int y_28), (0, .ref o0), (1, .int p1)]) hx hb dX6_firstUntrue_83 hl (k := 2) rfl ex_39 (by decide) rfl (fun ls hl => ?_)
                  refine lv_goto (tgt := 2) hx hb dX6_firstUntrue_86 (by decide) ?_
                  exact ih_hloop_5 x_39 (by constructor <;> omega) (by omega) ls (lv_sub hl [0, 3, 4] rfl)
                · skip
                  rw [← Int32.toInt_inj] at c_38
                  refine lv_iload_n hx hb dX6_firstUntrue_81 rfl (lv_at hl 2 rfl) ?_
                  exact W.iret (v := y_4) hx hb hr (fun t ht hW => ⟨⟨y_4, f, rfl, ⟨hG, (by constructor <;> omega)⟩, by rw [ht]; exact hP, va_K.moved hW.alike hK, pl_in hD⟩, hS.F ht⟩) hS.2.2 dX6_firstUntrue_82
              refine lv_icmp_ne (tgt := 77) hx hb dX6_firstUntrue_70 (by decide) (fun c_40 => ?_) (fun c_40 => ?_)
              · skip
                rw [← Int32.toInt_inj, ti_1] at c_40
                refine lv_iconst (v := 0) hx hb dX6_firstUntrue_77 (by decide) ?_
                exact hcut_37 0 (by decide) ls (lv_sub hl [0, 1, 2, 3, 4] rfl)
              · skip
                rw [← Int32.toInt_inj, ti_1] at c_40
                refine lv_iconst (v := 1) hx hb dX6_firstUntrue_73 (by decide) ?_
                refine lv_goto (tgt := 78) hx hb dX6_firstUntrue_74 (by decide) ?_
                exact hcut_37 1 (by decide) ls (lv_sub hl [0, 1, 2, 3, 4] rfl)
            · skip
              rw [Int32.le_iff_toInt_le] at c_33
              refine lv_iload_n hx hb dX6_firstUntrue_29 rfl (lv_at hl 1 rfl) ?_
              refine lv_aload_n hx hb dX6_firstUntrue_30 rfl (lv_at hl 3 rfl) ?_
              refine tk_getP (D := (dC, dI)) (ci := 6) (v := .ref a_13) (C := RX6) (T := TX6) (N := 9) hx hb hU inlX6 hown hK hP mo0 hfo_6 rfl 6 (by decide) (hU _ wd_141) (fun _ h9 => h9) rfl dX6_firstUntrue_31 ?_
              refine lv_iload_n hx hb dX6_firstUntrue_34 rfl (lv_at hl 2 rfl) ?_
              refine lv_bipush (v := 9) hx hb dX6_firstUntrue_35 (by decide) ?_
              refine lv_imul hx hb dX6_firstUntrue_37 ?_
              refine lv_topi (fun x_41 ex_41 => ?_)
              have hx_41 : x_41.toInt = y_4.toInt * 9 := by rw [ex_41, ml_I (by rw [ti_9]; omega) (by rw [ti_9]; omega), ti_9]
              have bx_41 : (0 ≤ x_41.toInt ∧ x_41.toInt ≤ 99) := by constructor <;> omega
              refine lv_iload hx hb dX6_firstUntrue_38 (lv_at hl 0 rfl) ?_
              refine lv_iadd hx hb dX6_firstUntrue_40 ?_
              refine lv_topi (fun x_42 ex_42 => ?_)
              have hx_42 : x_42.toInt = x_41.toInt + y_27.toInt := by rw [ex_42, ad_I (by omega) (by omega)]
              have bx_42 : (0 ≤ x_42.toInt ∧ x_42.toInt ≤ 107) := by constructor <;> omega
              obtain ⟨g_44, hfo_43, hbg_44⟩ := un_51 (hG _ ma_13) ka_13
              refine tk_ildP hx hb hK hP 0 ma_13 hfo_43 rfl (vp_in_iff.mpr (by constructor <;> omega)) dX6_firstUntrue_41 ?_
              refine lv_topi (fun x_45 ex_45 => ?_)
              have bx_45 : ((-2147483648) ≤ x_45.toInt ∧ x_45.toInt ≤ 2147483647) := ⟨i32_lo _, i32_hi _⟩
              refine lv_iload_n hx hb dX6_firstUntrue_42 rfl (lv_at hl 4 rfl) ?_
              refine lv_iand hx hb dX6_firstUntrue_43 ?_
              refine lv_topi (fun x_46 ex_46 => ?_)
              have bx_46 : ((-2147483648) ≤ x_46.toInt ∧ x_46.toInt ≤ 2147483647) := ⟨i32_lo _, i32_hi _⟩
              have hcut_48 : ∀ (y_47 : Int32), (0 ≤ y_47.toInt ∧ y_47.toInt ≤ 1) → ∀ (ls : Array Slot), lv_has ls 5 [(4, .int y_27), (3, .int y_28), (2, .int y_4), (0, .ref o0), (1, .int p1)] → W p l e (headSpec (wU yX6_firstUntrue cX6_firstUntrue 5 (some .int)) { frames := 0, cells := 0, slots := 0, locals := 0 }).room s m [.ref o0, .int p1].toArray below meth c s.heap [] 0 0 (MQ below (va_Qi (fun (r : Int32) (f9 : Nat → va_E) => GI (okc cI cL cZ cR L kd) kd L f9 ∧ ((-1) ≤ r.toInt ∧ r.toInt ≤ 11)) (qP (dC, dI) cI cL cZ cR L) (fun q => q ∈ L)) [.ref o0, .int p1].toArray s 0 0 (fun q => q ∈ L)) (F0 m 52 ls [.int y_47, .int y_28]) := by
                intro y_47 by_47 ls hl
                refine lv_ior hx hb dX6_firstUntrue_52 ?_
                refine lv_topi (fun x_49 ex_49 => ?_)
                have bx_49 : ((-2147483648) ≤ x_49.toInt ∧ x_49.toInt ≤ 2147483647) := ⟨i32_lo _, i32_hi _⟩
                refine lv_istore_n (lv' := [(3, .int x_49), (4, .int y_27), (2, .int y_4), (0, .ref o0), (1, .int p1)]) hx hb dX6_firstUntrue_53 rfl hl (by decide) rfl (fun ls hl => ?_)
                obtain ⟨x_50, ex_50⟩ : ∃ y : Int32, y_27 + 1 = y := ⟨_, rfl⟩
                have hx_50 : x_50.toInt = y_27.toInt + 1 := by rw [← ex_50, ad_I (by rw [ti_1]; omega) (by rw [ti_1]; omega), ti_1]
                have bx_50 : (1 ≤ x_50.toInt ∧ x_50.toInt ≤ 9) := by constructor <;> omega
                refine lv_iinc (v := x_50) (lv' := [(4, .int x_50), (3, .int x_49), (2, .int y_4), (0, .ref o0), (1, .int p1)]) hx hb dX6_firstUntrue_54 hl (k := 1) rfl ex_50 (by decide) rfl (fun ls hl => ?_)
                refine lv_goto (tgt := 18) hx hb dX6_firstUntrue_57 (by decide) ?_
                exact ih_hloop_29 x_50 (by constructor <;> omega) x_49 (by constructor <;> omega) (by omega) ls (lv_sub hl [0, 1, 2, 3, 4] rfl)
              refine lv_if_ne (tgt := 51) hx hb dX6_firstUntrue_44 (by decide) (fun c_51 => ?_) (fun c_51 => ?_)
              · skip
                rw [← Int32.toInt_inj, ti_0] at c_51
                refine lv_iconst (v := 0) hx hb dX6_firstUntrue_51 (by decide) ?_
                exact hcut_48 0 (by decide) ls (lv_sub hl [0, 1, 2, 3, 4] rfl)
              · skip
                rw [← Int32.toInt_inj, ti_0] at c_51
                refine lv_iconst (v := 1) hx hb dX6_firstUntrue_47 (by decide) ?_
                refine lv_goto (tgt := 52) hx hb dX6_firstUntrue_48 (by decide) ?_
                exact hcut_48 1 (by decide) ls (lv_sub hl [0, 1, 2, 3, 4] rfl)
        exact hloop_29 10 0 (by decide) 0 (by decide) (by (try simp only [ti_0]); omega) ls hl
  exact hloop_5 13 0 (by decide) (by (try simp only [ti_0]); omega) ls hl
set_option maxHeartbeats 8000000 in
set_option maxRecDepth 100000 in
theorem s_X6_leastTrue_k6 (l : Launch) (D : va_G) (cI cL cZ cR : ClassId) (kd : Nat → Nat) (L : List Nat) (f : Nat → va_E) (hG : GI (okc cI cL cZ cR L kd) kd L f) (o0 : Nat) (mo0 : o0 ∈ L) (ko0 : kd o0 = 6) (p1 : Int32) (bp1 : (0 ≤ p1.toInt ∧ p1.toInt ≤ 8)) : mPI l D cI cL cZ cR yX6_leastTrue cX6_leastTrue 5 (some .int) 1 24 [.ref o0, .int p1] L f (fun (r : Int32) (f9 : Nat → va_E) => GI (okc cI cL cZ cR L kd) kd L f9 ∧ ((-1) ≤ r.toInt ∧ r.toInt ≤ 255)) := by
  obtain ⟨dC, dI⟩ := D
  refine Met.ofW (cc := cX6_leastTrue) (maxL := 5) (ret := (some .int)) (by decide) rfl ?_
  intro p e s m args below meth c s₁ B hml hv
  obtain ⟨rfl, hP, hK, hD0, hN⟩ := hv
  have hx := B.exec
  have hb := B.bytes
  have hr := B.returns
  have hU : ∀ w ∈ wsU, w.before _ s = true := fun w h => atoms_spec (ws := wU yX6_leastTrue cX6_leastTrue 5 (some .int)) B.pre w (List.mem_cons_of_mem _ h)
  have hown : s.vm.findClass RX6 = some m.cls := findClass_of_methodNamed B.named
  have hlocks := B.notSynchronized
  have hD := pl_in hD0
  have hS : va_S (fun q => q ∈ L) s.heap s.heap [] := va_S.rf
  have hl := lv_entry ([.ref o0, .int p1]) (n := 5) (Nat.le_of_ble_eq_true rfl)
  rw [lg_entry_eq]
  generalize (lg_sl ([.ref o0, .int p1]) ++ List.replicate (5 - (lg_sl ([.ref o0, .int p1])).length) Slot.unset).toArray = ls at hl ⊢
  have hl : lv_has ls 5 [(0, .ref o0), (1, .int p1)] := hl
  refine lv_iconst (v := (-1)) hx hb dX6_leastTrue_0 (by decide) ?_
  refine lv_istore_n (lv' := [(2, .int (-1)), (0, .ref o0), (1, .int p1)]) hx hb dX6_leastTrue_1 rfl hl (by decide) rfl (fun ls hl => ?_)
  refine lv_bipush (v := 9) hx hb dX6_leastTrue_2 (by decide) ?_
  refine lv_istore_n (lv' := [(3, .int 9), (2, .int (-1)), (0, .ref o0), (1, .int p1)]) hx hb dX6_leastTrue_4 rfl hl (by decide) rfl (fun ls hl => ?_)
  refine lv_iconst (v := 0) hx hb dX6_leastTrue_5 (by decide) ?_
  refine lv_istore (lv' := [(4, .int 0), (3, .int 9), (2, .int (-1)), (0, .ref o0), (1, .int p1)]) hx hb dX6_leastTrue_6 hl (by decide) rfl (fun ls hl => ?_)
  have hloop_17 : ∀ (n : Nat), ∀ (y_13 : Int32), (0 ≤ y_13.toInt ∧ y_13.toInt ≤ 256) → ∀ (y_14 : Int32), ((-2147483648) ≤ y_14.toInt ∧ y_14.toInt ≤ 2147483647) → ∀ (y_15 : Int32), ((-1) ≤ y_15.toInt ∧ y_15.toInt ≤ 255) → ∀ (f_16 : Nat → va_E), GI (okc cI cL cZ cR L kd) kd L f_16 → ∀ (H : Heap) (locs : List Loc), va_P (dC, dI) vwCl (va_pl L f_16) H → va_D (fun q => q ∈ L) (va_pl L f_16) → va_S (fun q => q ∈ L) s.heap H locs → 256 - y_13.toInt < (n : Int) → ∀ (ls : Array Slot), lv_has ls 5 [(4, .int y_13), (3, .int y_14), (2, .int y_15), (0, .ref o0), (1, .int p1)] → W p l e (headSpec (wU yX6_leastTrue cX6_leastTrue 5 (some .int)) { frames := 1, cells := 0, slots := 0, locals := 24 }).room s m [.ref o0, .int p1].toArray below meth c H locs 0 0 (MQ below (va_Qi (fun (r : Int32) (f9 : Nat → va_E) => GI (okc cI cL cZ cR L kd) kd L f9 ∧ ((-1) ≤ r.toInt ∧ r.toInt ≤ 255)) (qP (dC, dI) cI cL cZ cR L) (fun q => q ∈ L)) [.ref o0, .int p1].toArray s 0 0 (fun q => q ∈ L)) (F0 m 8 ls []) := by
    intro n
    induction n with
    | zero => intro y_13 by_13 y_14 by_14 y_15 by_15 f_16 hG H locs hP hD hS hmuhloop_17 ls hl; exfalso; omega
    | succ n ih_hloop_17 =>
      intro y_13 by_13 y_14 by_14 y_15 by_15 f_16 hG H locs hP hD hS hmuhloop_17 ls hl
      refine lv_iload hx hb dX6_leastTrue_8 (lv_at hl 0 rfl) ?_
      refine lv_iconst (v := 1) hx hb dX6_leastTrue_10 (by decide) ?_
      refine lv_iload_n hx hb dX6_leastTrue_11 rfl (lv_at hl 4 rfl) ?_
      refine lv_ishl hx hb dX6_leastTrue_12 ?_
      refine lv_topi (fun x_18 ex_18 => ?_)
      have bx_18 : (1 ≤ x_18.toInt ∧ x_18.toInt ≤ 256) := by rw [ex_18]; exact sh_8 (by constructor <;> omega)
      refine lv_icmp_ge (tgt := 50) hx hb dX6_leastTrue_13 (by decide) (fun c_19 => ?_) (fun c_19 => ?_)
      · skip
        rw [Int32.le_iff_toInt_le] at c_19
        refine lv_iload_n hx hb dX6_leastTrue_50 rfl (lv_at hl 2 rfl) ?_
        exact W.iret (v := y_15) hx hb hr (fun t ht hW => ⟨⟨y_15, f_16, rfl, ⟨hG, (by constructor <;> omega)⟩, by rw [ht]; exact hP, va_K.moved hW.alike hK, pl_in hD⟩, hS.F ht⟩) hS.2.2 dX6_leastTrue_51
      · skip
        rw [Int32.le_iff_toInt_le] at c_19
        refine lv_iload hx hb dX6_leastTrue_16 (lv_at hl 0 rfl) ?_
        refine tk_SiP (As := [.int y_13]) (rest := []) (n := 1) hx hb hml hown hU hN (s_J6_bitCount_0f7a4 l (dC, dI) cI cL cZ cR kd L f_16 hG y_13) wd_1440 wd_1184 wd_1185 wd_1186 (by decide +kernel) ⟨Nat.le_of_ble_eq_true rfl, Nat.le_of_ble_eq_true rfl⟩ hK hP hD hS rfl hl.1 rfl (Nat.le_of_ble_eq_true rfl) dX6_leastTrue_18 ⟨Nat.le_of_ble_eq_true rfl, Nat.le_of_ble_eq_true rfl⟩ (fun x_20 f_21 H locs hw hP hD hS => ?_)
        obtain ⟨hG, bx_20⟩ := hw
        refine lv_iload_n hx hb dX6_leastTrue_21 rfl (lv_at hl 1 rfl) ?_
        have hcut_25 : ∀ (y_22 : Int32), ((-2147483648) ≤ y_22.toInt ∧ y_22.toInt ≤ 2147483647) → ∀ (y_23 : Int32), ((-1) ≤ y_23.toInt ∧ y_23.toInt ≤ 255) → ∀ (f_24 : Nat → va_E), GI (okc cI cL cZ cR L kd) kd L f_24 → ∀ (H : Heap) (locs : List Loc), va_P (dC, dI) vwCl (va_pl L f_24) H → va_D (fun q => q ∈ L) (va_pl L f_24) → va_S (fun q => q ∈ L) s.heap H locs → ∀ (ls : Array Slot), lv_has ls 5 [(4, .int y_13), (3, .int y_22), (2, .int y_23), (0, .ref o0), (1, .int p1)] → W p l e (headSpec (wU yX6_leastTrue cX6_leastTrue 5 (some .int)) { frames := 1, cells := 0, slots := 0, locals := 24 }).room s m [.ref o0, .int p1].toArray below meth c H locs 0 0 (MQ below (va_Qi (fun (r : Int32) (f9 : Nat → va_E) => GI (okc cI cL cZ cR L kd) kd L f9 ∧ ((-1) ≤ r.toInt ∧ r.toInt ≤ 255)) (qP (dC, dI) cI cL cZ cR L) (fun q => q ∈ L)) [.ref o0, .int p1].toArray s 0 0 (fun q => q ∈ L)) (F0 m 44 ls []) := by
          intro y_22 by_22 y_23 by_23 f_24 hG H locs hP hD hS ls hl
          obtain ⟨x_26, ex_26⟩ : ∃ y : Int32, y_13 + 1 = y := ⟨_, rfl⟩
          have hx_26 : x_26.toInt = y_13.toInt + 1 := by rw [← ex_26, ad_I (by rw [ti_1]; omega) (by rw [ti_1]; omega), ti_1]
          have bx_26 : (1 ≤ x_26.toInt ∧ x_26.toInt ≤ 256) := by constructor <;> omega
          refine lv_iinc (v := x_26) (lv' := [(4, .int x_26), (3, .int y_22), (2, .int y_23), (0, .ref o0), (1, .int p1)]) hx hb dX6_leastTrue_44 hl (k := 0) rfl ex_26 (by decide) rfl (fun ls hl => ?_)
          refine lv_goto (tgt := 8) hx hb dX6_leastTrue_47 (by decide) ?_
          exact ih_hloop_17 x_26 (by constructor <;> omega) y_22 (by constructor <;> omega) y_23 (by constructor <;> omega) f_24 hG _ _ hP hD hS (by omega) ls (lv_sub hl [0, 1, 2, 3, 4] rfl)
        refine lv_icmp_ge (tgt := 44) hx hb dX6_leastTrue_22 (by decide) (fun c_27 => ?_) (fun c_27 => ?_)
        · skip
          rw [Int32.le_iff_toInt_le] at c_27
          exact hcut_25 y_14 (by constructor <;> omega) y_15 (by constructor <;> omega) f_21 hG _ _ hP hD hS ls (lv_sub hl [0, 1, 2, 3, 4] rfl)
        · skip
          rw [Int32.le_iff_toInt_le] at c_27
          refine lv_aload_n hx hb dX6_leastTrue_25 rfl (lv_at hl 3 rfl) ?_
          refine lv_iload hx hb dX6_leastTrue_26 (lv_at hl 0 rfl) ?_
          obtain ⟨v_29, v_30, a_31, a_32, a_33, v_34, a_35, a_36, a_37, hfo_28, bv_30, ⟨ma_31, ka_31⟩, ⟨ma_32, ka_32⟩, ⟨ma_33, ka_33⟩, ⟨ma_35, ka_35⟩, ⟨ma_36, ka_36⟩, ⟨ma_37, ka_37⟩⟩ := un_6 (hG _ mo0) ko0
          have bv_29 : ((-2147483648) ≤ v_29.toInt ∧ v_29.toInt ≤ 2147483647) := ⟨i32_lo _, i32_hi _⟩
          have bv_34 : ((-2147483648) ≤ v_34.toInt ∧ v_34.toInt ≤ 2147483647) := ⟨i32_lo _, i32_hi _⟩
          refine tk_ViP (As := [.int y_13]) (rest := []) (n := 1) hx hb hml hown hU hN (s_X6_firstUntrue_k6 l (dC, dI) cI cL cZ cR kd L f_21 hG o0 mo0 ko0 y_13) wd_1441 wd_1417 wd_1418 wd_24 wd_1419 (by decide +kernel) ⟨Nat.le_of_ble_eq_true rfl, Nat.le_of_ble_eq_true rfl⟩ hK hP hD hS mo0 hfo_28 6 rfl rfl rfl hl.1 rfl (Nat.le_of_ble_eq_true rfl) dX6_leastTrue_28 ⟨Nat.le_of_ble_eq_true rfl, Nat.le_of_ble_eq_true rfl⟩ (fun x_38 f_39 H locs hw hP hD hS => ?_)
          obtain ⟨hG, bx_38⟩ := hw
          refine lv_iconst (v := (-1)) hx hb dX6_leastTrue_31 (by decide) ?_
          refine lv_icmp_ne (tgt := 44) hx hb dX6_leastTrue_32 (by decide) (fun c_40 => ?_) (fun c_40 => ?_)
          · skip
            rw [← Int32.toInt_inj, ti_m1] at c_40
            exact hcut_25 y_14 (by constructor <;> omega) y_15 (by constructor <;> omega) f_39 hG _ _ hP hD hS ls (lv_sub hl [0, 1, 2, 3, 4] rfl)
          · skip
            rw [← Int32.toInt_inj, ti_m1] at c_40
            refine lv_iload hx hb dX6_leastTrue_35 (lv_at hl 0 rfl) ?_
            refine lv_istore_n (lv' := [(2, .int y_13), (4, .int y_13), (3, .int y_14), (0, .ref o0), (1, .int p1)]) hx hb dX6_leastTrue_37 rfl hl (by decide) rfl (fun ls hl => ?_)
            refine lv_iload hx hb dX6_leastTrue_38 (lv_at hl 1 rfl) ?_
            refine tk_SiP (As := [.int y_13]) (rest := []) (n := 1) hx hb hml hown hU hN (s_J6_bitCount_0f7a4 l (dC, dI) cI cL cZ cR kd L f_39 hG y_13) wd_1440 wd_1184 wd_1185 wd_1186 (by decide +kernel) ⟨Nat.le_of_ble_eq_true rfl, Nat.le_of_ble_eq_true rfl⟩ hK hP hD hS rfl hl.1 rfl (Nat.le_of_ble_eq_true rfl) dX6_leastTrue_40 ⟨Nat.le_of_ble_eq_true rfl, Nat.le_of_ble_eq_true rfl⟩ (fun x_41 f_42 H locs hw hP hD hS => ?_)
            obtain ⟨hG, bx_41⟩ := hw
            refine lv_istore_n (lv' := [(3, .int x_41), (2, .int y_13), (4, .int y_13), (0, .ref o0), (1, .int p1)]) hx hb dX6_leastTrue_43 rfl hl (by decide) rfl (fun ls hl => ?_)
            exact hcut_25 x_41 (by constructor <;> omega) y_13 (by constructor <;> omega) f_42 hG _ _ hP hD hS ls (lv_sub hl [2, 0, 1, 3, 4] rfl)
  exact hloop_17 257 0 (by decide) 9 (by decide) (-1) (by decide) f hG _ _ hP hD hS (by (try simp only [ti_0, ti_9, ti_m1]); omega) ls hl
set_option maxHeartbeats 8000000 in
set_option maxRecDepth 100000 in
theorem s_X3_hasSign_k3 (l : Launch) (D : va_G) (cI cL cZ cR : ClassId) (kd : Nat → Nat) (L : List Nat) (f : Nat → va_E) (hG : GI (okc cI cL cZ cR L kd) kd L f) (o0 : Nat) (mo0 : o0 ∈ L) (ko0 : kd o0 = 3) (p1 : Int32) : mPI l D cI cL cZ cR yX3_hasSign cX3_hasSign 4 (some .boolean) 0 0 [.ref o0, .int p1] L f (fun (r : Int32) (f9 : Nat → va_E) => GI (okc cI cL cZ cR L kd) kd L f9 ∧ (0 ≤ r.toInt ∧ r.toInt ≤ 1)) := by
  obtain ⟨dC, dI⟩ := D
  refine Met.ofW (cc := cX3_hasSign) (maxL := 4) (ret := (some .boolean)) (by decide) rfl ?_
  intro p e s m args below meth c s₁ B hml hv
  obtain ⟨rfl, hP, hK, hD0, hN⟩ := hv
  have hx := B.exec
  have hb := B.bytes
  have hr := B.returns
  have hU : ∀ w ∈ wsU, w.before _ s = true := fun w h => atoms_spec (ws := wU yX3_hasSign cX3_hasSign 4 (some .boolean)) B.pre w (List.mem_cons_of_mem _ h)
  have hown : s.vm.findClass RX3 = some m.cls := findClass_of_methodNamed B.named
  have hlocks := B.notSynchronized
  have hD := pl_in hD0
  have hS : va_S (fun q => q ∈ L) s.heap s.heap [] := va_S.rf
  have hl := lv_entry ([.ref o0, .int p1]) (n := 4) (Nat.le_of_ble_eq_true rfl)
  rw [lg_entry_eq]
  generalize (lg_sl ([.ref o0, .int p1]) ++ List.replicate (4 - (lg_sl ([.ref o0, .int p1])).length) Slot.unset).toArray = ls at hl ⊢
  have hl : lv_has ls 4 [(0, .ref o0), (1, .int p1)] := hl
  have bp1 : ((-2147483648) ≤ p1.toInt ∧ p1.toInt ≤ 2147483647) := ⟨i32_lo _, i32_hi _⟩
  refine lv_iload_n hx hb dX3_hasSign_0 rfl (lv_at hl 1 rfl) ?_
  have hcut_2 : ∀ (y_1 : Int32), (0 ≤ y_1.toInt ∧ y_1.toInt ≤ 1) → ∀ (ls : Array Slot), lv_has ls 4 [(0, .ref o0), (1, .int p1)] → W p l e (headSpec (wU yX3_hasSign cX3_hasSign 4 (some .boolean)) { frames := 0, cells := 0, slots := 0, locals := 0 }).room s m [.ref o0, .int p1].toArray below meth c s.heap [] 0 0 (MQ below (va_Qi (fun (r : Int32) (f9 : Nat → va_E) => GI (okc cI cL cZ cR L kd) kd L f9 ∧ (0 ≤ r.toInt ∧ r.toInt ≤ 1)) (qP (dC, dI) cI cL cZ cR L) (fun q => q ∈ L)) [.ref o0, .int p1].toArray s 0 0 (fun q => q ∈ L)) (F0 m 9 ls [.int y_1]) := by
    intro y_1 by_1 ls hl
    refine lv_istore_n (lv' := [(2, .int y_1), (0, .ref o0), (1, .int p1)]) hx hb dX3_hasSign_9 rfl hl (by decide) rfl (fun ls hl => ?_)
    refine lv_iconst (v := 0) hx hb dX3_hasSign_10 (by decide) ?_
    refine lv_istore_n (lv' := [(3, .int 0), (2, .int y_1), (0, .ref o0), (1, .int p1)]) hx hb dX3_hasSign_11 rfl hl (by decide) rfl (fun ls hl => ?_)
    have hloop_11 : ∀ (n : Nat), ∀ (y_9 : Int32), (0 ≤ y_9.toInt ∧ y_9.toInt ≤ 8) → ∀ (y_10 : Int32), (0 ≤ y_10.toInt ∧ y_10.toInt ≤ 1) → 8 - y_9.toInt < (n : Int) → ∀ (ls : Array Slot), lv_has ls 4 [(3, .int y_9), (2, .int y_10), (0, .ref o0), (1, .int p1)] → W p l e (headSpec (wU yX3_hasSign cX3_hasSign 4 (some .boolean)) { frames := 0, cells := 0, slots := 0, locals := 0 }).room s m [.ref o0, .int p1].toArray below meth c s.heap [] 0 0 (MQ below (va_Qi (fun (r : Int32) (f9 : Nat → va_E) => GI (okc cI cL cZ cR L kd) kd L f9 ∧ (0 ≤ r.toInt ∧ r.toInt ≤ 1)) (qP (dC, dI) cI cL cZ cR L) (fun q => q ∈ L)) [.ref o0, .int p1].toArray s 0 0 (fun q => q ∈ L)) (F0 m 12 ls []) := by
      intro n
      induction n with
      | zero => intro y_9 by_9 y_10 by_10 hmuhloop_11 ls hl; exfalso; omega
      | succ n ih_hloop_11 =>
        intro y_9 by_9 y_10 by_10 hmuhloop_11 ls hl
        refine lv_iload_n hx hb dX3_hasSign_12 rfl (lv_at hl 0 rfl) ?_
        refine lv_aload_n hx hb dX3_hasSign_13 rfl (lv_at hl 2 rfl) ?_
        obtain ⟨a_13, a_14, a_15, a_16, a_17, v_18, v_19, v_20, v_21, v_22, v_23, v_24, a_25, a_26, a_27, v_28, a_29, a_30, hfo_12, ⟨ma_13, ka_13⟩, ⟨ma_14, ka_14⟩, ⟨ma_15, ka_15⟩, ⟨ma_16, ka_16⟩, ⟨ma_17, ka_17⟩, bv_18, bv_19, bv_20, ⟨ma_25, ka_25⟩, ⟨ma_26, ka_26⟩, ⟨ma_27, ka_27⟩, bv_28, ⟨ma_29, ka_29⟩, ⟨ma_30, ka_30⟩⟩ := un_3 (hG _ mo0) ko0
        have bv_21 : ((-2147483648) ≤ v_21.toInt ∧ v_21.toInt ≤ 2147483647) := ⟨i32_lo _, i32_hi _⟩
        have bv_22 : ((-2147483648) ≤ v_22.toInt ∧ v_22.toInt ≤ 2147483647) := ⟨i32_lo _, i32_hi _⟩
        have bv_23 : ((-2147483648) ≤ v_23.toInt ∧ v_23.toInt ≤ 2147483647) := ⟨i32_lo _, i32_hi _⟩
        have bv_24 : ((-2147483648) ≤ v_24.toInt ∧ v_24.toInt ≤ 2147483647) := ⟨i32_lo _, i32_hi _⟩
        refine tk_getP (D := (dC, dI)) (ci := 3) (v := .int v_18) (C := RX3) (T := TX3) (N := 18) hx hb hU inlX3 hown hK hP mo0 hfo_12 rfl 5 (by decide) (hU _ wd_726) (fun _ h9 => h9) rfl dX3_hasSign_14 ?_
        refine lv_icmp_ge (tgt := 44) hx hb dX3_hasSign_17 (by decide) (fun c_31 => ?_) (fun c_31 => ?_)
        · skip
          rw [Int32.le_iff_toInt_le] at c_31
          refine lv_iload_n hx hb dX3_hasSign_44 rfl (lv_at hl 1 rfl) ?_
          exact W.zret (v := y_10) (ty := .boolean) hx hb hr (zb_n (by constructor <;> omega)) (fun t ht hW => ⟨⟨y_10, f, rfl, ⟨hG, (by constructor <;> omega)⟩, by rw [ht]; exact hP, va_K.moved hW.alike hK, pl_in hD⟩, hS.F ht⟩) hS.2.2 dX3_hasSign_45
        · skip
          rw [Int32.le_iff_toInt_le] at c_31
          refine lv_iload_n hx hb dX3_hasSign_20 rfl (lv_at hl 1 rfl) ?_
          refine lv_aload_n hx hb dX3_hasSign_21 rfl (lv_at hl 2 rfl) ?_
          refine tk_getP (D := (dC, dI)) (ci := 3) (v := .ref a_17) (C := RX3) (T := TX3) (N := 18) hx hb hU inlX3 hown hK hP mo0 hfo_12 rfl 4 (by decide) (hU _ wd_61) (fun _ h9 => h9) rfl dX3_hasSign_22 ?_
          refine lv_iload_n hx hb dX3_hasSign_25 rfl (lv_at hl 0 rfl) ?_
          obtain ⟨g_33, hfo_32, hbg_33⟩ := un_27 (hG _ ma_17) ka_17
          refine tk_ildP hx hb hK hP 0 ma_17 hfo_32 rfl (vp_in_iff.mpr (by constructor <;> omega)) dX3_hasSign_26 ?_
          refine lv_topi (fun x_34 ex_34 => ?_)
          have bx_34 : (0 ≤ x_34.toInt ∧ x_34.toInt ≤ 8) := by rw [ex_34]; exact hbg_33 _
          refine lv_iload_n hx hb dX3_hasSign_27 rfl (lv_at hl 3 rfl) ?_
          have hcut_36 : ∀ (y_35 : Int32), (0 ≤ y_35.toInt ∧ y_35.toInt ≤ 1) → ∀ (ls : Array Slot), lv_has ls 4 [(3, .int y_9), (2, .int y_10), (0, .ref o0), (1, .int p1)] → W p l e (headSpec (wU yX3_hasSign cX3_hasSign 4 (some .boolean)) { frames := 0, cells := 0, slots := 0, locals := 0 }).room s m [.ref o0, .int p1].toArray below meth c s.heap [] 0 0 (MQ below (va_Qi (fun (r : Int32) (f9 : Nat → va_E) => GI (okc cI cL cZ cR L kd) kd L f9 ∧ (0 ≤ r.toInt ∧ r.toInt ≤ 1)) (qP (dC, dI) cI cL cZ cR L) (fun q => q ∈ L)) [.ref o0, .int p1].toArray s 0 0 (fun q => q ∈ L)) (F0 m 36 ls [.int y_35, .int y_10]) := by
            intro y_35 by_35 ls hl
            refine lv_ior hx hb dX3_hasSign_36 ?_
            refine lv_topi (fun x_37 ex_37 => ?_)
            have bx_37 : (0 ≤ x_37.toInt ∧ x_37.toInt ≤ 1) := by rw [ex_37]; exact or_K 1 (by decide) (by constructor <;> omega) (by constructor <;> omega)
            refine lv_istore_n (lv' := [(2, .int x_37), (3, .int y_9), (0, .ref o0), (1, .int p1)]) hx hb dX3_hasSign_37 rfl hl (by decide) rfl (fun ls hl => ?_)
            obtain ⟨x_38, ex_38⟩ : ∃ y : Int32, y_9 + 1 = y := ⟨_, rfl⟩
            have hx_38 : x_38.toInt = y_9.toInt + 1 := by rw [← ex_38, ad_I (by rw [ti_1]; omega) (by rw [ti_1]; omega), ti_1]
            have bx_38 : (1 ≤ x_38.toInt ∧ x_38.toInt ≤ 8) := by constructor <;> omega
            refine lv_iinc (v := x_38) (lv' := [(3, .int x_38), (2, .int x_37), (0, .ref o0), (1, .int p1)]) hx hb dX3_hasSign_38 hl (k := 1) rfl ex_38 (by decide) rfl (fun ls hl => ?_)
            refine lv_goto (tgt := 12) hx hb dX3_hasSign_41 (by decide) ?_
            exact ih_hloop_11 x_38 (by constructor <;> omega) x_37 (by constructor <;> omega) (by omega) ls (lv_sub hl [0, 1, 2, 3] rfl)
          refine lv_icmp_ne (tgt := 35) hx hb dX3_hasSign_28 (by decide) (fun c_39 => ?_) (fun c_39 => ?_)
          · skip
            rw [← Int32.toInt_inj] at c_39
            refine lv_iconst (v := 0) hx hb dX3_hasSign_35 (by decide) ?_
            exact hcut_36 0 (by decide) ls (lv_sub hl [0, 1, 2, 3] rfl)
          · skip
            rw [← Int32.toInt_inj] at c_39
            refine lv_iconst (v := 1) hx hb dX3_hasSign_31 (by decide) ?_
            refine lv_goto (tgt := 36) hx hb dX3_hasSign_32 (by decide) ?_
            exact hcut_36 1 (by decide) ls (lv_sub hl [0, 1, 2, 3] rfl)
    exact hloop_11 9 0 (by decide) y_1 (by constructor <;> omega) (by (try simp only [ti_0]); omega) ls hl
  refine lv_if_ne (tgt := 8) hx hb dX3_hasSign_1 (by decide) (fun c_40 => ?_) (fun c_40 => ?_)
  · skip
    rw [← Int32.toInt_inj, ti_0] at c_40
    refine lv_iconst (v := 0) hx hb dX3_hasSign_8 (by decide) ?_
    exact hcut_2 0 (by decide) ls (lv_sub hl [0, 1] rfl)
  · skip
    rw [← Int32.toInt_inj, ti_0] at c_40
    refine lv_iconst (v := 1) hx hb dX3_hasSign_4 (by decide) ?_
    refine lv_goto (tgt := 9) hx hb dX3_hasSign_5 (by decide) ?_
    exact hcut_2 1 (by decide) ls (lv_sub hl [0, 1] rfl)
set_option maxHeartbeats 8000000 in
set_option maxRecDepth 100000 in
theorem s_X3_breakable_k3 (l : Launch) (D : va_G) (cI cL cZ cR : ClassId) (kd : Nat → Nat) (L : List Nat) (f : Nat → va_E) (hG : GI (okc cI cL cZ cR L kd) kd L f) (o0 : Nat) (mo0 : o0 ∈ L) (ko0 : kd o0 = 3) (p1 : Int32) : mPI l D cI cL cZ cR yX3_breakable cX3_breakable 4 (some .int) 1 23 [.ref o0, .int p1] L f (fun (r : Int32) (f9 : Nat → va_E) => GI (okc cI cL cZ cR L kd) kd L f9 ∧ (0 ≤ r.toInt ∧ r.toInt ≤ 255)) := by
  obtain ⟨dC, dI⟩ := D
  refine Met.ofW (cc := cX3_breakable) (maxL := 4) (ret := (some .int)) (by decide) rfl ?_
  intro p e s m args below meth c s₁ B hml hv
  obtain ⟨rfl, hP, hK, hD0, hN⟩ := hv
  have hx := B.exec
  have hb := B.bytes
  have hr := B.returns
  have hU : ∀ w ∈ wsU, w.before _ s = true := fun w h => atoms_spec (ws := wU yX3_breakable cX3_breakable 4 (some .int)) B.pre w (List.mem_cons_of_mem _ h)
  have hown : s.vm.findClass RX3 = some m.cls := findClass_of_methodNamed B.named
  have hlocks := B.notSynchronized
  have hD := pl_in hD0
  have hS : va_S (fun q => q ∈ L) s.heap s.heap [] := va_S.rf
  have hl := lv_entry ([.ref o0, .int p1]) (n := 4) (Nat.le_of_ble_eq_true rfl)
  rw [lg_entry_eq]
  generalize (lg_sl ([.ref o0, .int p1]) ++ List.replicate (4 - (lg_sl ([.ref o0, .int p1])).length) Slot.unset).toArray = ls at hl ⊢
  have hl : lv_has ls 4 [(0, .ref o0), (1, .int p1)] := hl
  have bp1 : ((-2147483648) ≤ p1.toInt ∧ p1.toInt ≤ 2147483647) := ⟨i32_lo _, i32_hi _⟩
  refine lv_iconst (v := 0) hx hb dX3_breakable_0 (by decide) ?_
  refine lv_istore_n (lv' := [(2, .int 0), (0, .ref o0), (1, .int p1)]) hx hb dX3_breakable_1 rfl hl (by decide) rfl (fun ls hl => ?_)
  refine lv_iconst (v := 0) hx hb dX3_breakable_2 (by decide) ?_
  refine lv_istore_n (lv' := [(3, .int 0), (2, .int 0), (0, .ref o0), (1, .int p1)]) hx hb dX3_breakable_3 rfl hl (by decide) rfl (fun ls hl => ?_)
  have hloop_13 : ∀ (n : Nat), ∀ (y_10 : Int32), (0 ≤ y_10.toInt ∧ y_10.toInt ≤ 8) → ∀ (y_11 : Int32), (0 ≤ y_11.toInt ∧ y_11.toInt ≤ 255) → ∀ (f_12 : Nat → va_E), GI (okc cI cL cZ cR L kd) kd L f_12 → ∀ (H : Heap) (locs : List Loc), va_P (dC, dI) vwCl (va_pl L f_12) H → va_D (fun q => q ∈ L) (va_pl L f_12) → va_S (fun q => q ∈ L) s.heap H locs → 8 - y_10.toInt < (n : Int) → ∀ (ls : Array Slot), lv_has ls 4 [(3, .int y_10), (2, .int y_11), (0, .ref o0), (1, .int p1)] → W p l e (headSpec (wU yX3_breakable cX3_breakable 4 (some .int)) { frames := 1, cells := 0, slots := 0, locals := 23 }).room s m [.ref o0, .int p1].toArray below meth c H locs 0 0 (MQ below (va_Qi (fun (r : Int32) (f9 : Nat → va_E) => GI (okc cI cL cZ cR L kd) kd L f9 ∧ (0 ≤ r.toInt ∧ r.toInt ≤ 255)) (qP (dC, dI) cI cL cZ cR L) (fun q => q ∈ L)) [.ref o0, .int p1].toArray s 0 0 (fun q => q ∈ L)) (F0 m 4 ls []) := by
    intro n
    induction n with
    | zero => intro y_10 by_10 y_11 by_11 f_12 hG H locs hP hD hS hmuhloop_13 ls hl; exfalso; omega
    | succ n ih_hloop_13 =>
      intro y_10 by_10 y_11 by_11 f_12 hG H locs hP hD hS hmuhloop_13 ls hl
      refine lv_iload_n hx hb dX3_breakable_4 rfl (lv_at hl 0 rfl) ?_
      refine lv_aload_n hx hb dX3_breakable_5 rfl (lv_at hl 2 rfl) ?_
      obtain ⟨a_15, a_16, a_17, a_18, a_19, v_20, v_21, v_22, v_23, v_24, v_25, v_26, a_27, a_28, a_29, v_30, a_31, a_32, hfo_14, ⟨ma_15, ka_15⟩, ⟨ma_16, ka_16⟩, ⟨ma_17, ka_17⟩, ⟨ma_18, ka_18⟩, ⟨ma_19, ka_19⟩, bv_20, bv_21, bv_22, ⟨ma_27, ka_27⟩, ⟨ma_28, ka_28⟩, ⟨ma_29, ka_29⟩, bv_30, ⟨ma_31, ka_31⟩, ⟨ma_32, ka_32⟩⟩ := un_3 (hG _ mo0) ko0
      have bv_23 : ((-2147483648) ≤ v_23.toInt ∧ v_23.toInt ≤ 2147483647) := ⟨i32_lo _, i32_hi _⟩
      have bv_24 : ((-2147483648) ≤ v_24.toInt ∧ v_24.toInt ≤ 2147483647) := ⟨i32_lo _, i32_hi _⟩
      have bv_25 : ((-2147483648) ≤ v_25.toInt ∧ v_25.toInt ≤ 2147483647) := ⟨i32_lo _, i32_hi _⟩
      have bv_26 : ((-2147483648) ≤ v_26.toInt ∧ v_26.toInt ≤ 2147483647) := ⟨i32_lo _, i32_hi _⟩
      refine tk_getP (D := (dC, dI)) (ci := 3) (v := .ref a_15) (C := RX3) (T := TX3) (N := 18) hx hb hU inlX3 hown hK hP mo0 hfo_14 rfl 0 (by decide) (hU _ wd_48) (fun _ h9 => h9) rfl dX3_breakable_6 ?_
      obtain ⟨a_34, v_35, a_36, a_37, a_38, a_39, v_40, a_41, a_42, a_43, a_44, a_45, v_46, a_47, a_48, a_49, hfo_33, ⟨ma_34, ka_34⟩, bv_35, ⟨ma_36, ka_36⟩, ⟨ma_37, ka_37⟩, ⟨ma_38, ka_38⟩, ⟨ma_39, ka_39⟩, bv_40, ⟨ma_41, ka_41⟩, ⟨ma_42, ka_42⟩, ⟨ma_43, ka_43⟩, ⟨ma_44, ka_44⟩, ⟨ma_45, ka_45⟩, bv_46, ⟨ma_47, ka_47⟩, ⟨ma_48, ka_48⟩, ⟨ma_49, ka_49⟩⟩ := un_7 (hG _ ma_15) ka_15
      refine tk_getP (D := (dC, dI)) (ci := 7) (v := .int v_46) (C := RX7) (T := TX7) (N := 16) hx hb hU inlX7 hown hK hP ma_15 hfo_33 rfl 12 (by decide) (hU _ wd_741) (fun _ h9 => h9) rfl dX3_breakable_9 ?_
      refine lv_icmp_ge (tgt := 55) hx hb dX3_breakable_12 (by decide) (fun c_50 => ?_) (fun c_50 => ?_)
      · skip
        rw [Int32.le_iff_toInt_le] at c_50
        refine lv_iload_n hx hb dX3_breakable_55 rfl (lv_at hl 1 rfl) ?_
        exact W.iret (v := y_11) hx hb hr (fun t ht hW => ⟨⟨y_11, f_12, rfl, ⟨hG, (by constructor <;> omega)⟩, by rw [ht]; exact hP, va_K.moved hW.alike hK, pl_in hD⟩, hS.F ht⟩) hS.2.2 dX3_breakable_56
      · skip
        rw [Int32.le_iff_toInt_le] at c_50
        refine lv_iload_n hx hb dX3_breakable_15 rfl (lv_at hl 3 rfl) ?_
        refine lv_iload_n hx hb dX3_breakable_16 rfl (lv_at hl 0 rfl) ?_
        refine lv_ishr hx hb dX3_breakable_17 ?_
        refine lv_topi (fun x_51 ex_51 => ?_)
        have bx_51 : ((-2147483648) ≤ x_51.toInt ∧ x_51.toInt ≤ 2147483647) := ⟨i32_lo _, i32_hi _⟩
        refine lv_iconst (v := 1) hx hb dX3_breakable_18 (by decide) ?_
        refine lv_iand hx hb dX3_breakable_19 ?_
        refine lv_topi (fun x_52 ex_52 => ?_)
        have bx_52 : (0 ≤ x_52.toInt ∧ x_52.toInt ≤ 1) := by rw [ex_52]; have h8 := an_C x_51 (m := 1) (by decide); rw [ti_1] at h8; exact h8
        refine lv_iconst (v := 1) hx hb dX3_breakable_20 (by decide) ?_
        have hcut_55 : ∀ (y_53 : Int32), (0 ≤ y_53.toInt ∧ y_53.toInt ≤ 255) → ∀ (f_54 : Nat → va_E), GI (okc cI cL cZ cR L kd) kd L f_54 → ∀ (H : Heap) (locs : List Loc), va_P (dC, dI) vwCl (va_pl L f_54) H → va_D (fun q => q ∈ L) (va_pl L f_54) → va_S (fun q => q ∈ L) s.heap H locs → ∀ (ls : Array Slot), lv_has ls 4 [(3, .int y_10), (2, .int y_53), (0, .ref o0), (1, .int p1)] → W p l e (headSpec (wU yX3_breakable cX3_breakable 4 (some .int)) { frames := 1, cells := 0, slots := 0, locals := 23 }).room s m [.ref o0, .int p1].toArray below meth c H locs 0 0 (MQ below (va_Qi (fun (r : Int32) (f9 : Nat → va_E) => GI (okc cI cL cZ cR L kd) kd L f9 ∧ (0 ≤ r.toInt ∧ r.toInt ≤ 255)) (qP (dC, dI) cI cL cZ cR L) (fun q => q ∈ L)) [.ref o0, .int p1].toArray s 0 0 (fun q => q ∈ L)) (F0 m 49 ls []) := by
          intro y_53 by_53 f_54 hG H locs hP hD hS ls hl
          obtain ⟨x_56, ex_56⟩ : ∃ y : Int32, y_10 + 1 = y := ⟨_, rfl⟩
          have hx_56 : x_56.toInt = y_10.toInt + 1 := by rw [← ex_56, ad_I (by rw [ti_1]; omega) (by rw [ti_1]; omega), ti_1]
          have bx_56 : (1 ≤ x_56.toInt ∧ x_56.toInt ≤ 8) := by constructor <;> omega
          refine lv_iinc (v := x_56) (lv' := [(3, .int x_56), (2, .int y_53), (0, .ref o0), (1, .int p1)]) hx hb dX3_breakable_49 hl (k := 0) rfl ex_56 (by decide) rfl (fun ls hl => ?_)
          refine lv_goto (tgt := 4) hx hb dX3_breakable_52 (by decide) ?_
          exact ih_hloop_13 x_56 (by constructor <;> omega) y_53 (by constructor <;> omega) f_54 hG _ _ hP hD hS (by omega) ls (lv_sub hl [0, 1, 2, 3] rfl)
        refine lv_icmp_ne (tgt := 49) hx hb dX3_breakable_21 (by decide) (fun c_57 => ?_) (fun c_57 => ?_)
        · skip
          rw [← Int32.toInt_inj, ti_1] at c_57
          exact hcut_55 y_11 (by constructor <;> omega) f_12 hG _ _ hP hD hS ls (lv_sub hl [0, 1, 2, 3] rfl)
        · skip
          rw [← Int32.toInt_inj, ti_1] at c_57
          refine lv_aload_n hx hb dX3_breakable_24 rfl (lv_at hl 2 rfl) ?_
          refine lv_aload_n hx hb dX3_breakable_25 rfl (lv_at hl 2 rfl) ?_
          refine tk_getP (D := (dC, dI)) (ci := 3) (v := .ref a_15) (C := RX3) (T := TX3) (N := 18) hx hb hU inlX3 hown hK hP mo0 hfo_14 rfl 0 (by decide) (hU _ wd_48) (fun _ h9 => h9) rfl dX3_breakable_26 ?_
          refine tk_getP (D := (dC, dI)) (ci := 7) (v := .ref a_45) (C := RX7) (T := TX7) (N := 16) hx hb hU inlX7 hown hK hP ma_15 hfo_33 rfl 11 (by decide) (hU _ wd_742) (fun _ h9 => h9) rfl dX3_breakable_29 ?_
          refine lv_iload_n hx hb dX3_breakable_32 rfl (lv_at hl 0 rfl) ?_
          obtain ⟨g_59, hfo_58, hbg_59⟩ := un_35 (hG _ ma_45) ka_45
          obtain ⟨a_60, hga_60, ma_60, ka_60⟩ := hbg_59 (Int32.toNatClampNeg y_10) (in_lt (vp_in_iff.mpr (by constructor <;> omega)))
          refine tk_aldP hx hb hK hP 3 ma_45 hfo_58 rfl (vp_in_iff.mpr (by constructor <;> omega)) hga_60 dX3_breakable_33 ?_
          obtain ⟨v_62, v_63, v_64, v_65, a_66, a_67, a_68, a_69, v_70, v_71, v_72, hfo_61, bv_62, bv_63, bv_64, bv_65, ⟨ma_66, ka_66⟩, ⟨ma_67, ka_67⟩, ⟨ma_68, ka_68⟩, ⟨ma_69, ka_69⟩⟩ := un_4 (hG _ ma_60) ka_60
          have bv_70 : ((-2147483648) ≤ v_70.toInt ∧ v_70.toInt ≤ 2147483647) := ⟨i32_lo _, i32_hi _⟩
          have bv_71 : ((-2147483648) ≤ v_71.toInt ∧ v_71.toInt ≤ 2147483647) := ⟨i32_lo _, i32_hi _⟩
          have bv_72 : ((-2147483648) ≤ v_72.toInt ∧ v_72.toInt ≤ 2147483647) := ⟨i32_lo _, i32_hi _⟩
          refine tk_getP (D := (dC, dI)) (ci := 4) (v := .int v_62) (C := RX4) (T := TX4) (N := 11) hx hb hU inlX4 hown hK hP ma_60 hfo_61 rfl 0 (by decide) (hU _ wd_743) (fun _ h9 => h9) rfl dX3_breakable_34 ?_
          refine tk_ViP (As := [.int v_62]) (rest := []) (n := 1) hx hb hml hown hU hN (s_X3_hasSign_k3 l (dC, dI) cI cL cZ cR kd L f_12 hG o0 mo0 ko0 v_62) wd_744 wd_745 wd_746 wd_16 wd_747 (by decide +kernel) ⟨Nat.le_of_ble_eq_true rfl, Nat.le_of_ble_eq_true rfl⟩ hK hP hD hS mo0 hfo_14 3 rfl rfl rfl hl.1 rfl (Nat.le_of_ble_eq_true rfl) dX3_breakable_37 ⟨Nat.le_of_ble_eq_true rfl, Nat.le_of_ble_eq_true rfl⟩ (fun x_73 f_74 H locs hw hP hD hS => ?_)
          obtain ⟨hG, bx_73⟩ := hw
          refine lv_if_eq (tgt := 49) hx hb dX3_breakable_40 (by decide) (fun c_75 => ?_) (fun c_75 => ?_)
          · skip
            rw [← Int32.toInt_inj, ti_0] at c_75
            exact hcut_55 y_11 (by constructor <;> omega) f_74 hG _ _ hP hD hS ls (lv_sub hl [0, 1, 2, 3] rfl)
          · skip
            rw [← Int32.toInt_inj, ti_0] at c_75
            refine lv_iload_n hx hb dX3_breakable_43 rfl (lv_at hl 1 rfl) ?_
            refine lv_iconst (v := 1) hx hb dX3_breakable_44 (by decide) ?_
            refine lv_iload_n hx hb dX3_breakable_45 rfl (lv_at hl 0 rfl) ?_
            refine lv_ishl hx hb dX3_breakable_46 ?_
            refine lv_topi (fun x_76 ex_76 => ?_)
            have bx_76 : (1 ≤ x_76.toInt ∧ x_76.toInt ≤ 128) := by rw [ex_76]; exact sh_7 (by constructor <;> omega)
            refine lv_ior hx hb dX3_breakable_47 ?_
            refine lv_topi (fun x_77 ex_77 => ?_)
            have bx_77 : (0 ≤ x_77.toInt ∧ x_77.toInt ≤ 255) := by rw [ex_77]; exact or_K 8 (by decide) (by constructor <;> omega) (by constructor <;> omega)
            refine lv_istore_n (lv' := [(2, .int x_77), (3, .int y_10), (0, .ref o0), (1, .int p1)]) hx hb dX3_breakable_48 rfl hl (by decide) rfl (fun ls hl => ?_)
            exact hcut_55 x_77 (by constructor <;> omega) f_74 hG _ _ hP hD hS ls (lv_sub hl [1, 0, 2, 3] rfl)
  exact hloop_13 9 0 (by decide) 0 (by decide) f hG _ _ hP hD hS (by (try simp only [ti_0]); omega) ls hl
set_option maxHeartbeats 8000000 in
set_option maxRecDepth 100000 in
theorem s_X3_choiceOf_k3 (l : Launch) (D : va_G) (cI cL cZ cR : ClassId) (kd : Nat → Nat) (L : List Nat) (f : Nat → va_E) (hG : GI (okc cI cL cZ cR L kd) kd L f) (o0 : Nat) (mo0 : o0 ∈ L) (ko0 : kd o0 = 3) (p1 : Int32) (bp1 : (0 ≤ p1.toInt ∧ p1.toInt ≤ 8)) (p2 : Int32) (bp2 : (0 ≤ p2.toInt ∧ p2.toInt ≤ 3)) : mPI l D cI cL cZ cR yX3_choiceOf cX3_choiceOf 4 (some .int) 0 0 [.ref o0, .int p1, .int p2] L f (fun (r : Int32) (f9 : Nat → va_E) => GI (okc cI cL cZ cR L kd) kd L f9 ∧ ((-1) ≤ r.toInt ∧ r.toInt ≤ 19)) := by
  obtain ⟨dC, dI⟩ := D
  refine Met.ofW (cc := cX3_choiceOf) (maxL := 4) (ret := (some .int)) (by decide) rfl ?_
  intro p e s m args below meth c s₁ B hml hv
  obtain ⟨rfl, hP, hK, hD0, hN⟩ := hv
  have hx := B.exec
  have hb := B.bytes
  have hr := B.returns
  have hU : ∀ w ∈ wsU, w.before _ s = true := fun w h => atoms_spec (ws := wU yX3_choiceOf cX3_choiceOf 4 (some .int)) B.pre w (List.mem_cons_of_mem _ h)
  have hown : s.vm.findClass RX3 = some m.cls := findClass_of_methodNamed B.named
  have hlocks := B.notSynchronized
  have hD := pl_in hD0
  have hS : va_S (fun q => q ∈ L) s.heap s.heap [] := va_S.rf
  have hl := lv_entry ([.ref o0, .int p1, .int p2]) (n := 4) (Nat.le_of_ble_eq_true rfl)
  rw [lg_entry_eq]
  generalize (lg_sl ([.ref o0, .int p1, .int p2]) ++ List.replicate (4 - (lg_sl ([.ref o0, .int p1, .int p2])).length) Slot.unset).toArray = ls at hl ⊢
  have hl : lv_has ls 4 [(0, .ref o0), (1, .int p1), (2, .int p2)] := hl
  refine lv_iload_n hx hb dX3_choiceOf_0 rfl (lv_at hl 1 rfl) ?_
  refine lv_iconst (v := 4) hx hb dX3_choiceOf_1 (by decide) ?_
  refine lv_imul hx hb dX3_choiceOf_2 ?_
  refine lv_topi (fun x_1 ex_1 => ?_)
  have hx_1 : x_1.toInt = p1.toInt * 4 := by rw [ex_1, ml_I (by rw [ti_4]; omega) (by rw [ti_4]; omega), ti_4]
  have bx_1 : (0 ≤ x_1.toInt ∧ x_1.toInt ≤ 32) := by constructor <;> omega
  refine lv_iload_n hx hb dX3_choiceOf_3 rfl (lv_at hl 2 rfl) ?_
  refine lv_iadd hx hb dX3_choiceOf_4 ?_
  refine lv_topi (fun x_2 ex_2 => ?_)
  have hx_2 : x_2.toInt = x_1.toInt + p2.toInt := by rw [ex_2, ad_I (by omega) (by omega)]
  have bx_2 : (0 ≤ x_2.toInt ∧ x_2.toInt ≤ 35) := by constructor <;> omega
  refine lv_istore_n (lv' := [(3, .int x_2), (0, .ref o0), (1, .int p1), (2, .int p2)]) hx hb dX3_choiceOf_5 rfl hl (by decide) rfl (fun ls hl => ?_)
  refine lv_aload_n hx hb dX3_choiceOf_6 rfl (lv_at hl 1 rfl) ?_
  obtain ⟨a_4, a_5, a_6, a_7, a_8, v_9, v_10, v_11, v_12, v_13, v_14, v_15, a_16, a_17, a_18, v_19, a_20, a_21, hfo_3, ⟨ma_4, ka_4⟩, ⟨ma_5, ka_5⟩, ⟨ma_6, ka_6⟩, ⟨ma_7, ka_7⟩, ⟨ma_8, ka_8⟩, bv_9, bv_10, bv_11, ⟨ma_16, ka_16⟩, ⟨ma_17, ka_17⟩, ⟨ma_18, ka_18⟩, bv_19, ⟨ma_20, ka_20⟩, ⟨ma_21, ka_21⟩⟩ := un_3 (hG _ mo0) ko0
  have bv_12 : ((-2147483648) ≤ v_12.toInt ∧ v_12.toInt ≤ 2147483647) := ⟨i32_lo _, i32_hi _⟩
  have bv_13 : ((-2147483648) ≤ v_13.toInt ∧ v_13.toInt ≤ 2147483647) := ⟨i32_lo _, i32_hi _⟩
  have bv_14 : ((-2147483648) ≤ v_14.toInt ∧ v_14.toInt ≤ 2147483647) := ⟨i32_lo _, i32_hi _⟩
  have bv_15 : ((-2147483648) ≤ v_15.toInt ∧ v_15.toInt ≤ 2147483647) := ⟨i32_lo _, i32_hi _⟩
  refine tk_getP (D := (dC, dI)) (ci := 3) (v := .int v_10) (C := RX3) (T := TX3) (N := 18) hx hb hU inlX3 hown hK hP mo0 hfo_3 rfl 6 (by decide) (hU _ wd_732) (fun _ h9 => h9) rfl dX3_choiceOf_7 ?_
  have hcut_23 : ∀ (y_22 : Int32), (0 ≤ y_22.toInt ∧ y_22.toInt ≤ 20) → ∀ (ls : Array Slot), lv_has ls 4 [(3, .int x_2), (0, .ref o0), (1, .int p1), (2, .int p2)] → W p l e (headSpec (wU yX3_choiceOf cX3_choiceOf 4 (some .int)) { frames := 0, cells := 0, slots := 0, locals := 0 }).room s m [.ref o0, .int p1, .int p2].toArray below meth c s.heap [] 0 0 (MQ below (va_Qi (fun (r : Int32) (f9 : Nat → va_E) => GI (okc cI cL cZ cR L kd) kd L f9 ∧ ((-1) ≤ r.toInt ∧ r.toInt ≤ 19)) (qP (dC, dI) cI cL cZ cR L) (fun q => q ∈ L)) [.ref o0, .int p1, .int p2].toArray s 0 0 (fun q => q ∈ L)) (F0 m 34 ls [.int y_22]) := by
    intro y_22 by_22 ls hl
    refine lv_iconst (v := 1) hx hb dX3_choiceOf_34 (by decide) ?_
    refine lv_isub hx hb dX3_choiceOf_35 ?_
    refine lv_topi (fun x_24 ex_24 => ?_)
    have hx_24 : x_24.toInt = y_22.toInt - 1 := by rw [ex_24, sb_I (by rw [ti_1]; omega) (by rw [ti_1]; omega), ti_1]
    have bx_24 : ((-1) ≤ x_24.toInt ∧ x_24.toInt ≤ 19) := by constructor <;> omega
    exact W.iret (v := x_24) hx hb hr (fun t ht hW => ⟨⟨x_24, f, rfl, ⟨hG, (by constructor <;> omega)⟩, by rw [ht]; exact hP, va_K.moved hW.alike hK, pl_in hD⟩, hS.F ht⟩) hS.2.2 dX3_choiceOf_36
  refine lv_if_eq (tgt := 25) hx hb dX3_choiceOf_10 (by decide) (fun c_25 => ?_) (fun c_25 => ?_)
  · skip
    rw [← Int32.toInt_inj, ti_0] at c_25
    refine lv_aload_n hx hb dX3_choiceOf_25 rfl (lv_at hl 1 rfl) ?_
    refine tk_getP (D := (dC, dI)) (ci := 3) (v := .ref a_4) (C := RX3) (T := TX3) (N := 18) hx hb hU inlX3 hown hK hP mo0 hfo_3 rfl 0 (by decide) (hU _ wd_48) (fun _ h9 => h9) rfl dX3_choiceOf_26 ?_
    obtain ⟨a_27, v_28, a_29, a_30, a_31, a_32, v_33, a_34, a_35, a_36, a_37, a_38, v_39, a_40, a_41, a_42, hfo_26, ⟨ma_27, ka_27⟩, bv_28, ⟨ma_29, ka_29⟩, ⟨ma_30, ka_30⟩, ⟨ma_31, ka_31⟩, ⟨ma_32, ka_32⟩, bv_33, ⟨ma_34, ka_34⟩, ⟨ma_35, ka_35⟩, ⟨ma_36, ka_36⟩, ⟨ma_37, ka_37⟩, ⟨ma_38, ka_38⟩, bv_39, ⟨ma_40, ka_40⟩, ⟨ma_41, ka_41⟩, ⟨ma_42, ka_42⟩⟩ := un_7 (hG _ ma_4) ka_4
    refine tk_getP (D := (dC, dI)) (ci := 7) (v := .ref a_37) (C := RX7) (T := TX7) (N := 16) hx hb hU inlX7 hown hK hP ma_4 hfo_26 rfl 10 (by decide) (hU _ wd_824) (fun _ h9 => h9) rfl dX3_choiceOf_29 ?_
    refine lv_iload_n hx hb dX3_choiceOf_32 rfl (lv_at hl 0 rfl) ?_
    obtain ⟨g_44, hfo_43, hbg_44⟩ := un_34 (hG _ ma_37) ka_37
    refine tk_ildP hx hb hK hP 0 ma_37 hfo_43 rfl (vp_in_iff.mpr (by constructor <;> omega)) dX3_choiceOf_33 ?_
    refine lv_topi (fun x_45 ex_45 => ?_)
    have bx_45 : (0 ≤ x_45.toInt ∧ x_45.toInt ≤ 20) := by rw [ex_45]; exact hbg_44 _
    exact hcut_23 x_45 (by constructor <;> omega) ls (lv_sub hl [0, 1, 2, 3] rfl)
  · skip
    rw [← Int32.toInt_inj, ti_0] at c_25
    refine lv_aload_n hx hb dX3_choiceOf_13 rfl (lv_at hl 1 rfl) ?_
    refine tk_getP (D := (dC, dI)) (ci := 3) (v := .ref a_4) (C := RX3) (T := TX3) (N := 18) hx hb hU inlX3 hown hK hP mo0 hfo_3 rfl 0 (by decide) (hU _ wd_48) (fun _ h9 => h9) rfl dX3_choiceOf_14 ?_
    obtain ⟨a_47, v_48, a_49, a_50, a_51, a_52, v_53, a_54, a_55, a_56, a_57, a_58, v_59, a_60, a_61, a_62, hfo_46, ⟨ma_47, ka_47⟩, bv_48, ⟨ma_49, ka_49⟩, ⟨ma_50, ka_50⟩, ⟨ma_51, ka_51⟩, ⟨ma_52, ka_52⟩, bv_53, ⟨ma_54, ka_54⟩, ⟨ma_55, ka_55⟩, ⟨ma_56, ka_56⟩, ⟨ma_57, ka_57⟩, ⟨ma_58, ka_58⟩, bv_59, ⟨ma_60, ka_60⟩, ⟨ma_61, ka_61⟩, ⟨ma_62, ka_62⟩⟩ := un_7 (hG _ ma_4) ka_4
    refine tk_getP (D := (dC, dI)) (ci := 7) (v := .ref a_56) (C := RX7) (T := TX7) (N := 16) hx hb hU inlX7 hown hK hP ma_4 hfo_46 rfl 9 (by decide) (hU _ wd_823) (fun _ h9 => h9) rfl dX3_choiceOf_17 ?_
    refine lv_iload_n hx hb dX3_choiceOf_20 rfl (lv_at hl 0 rfl) ?_
    obtain ⟨g_64, hfo_63, hbg_64⟩ := un_34 (hG _ ma_56) ka_56
    refine tk_ildP hx hb hK hP 0 ma_56 hfo_63 rfl (vp_in_iff.mpr (by constructor <;> omega)) dX3_choiceOf_21 ?_
    refine lv_topi (fun x_65 ex_65 => ?_)
    have bx_65 : (0 ≤ x_65.toInt ∧ x_65.toInt ≤ 20) := by rw [ex_65]; exact hbg_64 _
    refine lv_goto (tgt := 34) hx hb dX3_choiceOf_22 (by decide) ?_
    exact hcut_23 x_65 (by constructor <;> omega) ls (lv_sub hl [0, 1, 2, 3] rfl)
set_option maxHeartbeats 8000000 in
set_option maxRecDepth 100000 in
theorem s_X3_isLeft_k3 (l : Launch) (D : va_G) (cI cL cZ cR : ClassId) (kd : Nat → Nat) (L : List Nat) (f : Nat → va_E) (hG : GI (okc cI cL cZ cR L kd) kd L f) (o0 : Nat) (mo0 : o0 ∈ L) (ko0 : kd o0 = 3) (p1 : Int32) : mPI l D cI cL cZ cR yX3_isLeft cX3_isLeft 2 (some .boolean) 0 0 [.ref o0, .int p1] L f (fun (r : Int32) (f9 : Nat → va_E) => GI (okc cI cL cZ cR L kd) kd L f9 ∧ (0 ≤ r.toInt ∧ r.toInt ≤ 1)) := by
  obtain ⟨dC, dI⟩ := D
  refine Met.ofW (cc := cX3_isLeft) (maxL := 2) (ret := (some .boolean)) (by decide) rfl ?_
  intro p e s m args below meth c s₁ B hml hv
  obtain ⟨rfl, hP, hK, hD0, hN⟩ := hv
  have hx := B.exec
  have hb := B.bytes
  have hr := B.returns
  have hU : ∀ w ∈ wsU, w.before _ s = true := fun w h => atoms_spec (ws := wU yX3_isLeft cX3_isLeft 2 (some .boolean)) B.pre w (List.mem_cons_of_mem _ h)
  have hown : s.vm.findClass RX3 = some m.cls := findClass_of_methodNamed B.named
  have hlocks := B.notSynchronized
  have hD := pl_in hD0
  have hS : va_S (fun q => q ∈ L) s.heap s.heap [] := va_S.rf
  have hl := lv_entry ([.ref o0, .int p1]) (n := 2) (Nat.le_of_ble_eq_true rfl)
  rw [lg_entry_eq]
  generalize (lg_sl ([.ref o0, .int p1]) ++ List.replicate (2 - (lg_sl ([.ref o0, .int p1])).length) Slot.unset).toArray = ls at hl ⊢
  have hl : lv_has ls 2 [(0, .ref o0), (1, .int p1)] := hl
  have bp1 : ((-2147483648) ≤ p1.toInt ∧ p1.toInt ≤ 2147483647) := ⟨i32_lo _, i32_hi _⟩
  refine lv_iload_n hx hb dX3_isLeft_0 rfl (lv_at hl 1 rfl) ?_
  refine lv_aload_n hx hb dX3_isLeft_1 rfl (lv_at hl 0 rfl) ?_
  obtain ⟨a_2, a_3, a_4, a_5, a_6, v_7, v_8, v_9, v_10, v_11, v_12, v_13, a_14, a_15, a_16, v_17, a_18, a_19, hfo_1, ⟨ma_2, ka_2⟩, ⟨ma_3, ka_3⟩, ⟨ma_4, ka_4⟩, ⟨ma_5, ka_5⟩, ⟨ma_6, ka_6⟩, bv_7, bv_8, bv_9, ⟨ma_14, ka_14⟩, ⟨ma_15, ka_15⟩, ⟨ma_16, ka_16⟩, bv_17, ⟨ma_18, ka_18⟩, ⟨ma_19, ka_19⟩⟩ := un_3 (hG _ mo0) ko0
  have bv_10 : ((-2147483648) ≤ v_10.toInt ∧ v_10.toInt ≤ 2147483647) := ⟨i32_lo _, i32_hi _⟩
  have bv_11 : ((-2147483648) ≤ v_11.toInt ∧ v_11.toInt ≤ 2147483647) := ⟨i32_lo _, i32_hi _⟩
  have bv_12 : ((-2147483648) ≤ v_12.toInt ∧ v_12.toInt ≤ 2147483647) := ⟨i32_lo _, i32_hi _⟩
  have bv_13 : ((-2147483648) ≤ v_13.toInt ∧ v_13.toInt ≤ 2147483647) := ⟨i32_lo _, i32_hi _⟩
  refine tk_getP (D := (dC, dI)) (ci := 3) (v := .int v_11) (C := RX3) (T := TX3) (N := 18) hx hb hU inlX3 hown hK hP mo0 hfo_1 rfl 9 (by decide) (hU _ wd_735) (fun _ h9 => h9) rfl dX3_isLeft_2 ?_
  refine lv_iand hx hb dX3_isLeft_5 ?_
  refine lv_topi (fun x_20 ex_20 => ?_)
  have bx_20 : ((-2147483648) ≤ x_20.toInt ∧ x_20.toInt ≤ 2147483647) := ⟨i32_lo _, i32_hi _⟩
  refine lv_if_eq (tgt := 22) hx hb dX3_isLeft_6 (by decide) (fun c_21 => ?_) (fun c_21 => ?_)
  · skip
    rw [← Int32.toInt_inj, ti_0] at c_21
    refine lv_iconst (v := 0) hx hb dX3_isLeft_22 (by decide) ?_
    exact W.zret (v := 0) (ty := .boolean) hx hb hr rfl (fun t ht hW => ⟨⟨0, f, rfl, ⟨hG, (by decide)⟩, by rw [ht]; exact hP, va_K.moved hW.alike hK, pl_in hD⟩, hS.F ht⟩) hS.2.2 dX3_isLeft_23
  · skip
    rw [← Int32.toInt_inj, ti_0] at c_21
    refine lv_iload_n hx hb dX3_isLeft_9 rfl (lv_at hl 1 rfl) ?_
    refine lv_aload_n hx hb dX3_isLeft_10 rfl (lv_at hl 0 rfl) ?_
    refine tk_getP (D := (dC, dI)) (ci := 3) (v := .int v_12) (C := RX3) (T := TX3) (N := 18) hx hb hU inlX3 hown hK hP mo0 hfo_1 rfl 10 (by decide) (hU _ wd_736) (fun _ h9 => h9) rfl dX3_isLeft_11 ?_
    refine lv_iand hx hb dX3_isLeft_14 ?_
    refine lv_topi (fun x_22 ex_22 => ?_)
    have bx_22 : ((-2147483648) ≤ x_22.toInt ∧ x_22.toInt ≤ 2147483647) := ⟨i32_lo _, i32_hi _⟩
    refine lv_if_eq (tgt := 22) hx hb dX3_isLeft_15 (by decide) (fun c_23 => ?_) (fun c_23 => ?_)
    · skip
      rw [← Int32.toInt_inj, ti_0] at c_23
      refine lv_iconst (v := 0) hx hb dX3_isLeft_22 (by decide) ?_
      exact W.zret (v := 0) (ty := .boolean) hx hb hr rfl (fun t ht hW => ⟨⟨0, f, rfl, ⟨hG, (by decide)⟩, by rw [ht]; exact hP, va_K.moved hW.alike hK, pl_in hD⟩, hS.F ht⟩) hS.2.2 dX3_isLeft_23
    · skip
      rw [← Int32.toInt_inj, ti_0] at c_23
      refine lv_iconst (v := 1) hx hb dX3_isLeft_18 (by decide) ?_
      refine lv_goto (tgt := 23) hx hb dX3_isLeft_19 (by decide) ?_
      exact W.zret (v := 1) (ty := .boolean) hx hb hr rfl (fun t ht hW => ⟨⟨1, f, rfl, ⟨hG, (by decide)⟩, by rw [ht]; exact hP, va_K.moved hW.alike hK, pl_in hD⟩, hS.F ht⟩) hS.2.2 dX3_isLeft_23
set_option maxHeartbeats 8000000 in
set_option maxRecDepth 100000 in
theorem s_X3_hasWanted_k3 (l : Launch) (D : va_G) (cI cL cZ cR : ClassId) (kd : Nat → Nat) (L : List Nat) (f : Nat → va_E) (hG : GI (okc cI cL cZ cR L kd) kd L f) (o0 : Nat) (mo0 : o0 ∈ L) (ko0 : kd o0 = 3) (p1 : Int32) (bp1 : (0 ≤ p1.toInt ∧ p1.toInt ≤ 9)) : mPI l D cI cL cZ cR yX3_hasWanted cX3_hasWanted 4 (some .boolean) 0 0 [.ref o0, .int p1] L f (fun (r : Int32) (f9 : Nat → va_E) => GI (okc cI cL cZ cR L kd) kd L f9 ∧ (0 ≤ r.toInt ∧ r.toInt ≤ 1)) := by
  obtain ⟨dC, dI⟩ := D
  refine Met.ofW (cc := cX3_hasWanted) (maxL := 4) (ret := (some .boolean)) (by decide) rfl ?_
  intro p e s m args below meth c s₁ B hml hv
  obtain ⟨rfl, hP, hK, hD0, hN⟩ := hv
  have hx := B.exec
  have hb := B.bytes
  have hr := B.returns
  have hU : ∀ w ∈ wsU, w.before _ s = true := fun w h => atoms_spec (ws := wU yX3_hasWanted cX3_hasWanted 4 (some .boolean)) B.pre w (List.mem_cons_of_mem _ h)
  have hown : s.vm.findClass RX3 = some m.cls := findClass_of_methodNamed B.named
  have hlocks := B.notSynchronized
  have hD := pl_in hD0
  have hS : va_S (fun q => q ∈ L) s.heap s.heap [] := va_S.rf
  have hl := lv_entry ([.ref o0, .int p1]) (n := 4) (Nat.le_of_ble_eq_true rfl)
  rw [lg_entry_eq]
  generalize (lg_sl ([.ref o0, .int p1]) ++ List.replicate (4 - (lg_sl ([.ref o0, .int p1])).length) Slot.unset).toArray = ls at hl ⊢
  have hl : lv_has ls 4 [(0, .ref o0), (1, .int p1)] := hl
  refine lv_aload_n hx hb dX3_hasWanted_0 rfl (lv_at hl 0 rfl) ?_
  obtain ⟨a_2, a_3, a_4, a_5, a_6, v_7, v_8, v_9, v_10, v_11, v_12, v_13, a_14, a_15, a_16, v_17, a_18, a_19, hfo_1, ⟨ma_2, ka_2⟩, ⟨ma_3, ka_3⟩, ⟨ma_4, ka_4⟩, ⟨ma_5, ka_5⟩, ⟨ma_6, ka_6⟩, bv_7, bv_8, bv_9, ⟨ma_14, ka_14⟩, ⟨ma_15, ka_15⟩, ⟨ma_16, ka_16⟩, bv_17, ⟨ma_18, ka_18⟩, ⟨ma_19, ka_19⟩⟩ := un_3 (hG _ mo0) ko0
  have bv_10 : ((-2147483648) ≤ v_10.toInt ∧ v_10.toInt ≤ 2147483647) := ⟨i32_lo _, i32_hi _⟩
  have bv_11 : ((-2147483648) ≤ v_11.toInt ∧ v_11.toInt ≤ 2147483647) := ⟨i32_lo _, i32_hi _⟩
  have bv_12 : ((-2147483648) ≤ v_12.toInt ∧ v_12.toInt ≤ 2147483647) := ⟨i32_lo _, i32_hi _⟩
  have bv_13 : ((-2147483648) ≤ v_13.toInt ∧ v_13.toInt ≤ 2147483647) := ⟨i32_lo _, i32_hi _⟩
  refine tk_getP (D := (dC, dI)) (ci := 3) (v := .int v_13) (C := RX3) (T := TX3) (N := 18) hx hb hU inlX3 hown hK hP mo0 hfo_1 rfl 11 (by decide) (hU _ wd_62) (fun _ h9 => h9) rfl dX3_hasWanted_1 ?_
  refine lv_iconst (v := (-1)) hx hb dX3_hasWanted_4 (by decide) ?_
  have hcut_21 : ∀ (y_20 : Int32), (0 ≤ y_20.toInt ∧ y_20.toInt ≤ 1) → ∀ (ls : Array Slot), lv_has ls 4 [(0, .ref o0), (1, .int p1)] → W p l e (headSpec (wU yX3_hasWanted cX3_hasWanted 4 (some .boolean)) { frames := 0, cells := 0, slots := 0, locals := 0 }).room s m [.ref o0, .int p1].toArray below meth c s.heap [] 0 0 (MQ below (va_Qi (fun (r : Int32) (f9 : Nat → va_E) => GI (okc cI cL cZ cR L kd) kd L f9 ∧ (0 ≤ r.toInt ∧ r.toInt ≤ 1)) (qP (dC, dI) cI cL cZ cR L) (fun q => q ∈ L)) [.ref o0, .int p1].toArray s 0 0 (fun q => q ∈ L)) (F0 m 13 ls [.int y_20]) := by
    intro y_20 by_20 ls hl
    refine lv_istore_n (lv' := [(2, .int y_20), (0, .ref o0), (1, .int p1)]) hx hb dX3_hasWanted_13 rfl hl (by decide) rfl (fun ls hl => ?_)
    refine lv_iconst (v := 0) hx hb dX3_hasWanted_14 (by decide) ?_
    refine lv_istore_n (lv' := [(3, .int 0), (2, .int y_20), (0, .ref o0), (1, .int p1)]) hx hb dX3_hasWanted_15 rfl hl (by decide) rfl (fun ls hl => ?_)
    have hloop_30 : ∀ (n : Nat), ∀ (y_28 : Int32), (0 ≤ y_28.toInt ∧ y_28.toInt ≤ 9) → ∀ (y_29 : Int32), (0 ≤ y_29.toInt ∧ y_29.toInt ≤ 1) → 9 - y_28.toInt < (n : Int) → ∀ (ls : Array Slot), lv_has ls 4 [(3, .int y_28), (2, .int y_29), (0, .ref o0), (1, .int p1)] → W p l e (headSpec (wU yX3_hasWanted cX3_hasWanted 4 (some .boolean)) { frames := 0, cells := 0, slots := 0, locals := 0 }).room s m [.ref o0, .int p1].toArray below meth c s.heap [] 0 0 (MQ below (va_Qi (fun (r : Int32) (f9 : Nat → va_E) => GI (okc cI cL cZ cR L kd) kd L f9 ∧ (0 ≤ r.toInt ∧ r.toInt ≤ 1)) (qP (dC, dI) cI cL cZ cR L) (fun q => q ∈ L)) [.ref o0, .int p1].toArray s 0 0 (fun q => q ∈ L)) (F0 m 16 ls []) := by
      intro n
      induction n with
      | zero => intro y_28 by_28 y_29 by_29 hmuhloop_30 ls hl; exfalso; omega
      | succ n ih_hloop_30 =>
        intro y_28 by_28 y_29 by_29 hmuhloop_30 ls hl
        refine lv_iload_n hx hb dX3_hasWanted_16 rfl (lv_at hl 0 rfl) ?_
        refine lv_iload_n hx hb dX3_hasWanted_17 rfl (lv_at hl 3 rfl) ?_
        refine lv_icmp_ge (tgt := 48) hx hb dX3_hasWanted_18 (by decide) (fun c_31 => ?_) (fun c_31 => ?_)
        · skip
          rw [Int32.le_iff_toInt_le] at c_31
          refine lv_iload_n hx hb dX3_hasWanted_48 rfl (lv_at hl 1 rfl) ?_
          exact W.zret (v := y_29) (ty := .boolean) hx hb hr (zb_n (by constructor <;> omega)) (fun t ht hW => ⟨⟨y_29, f, rfl, ⟨hG, (by constructor <;> omega)⟩, by rw [ht]; exact hP, va_K.moved hW.alike hK, pl_in hD⟩, hS.F ht⟩) hS.2.2 dX3_hasWanted_49
        · skip
          rw [Int32.le_iff_toInt_le] at c_31
          refine lv_iload_n hx hb dX3_hasWanted_21 rfl (lv_at hl 1 rfl) ?_
          refine lv_aload_n hx hb dX3_hasWanted_22 rfl (lv_at hl 2 rfl) ?_
          refine tk_getP (D := (dC, dI)) (ci := 3) (v := .ref a_14) (C := RX3) (T := TX3) (N := 18) hx hb hU inlX3 hown hK hP mo0 hfo_1 rfl 12 (by decide) (hU _ wd_63) (fun _ h9 => h9) rfl dX3_hasWanted_23 ?_
          refine lv_iload_n hx hb dX3_hasWanted_26 rfl (lv_at hl 0 rfl) ?_
          obtain ⟨g_33, hfo_32, hbg_33⟩ := un_45 (hG _ ma_14) ka_14
          refine tk_ildP hx hb hK hP 0 ma_14 hfo_32 rfl (vp_in_iff.mpr (by constructor <;> omega)) dX3_hasWanted_27 ?_
          refine lv_topi (fun x_34 ex_34 => ?_)
          have bx_34 : ((-1) ≤ x_34.toInt ∧ x_34.toInt ≤ 19) := by rw [ex_34]; exact hbg_33 _
          refine lv_aload_n hx hb dX3_hasWanted_28 rfl (lv_at hl 2 rfl) ?_
          refine tk_getP (D := (dC, dI)) (ci := 3) (v := .int v_13) (C := RX3) (T := TX3) (N := 18) hx hb hU inlX3 hown hK hP mo0 hfo_1 rfl 11 (by decide) (hU _ wd_62) (fun _ h9 => h9) rfl dX3_hasWanted_29 ?_
          have hcut_36 : ∀ (y_35 : Int32), (0 ≤ y_35.toInt ∧ y_35.toInt ≤ 1) → ∀ (ls : Array Slot), lv_has ls 4 [(3, .int y_28), (2, .int y_29), (0, .ref o0), (1, .int p1)] → W p l e (headSpec (wU yX3_hasWanted cX3_hasWanted 4 (some .boolean)) { frames := 0, cells := 0, slots := 0, locals := 0 }).room s m [.ref o0, .int p1].toArray below meth c s.heap [] 0 0 (MQ below (va_Qi (fun (r : Int32) (f9 : Nat → va_E) => GI (okc cI cL cZ cR L kd) kd L f9 ∧ (0 ≤ r.toInt ∧ r.toInt ≤ 1)) (qP (dC, dI) cI cL cZ cR L) (fun q => q ∈ L)) [.ref o0, .int p1].toArray s 0 0 (fun q => q ∈ L)) (F0 m 40 ls [.int y_35, .int y_29]) := by
            intro y_35 by_35 ls hl
            refine lv_ior hx hb dX3_hasWanted_40 ?_
            refine lv_topi (fun x_37 ex_37 => ?_)
            have bx_37 : (0 ≤ x_37.toInt ∧ x_37.toInt ≤ 1) := by rw [ex_37]; exact or_K 1 (by decide) (by constructor <;> omega) (by constructor <;> omega)
            refine lv_istore_n (lv' := [(2, .int x_37), (3, .int y_28), (0, .ref o0), (1, .int p1)]) hx hb dX3_hasWanted_41 rfl hl (by decide) rfl (fun ls hl => ?_)
            obtain ⟨x_38, ex_38⟩ : ∃ y : Int32, y_28 + 1 = y := ⟨_, rfl⟩
            have hx_38 : x_38.toInt = y_28.toInt + 1 := by rw [← ex_38, ad_I (by rw [ti_1]; omega) (by rw [ti_1]; omega), ti_1]
            have bx_38 : (1 ≤ x_38.toInt ∧ x_38.toInt ≤ 9) := by constructor <;> omega
            refine lv_iinc (v := x_38) (lv' := [(3, .int x_38), (2, .int x_37), (0, .ref o0), (1, .int p1)]) hx hb dX3_hasWanted_42 hl (k := 1) rfl ex_38 (by decide) rfl (fun ls hl => ?_)
            refine lv_goto (tgt := 16) hx hb dX3_hasWanted_45 (by decide) ?_
            exact ih_hloop_30 x_38 (by constructor <;> omega) x_37 (by constructor <;> omega) (by omega) ls (lv_sub hl [0, 1, 2, 3] rfl)
          refine lv_icmp_ne (tgt := 39) hx hb dX3_hasWanted_32 (by decide) (fun c_39 => ?_) (fun c_39 => ?_)
          · skip
            rw [← Int32.toInt_inj] at c_39
            refine lv_iconst (v := 0) hx hb dX3_hasWanted_39 (by decide) ?_
            exact hcut_36 0 (by decide) ls (lv_sub hl [0, 1, 2, 3] rfl)
          · skip
            rw [← Int32.toInt_inj] at c_39
            refine lv_iconst (v := 1) hx hb dX3_hasWanted_35 (by decide) ?_
            refine lv_goto (tgt := 40) hx hb dX3_hasWanted_36 (by decide) ?_
            exact hcut_36 1 (by decide) ls (lv_sub hl [0, 1, 2, 3] rfl)
    exact hloop_30 10 0 (by decide) y_20 (by constructor <;> omega) (by (try simp only [ti_0]); omega) ls hl
  refine lv_icmp_ne (tgt := 12) hx hb dX3_hasWanted_5 (by decide) (fun c_40 => ?_) (fun c_40 => ?_)
  · skip
    rw [← Int32.toInt_inj, ti_m1] at c_40
    refine lv_iconst (v := 0) hx hb dX3_hasWanted_12 (by decide) ?_
    exact hcut_21 0 (by decide) ls (lv_sub hl [0, 1] rfl)
  · skip
    rw [← Int32.toInt_inj, ti_m1] at c_40
    refine lv_iconst (v := 1) hx hb dX3_hasWanted_8 (by decide) ?_
    refine lv_goto (tgt := 13) hx hb dX3_hasWanted_9 (by decide) ?_
    exact hcut_21 1 (by decide) ls (lv_sub hl [0, 1] rfl)
