set_option maxHeartbeats 8000000 in
set_option maxRecDepth 100000 in
theorem s_X8_step_k8_k7 (l : Launch) (D : va_G) (cI cL cZ cR cG cH : ClassId) (Z : zT) (kd : Nat → Nat) (L : List Nat) (f : Nat → va_E) (hG : GI (okc cI cL cZ cR cG cH L kd) kd L f) (o0 : Nat) (mo0 : o0 ∈ L) (ko0 : kd o0 = 8) (o1 : Nat) (mo1 : o1 ∈ L) (ko1 : kd o1 = 7) (p2 : Int32) (p3 : Int32) (bp3 : (0 ≤ p3.toInt ∧ p3.toInt ≤ 8)) (p4 : Int32) (bp4 : (0 ≤ p4.toInt ∧ p4.toInt ≤ 19)) : mPI l D cI cL cZ cR cG cH Z yX8_step cX8_step 12 (some .int) 2 56 [.ref o0, .ref o1, .int p2, .int p3, .int p4] L f (fun (r : Int32) (f9 : Nat → va_E) => GI (okc cI cL cZ cR cG cH L kd) kd L f9 ∧ (0 ≤ r.toInt ∧ r.toInt ≤ 255) ∧ (∀ b, kd b ≠ 517 → kd b ≠ 518 → kd b ≠ 519 → kd b ≠ 520 → f9 b = f b)) := by
  obtain ⟨dC, dI⟩ := D
  refine Met.ofW (cc := cX8_step) (maxL := 12) (ret := (some .int)) (by decide) rfl ?_
  intro p e s m args below meth c s₁ B hml hv
  obtain ⟨rfl, hP, hK, hD0, hN, hZ⟩ := hv
  have hx := B.exec
  have hb := B.bytes
  have hr := B.returns
  have hU : ∀ w ∈ wsU, w.before _ s = true := fun w h => atoms_spec (ws := wU yX8_step cX8_step 12 (some .int)) B.pre w (List.mem_cons_of_mem _ h)
  have hown : s.vm.findClass RX8 = some m.cls := findClass_of_methodNamed B.named
  have hlocks := B.notSynchronized
  have hD := pl_in hD0
  have hS : va_S (fun q => q ∈ L) s.heap s.heap [] := va_S.rf
  have hl := lv_entry ([.ref o0, .ref o1, .int p2, .int p3, .int p4]) (n := 12) (Nat.le_of_ble_eq_true rfl)
  rw [lg_entry_eq]
  generalize (lg_sl ([.ref o0, .ref o1, .int p2, .int p3, .int p4]) ++ List.replicate (12 - (lg_sl ([.ref o0, .ref o1, .int p2, .int p3, .int p4])).length) Slot.unset).toArray = ls at hl ⊢
  have hl : lv_has ls 12 [(0, .ref o0), (1, .ref o1), (2, .int p2), (3, .int p3), (4, .int p4)] := hl
  have bp2 : ((-2147483648) ≤ p2.toInt ∧ p2.toInt ≤ 2147483647) := ⟨i32_lo _, i32_hi _⟩
  have hfr0 : ∀ b, kd b ≠ 517 → kd b ≠ 518 → kd b ≠ 519 → kd b ≠ 520 → f b = f b := fun _ _ _ _ _ => rfl
  refine lv_aload_n hx hb dX8_step_0 rfl (lv_at hl 0 rfl) ?_
  obtain ⟨a_2, a_3, a_4, a_5, a_6, hfo_1, ⟨ma_2, ka_2⟩, ⟨ma_3, ka_3⟩, ⟨ma_4, ka_4⟩, ⟨ma_5, ka_5⟩, ⟨ma_6, ka_6⟩⟩ := un_8 (hG _ mo0) ko0
  refine tk_getP (D := (dC, dI)) (ci := 8) (v := .ref a_6) (C := RX8) (T := TX8) (N := 5) hx hb hU inlX8 hown hK hP mo0 hfo_1 rfl 4 (by decide) (hU _ wd_124) (fun _ h9 => h9) rfl dX8_step_1 ?_
  refine lv_iload_n hx hb dX8_step_4 rfl (lv_at hl 3 rfl) ?_
  obtain ⟨g_8, hfo_7, hbg_8⟩ := un_520 (hG _ ma_6) ka_6
  refine tk_ildP hx hb hK hP 0 ma_6 hfo_7 rfl (vp_in_iff.mpr (by constructor <;> omega)) dX8_step_5 ?_
  refine lv_topi (fun x_9 ex_9 => ?_)
  have bx_9 : (0 ≤ x_9.toInt ∧ x_9.toInt ≤ 255) := by rw [ex_9]; exact hbg_8 _
  refine lv_istore (lv' := [(5, .int x_9), (0, .ref o0), (1, .ref o1), (2, .int p2), (3, .int p3), (4, .int p4)]) hx hb dX8_step_6 hl (by decide) rfl (fun ls hl => ?_)
  refine lv_iload_n hx hb dX8_step_8 rfl (lv_at hl 3 rfl) ?_
  refine lv_iload hx hb dX8_step_9 (lv_at hl 0 rfl) ?_
  refine lv_iconst (v := (-1)) hx hb dX8_step_11 (by decide) ?_
  refine lv_ixor hx hb dX8_step_12 ?_
  refine lv_topi (fun x_10 ex_10 => ?_)
  have bx_10 : ((-2147483648) ≤ x_10.toInt ∧ x_10.toInt ≤ 2147483647) := ⟨i32_lo _, i32_hi _⟩
  refine lv_iand hx hb dX8_step_13 ?_
  refine lv_topi (fun x_11 ex_11 => ?_)
  have bx_11 : ((-2147483648) ≤ x_11.toInt ∧ x_11.toInt ≤ 2147483647) := ⟨i32_lo _, i32_hi _⟩
  refine lv_istore (lv' := [(6, .int x_11), (5, .int x_9), (0, .ref o0), (1, .ref o1), (2, .int p2), (3, .int p3), (4, .int p4)]) hx hb dX8_step_14 hl (by decide) rfl (fun ls hl => ?_)
  refine lv_iload_n hx hb dX8_step_16 rfl (lv_at hl 5 rfl) ?_
  refine lv_bipush (v := 8) hx hb dX8_step_17 (by decide) ?_
  refine lv_imul hx hb dX8_step_19 ?_
  refine lv_topi (fun x_12 ex_12 => ?_)
  have hx_12 : x_12.toInt = p3.toInt * 8 := by rw [ex_12, ml_I (by rw [ti_8]; omega) (by rw [ti_8]; omega), ti_8]
  have bx_12 : (0 ≤ x_12.toInt ∧ x_12.toInt ≤ 64) := by constructor <;> omega
  refine lv_istore (lv' := [(7, .int x_12), (6, .int x_11), (5, .int x_9), (0, .ref o0), (1, .ref o1), (2, .int p2), (3, .int p3), (4, .int p4)]) hx hb dX8_step_20 hl (by decide) rfl (fun ls hl => ?_)
  refine lv_iconst (v := 0) hx hb dX8_step_22 (by decide) ?_
  refine lv_istore (lv' := [(8, .int 0), (7, .int x_12), (6, .int x_11), (5, .int x_9), (0, .ref o0), (1, .ref o1), (2, .int p2), (3, .int p3), (4, .int p4)]) hx hb dX8_step_23 hl (by decide) rfl (fun ls hl => ?_)
  have hloop_34 : ∀ (n : Nat), ∀ (y_35 : Int32), (0 ≤ y_35.toInt ∧ y_35.toInt ≤ 8) → ∀ (y_36 : Int32), (0 ≤ y_36.toInt ∧ y_36.toInt ≤ 255) → ∀ (f_38 : Nat → va_E), GI (okc cI cL cZ cR cG cH L kd) kd L f_38 → ∀ (H : Heap) (locs : List Loc), va_P (dC, dI) vwCl (va_pl L f_38) H → va_S (fun q => q ∈ L) s.heap H locs → va_D (fun q => q ∈ L) (va_pl L f_38) → (∀ b, kd b ≠ 517 → kd b ≠ 518 → kd b ≠ 519 → kd b ≠ 520 → f_38 b = f b) → (f_38 o0 = .inr (8, [.ref a_2, .ref a_3, .ref a_4, .ref a_5, .ref a_6])) → (f_38 a_6 = .inl (cI, 10, .inl g_8)) → 8 - y_35.toInt < (n : Int) → ∀ (ls : Array Slot), lv_has ls 12 [(8, .int y_35), (7, .int x_12), (6, .int x_11), (5, .int y_36), (0, .ref o0), (1, .ref o1), (2, .int p2), (3, .int p3), (4, .int p4)] → W p l e (headSpec (wU yX8_step cX8_step 12 (some .int)) { frames := 2, cells := 0, slots := 0, locals := 56 }).room s m [.ref o0, .ref o1, .int p2, .int p3, .int p4].toArray below meth c H locs 0 0 (MQ below (va_Qi (fun (r : Int32) (f9 : Nat → va_E) => GI (okc cI cL cZ cR cG cH L kd) kd L f9 ∧ (0 ≤ r.toInt ∧ r.toInt ≤ 255) ∧ (∀ b, kd b ≠ 517 → kd b ≠ 518 → kd b ≠ 519 → kd b ≠ 520 → f9 b = f b)) (qP (dC, dI) cI cL cZ cR cG cH L) (fun q => q ∈ L)) [.ref o0, .ref o1, .int p2, .int p3, .int p4].toArray s 0 0 (fun q => q ∈ L)) (F0 m 25 ls []) := by
    intro n
    induction n with
    | zero => intro y_35 by_35 y_36 by_36 f_38 hG H locs hP hS hD hfr0 hfo_39 hfo_40 hmuhloop_34 ls hl; exfalso; omega
    | succ n ih_hloop_34 =>
      intro y_35 by_35 y_36 by_36 f_38 hG H locs hP hS hD hfr0 hfo_39 hfo_40 hmuhloop_34 ls hl
      refine lv_iload hx hb dX8_step_25 (lv_at hl 0 rfl) ?_
      refine lv_bipush (v := 8) hx hb dX8_step_27 (by decide) ?_
      have hcut_41 : ∀ (ls : Array Slot), lv_has ls 12 [(8, .int y_35), (7, .int x_12), (6, .int x_11), (5, .int y_36), (0, .ref o0), (1, .ref o1), (2, .int p2), (3, .int p3), (4, .int p4)] → W p l e (headSpec (wU yX8_step cX8_step 12 (some .int)) { frames := 2, cells := 0, slots := 0, locals := 56 }).room s m [.ref o0, .ref o1, .int p2, .int p3, .int p4].toArray below meth c H locs 0 0 (MQ below (va_Qi (fun (r : Int32) (f9 : Nat → va_E) => GI (okc cI cL cZ cR cG cH L kd) kd L f9 ∧ (0 ≤ r.toInt ∧ r.toInt ≤ 255) ∧ (∀ b, kd b ≠ 517 → kd b ≠ 518 → kd b ≠ 519 → kd b ≠ 520 → f9 b = f b)) (qP (dC, dI) cI cL cZ cR cG cH L) (fun q => q ∈ L)) [.ref o0, .ref o1, .int p2, .int p3, .int p4].toArray s 0 0 (fun q => q ∈ L)) (F0 m 195 ls []) := by
        intro ls hl
        refine lv_aload_n hx hb dX8_step_195 rfl (lv_at hl 4 rfl) ?_
        refine tk_getP (D := (dC, dI)) (ci := 8) (v := .ref a_6) (C := RX8) (T := TX8) (N := 5) hx hb hU inlX8 hown hK hP mo0 hfo_39 rfl 4 (by decide) (hU _ wd_124) (fun _ h9 => h9) rfl dX8_step_196 ?_
        refine lv_iload_n hx hb dX8_step_199 rfl (lv_at hl 7 rfl) ?_
        refine lv_iconst (v := 1) hx hb dX8_step_200 (by decide) ?_
        refine lv_iadd hx hb dX8_step_201 ?_
        refine lv_topi (fun x_42 ex_42 => ?_)
        have hx_42 : x_42.toInt = p3.toInt + 1 := by rw [ex_42, ad_I (by rw [ti_1]; omega) (by rw [ti_1]; omega), ti_1]
        have bx_42 : (1 ≤ x_42.toInt ∧ x_42.toInt ≤ 9) := by constructor <;> omega
        refine lv_iload hx hb dX8_step_202 (lv_at hl 3 rfl) ?_
        refine tk_istP hx hb hK hP hD hS 0 ma_6 hfo_40 rfl (vp_in_iff.mpr (by constructor <;> omega)) dX8_step_204 (fun H locs hP hD hS => ?_)
        obtain ⟨f_44, ef_44⟩ : ∃ y : Nat → va_E, y = va_up f_38 a_6 (.inl (cI, 10, .inl (upd g_8 (Int32.toNatClampNeg x_42) y_36))) := ⟨_, rfl⟩
        have hP : va_P (dC, dI) vwCl (va_pl L f_44) H := by rw [ef_44]; exact hP
        have hD : va_D (fun q => q ∈ L) (va_pl L f_44) := by rw [ef_44]; exact hD
        have hG : GI (okc cI cL cZ cR cG cH L kd) kd L f_44 := by rw [ef_44]; exact hG.set a_6 (mk_520 ka_6 ⟨_, rfl, okI_up hbg_8 (by constructor <;> omega) _⟩)
        have hfo_45 : f_44 o0 = .inr (8, [.ref a_2, .ref a_3, .ref a_4, .ref a_5, .ref a_6]) := by rw [ef_44, up_ne (kd_ne ka_6 ko0 (by decide))]; exact hfo_39
        have hfr0 : ∀ b, kd b ≠ 517 → kd b ≠ 518 → kd b ≠ 519 → kd b ≠ 520 → f_44 b = f b := fun b q517 q518 q519 q520 => (congrFun ef_44 b).trans ((up_ne (fun e9 => q520 (by rw [e9]; exact ka_6))).trans (hfr0 b q517 q518 q519 q520))
        have hfo_46 : f_44 a_6 = .inl (cI, 10, .inl (upd g_8 (Int32.toNatClampNeg x_42) y_36)) := by rw [ef_44]; exact up_self
        refine lv_iload hx hb dX8_step_205 (lv_at hl 3 rfl) ?_
        exact W.iret (v := y_36) hx hb hr (fun t ht hW => ⟨⟨y_36, f_44, rfl, ⟨hG, (by constructor <;> omega), hfr0⟩, by rw [ht]; exact hP, va_K.moved hW.alike hK, pl_in hD⟩, hS.F ht⟩) hS.2.2 dX8_step_207
      refine lv_icmp_ge (tgt := 195) hx hb dX8_step_29 (by decide) (fun c_47 => ?_) (fun c_47 => ?_)
      · skip
        rw [Int32.le_iff_toInt_le, ti_8] at c_47
        exact hcut_41 ls (lv_sub hl [0, 1, 2, 3, 4, 5, 6, 7, 8] rfl)
      · skip
        rw [Int32.le_iff_toInt_le, ti_8] at c_47
        refine lv_iload hx hb dX8_step_32 (lv_at hl 2 rfl) ?_
        refine lv_iload hx hb dX8_step_34 (lv_at hl 0 rfl) ?_
        refine lv_ishr hx hb dX8_step_36 ?_
        refine lv_topi (fun x_48 ex_48 => ?_)
        have bx_48 : ((-2147483648) ≤ x_48.toInt ∧ x_48.toInt ≤ 2147483647) := ⟨i32_lo _, i32_hi _⟩
        refine lv_if_eq (tgt := 195) hx hb dX8_step_37 (by decide) (fun c_49 => ?_) (fun c_49 => ?_)
        · skip
          rw [← Int32.toInt_inj, ti_0] at c_49
          exact hcut_41 ls (lv_sub hl [0, 1, 2, 3, 4, 5, 6, 7, 8] rfl)
        · skip
          rw [← Int32.toInt_inj, ti_0] at c_49
          refine lv_iload hx hb dX8_step_40 (lv_at hl 2 rfl) ?_
          refine lv_iload hx hb dX8_step_42 (lv_at hl 0 rfl) ?_
          refine lv_ishr hx hb dX8_step_44 ?_
          refine lv_topi (fun x_50 ex_50 => ?_)
          have bx_50 : ((-2147483648) ≤ x_50.toInt ∧ x_50.toInt ≤ 2147483647) := ⟨i32_lo _, i32_hi _⟩
          refine lv_iconst (v := 1) hx hb dX8_step_45 (by decide) ?_
          refine lv_iand hx hb dX8_step_46 ?_
          refine lv_topi (fun x_51 ex_51 => ?_)
          have bx_51 : (0 ≤ x_51.toInt ∧ x_51.toInt ≤ 1) := by rw [ex_51]; have h8 := an_C x_50 (m := 1) (by decide); rw [ti_1] at h8; exact h8
          refine lv_iconst (v := 1) hx hb dX8_step_47 (by decide) ?_
          have hcut_57 : ∀ (y_52 : Int32), (0 ≤ y_52.toInt ∧ y_52.toInt ≤ 255) → ∀ (f_54 : Nat → va_E), GI (okc cI cL cZ cR cG cH L kd) kd L f_54 → ∀ (H : Heap) (locs : List Loc), va_P (dC, dI) vwCl (va_pl L f_54) H → va_S (fun q => q ∈ L) s.heap H locs → va_D (fun q => q ∈ L) (va_pl L f_54) → (∀ b, kd b ≠ 517 → kd b ≠ 518 → kd b ≠ 519 → kd b ≠ 520 → f_54 b = f b) → (f_54 o0 = .inr (8, [.ref a_2, .ref a_3, .ref a_4, .ref a_5, .ref a_6])) → (f_54 a_6 = .inl (cI, 10, .inl g_8)) → ∀ (ls : Array Slot), lv_has ls 12 [(8, .int y_35), (7, .int x_12), (6, .int x_11), (5, .int y_52), (0, .ref o0), (1, .ref o1), (2, .int p2), (3, .int p3), (4, .int p4)] → W p l e (headSpec (wU yX8_step cX8_step 12 (some .int)) { frames := 2, cells := 0, slots := 0, locals := 56 }).room s m [.ref o0, .ref o1, .int p2, .int p3, .int p4].toArray below meth c H locs 0 0 (MQ below (va_Qi (fun (r : Int32) (f9 : Nat → va_E) => GI (okc cI cL cZ cR cG cH L kd) kd L f9 ∧ (0 ≤ r.toInt ∧ r.toInt ≤ 255) ∧ (∀ b, kd b ≠ 517 → kd b ≠ 518 → kd b ≠ 519 → kd b ≠ 520 → f9 b = f b)) (qP (dC, dI) cI cL cZ cR cG cH L) (fun q => q ∈ L)) [.ref o0, .ref o1, .int p2, .int p3, .int p4].toArray s 0 0 (fun q => q ∈ L)) (F0 m 189 ls []) := by
            intro y_52 by_52 f_54 hG H locs hP hS hD hfr0 hfo_55 hfo_56 ls hl
            obtain ⟨x_58, ex_58⟩ : ∃ y : Int32, y_35 + 1 = y := ⟨_, rfl⟩
            have hx_58 : x_58.toInt = y_35.toInt + 1 := by rw [← ex_58, ad_I (by rw [ti_1]; omega) (by rw [ti_1]; omega), ti_1]
            have bx_58 : (1 ≤ x_58.toInt ∧ x_58.toInt ≤ 8) := by constructor <;> omega
            refine lv_iinc (v := x_58) (lv' := [(8, .int x_58), (7, .int x_12), (6, .int x_11), (5, .int y_52), (0, .ref o0), (1, .ref o1), (2, .int p2), (3, .int p3), (4, .int p4)]) hx hb dX8_step_189 hl (k := 0) rfl ex_58 (by decide) rfl (fun ls hl => ?_)
            refine lv_goto (tgt := 25) hx hb dX8_step_192 (by decide) ?_
            exact ih_hloop_34 x_58 (by constructor <;> omega) y_52 (by constructor <;> omega) f_54 hG _ _ hP hS hD hfr0 hfo_55 hfo_56 (by omega) ls (lv_sub hl [0, 1, 2, 3, 4, 5, 6, 7, 8] rfl)
          refine lv_icmp_ne (tgt := 189) hx hb dX8_step_48 (by decide) (fun c_59 => ?_) (fun c_59 => ?_)
          · skip
            rw [← Int32.toInt_inj, ti_1] at c_59
            exact hcut_57 y_36 (by constructor <;> omega) f_38 hG _ _ hP hS hD hfr0 hfo_39 hfo_40 ls (lv_sub hl [0, 1, 2, 3, 4, 5, 6, 7, 8] rfl)
          · skip
            rw [← Int32.toInt_inj, ti_1] at c_59
            refine lv_aload_n hx hb dX8_step_51 rfl (lv_at hl 5 rfl) ?_
            obtain ⟨a_61, v_62, a_63, a_64, a_65, a_66, v_67, a_68, a_69, a_70, a_71, a_72, v_73, a_74, a_75, a_76, hfo_60, ⟨ma_61, ka_61⟩, bv_62, ⟨ma_63, ka_63⟩, ⟨ma_64, ka_64⟩, ⟨ma_65, ka_65⟩, ⟨ma_66, ka_66⟩, bv_67, ⟨ma_68, ka_68⟩, ⟨ma_69, ka_69⟩, ⟨ma_70, ka_70⟩, ⟨ma_71, ka_71⟩, ⟨ma_72, ka_72⟩, bv_73, ⟨ma_74, ka_74⟩, ⟨ma_75, ka_75⟩, ⟨ma_76, ka_76⟩⟩ := un_7 (hG _ mo1) ko1
            refine tk_getP (D := (dC, dI)) (ci := 7) (v := .ref a_72) (C := RX7) (T := TX7) (N := 16) hx hb hU inlX7 hown hK hP mo1 hfo_60 rfl 11 (by decide) (hU _ wd_760) (fun _ h9 => h9) rfl dX8_step_52 ?_
            refine lv_iload hx hb dX8_step_55 (lv_at hl 0 rfl) ?_
            obtain ⟨g_78, hfo_77, hbg_78⟩ := un_515 (hG _ ma_72) ka_72
            obtain ⟨a_79, hga_79, ma_79, ka_79⟩ := hbg_78 (Int32.toNatClampNeg y_35) (in_lt (vp_in_iff.mpr (by constructor <;> omega)))
            refine tk_aldP hx hb hK hP 3 ma_72 hfo_77 rfl (vp_in_iff.mpr (by constructor <;> omega)) hga_79 dX8_step_57 ?_
            refine lv_astore (lv' := [(9, .ref a_79), (8, .int y_35), (7, .int x_12), (6, .int x_11), (5, .int y_36), (0, .ref o0), (1, .ref o1), (2, .int p2), (3, .int p3), (4, .int p4)]) hx hb dX8_step_58 hl (by decide) rfl (fun ls hl => ?_)
            refine lv_iload hx hb dX8_step_60 (lv_at hl 2 rfl) ?_
            refine lv_iload hx hb dX8_step_62 (lv_at hl 1 rfl) ?_
            refine lv_iadd hx hb dX8_step_64 ?_
            refine lv_topi (fun x_80 ex_80 => ?_)
            have hx_80 : x_80.toInt = x_12.toInt + y_35.toInt := by rw [ex_80, ad_I (by omega) (by omega)]
            have bx_80 : (0 ≤ x_80.toInt ∧ x_80.toInt ≤ 71) := by constructor <;> omega
            refine lv_bipush (v := 8) hx hb dX8_step_65 (by decide) ?_
            refine lv_iadd hx hb dX8_step_67 ?_
            refine lv_topi (fun x_81 ex_81 => ?_)
            have hx_81 : x_81.toInt = x_80.toInt + 8 := by rw [ex_81, ad_I (by rw [ti_8]; omega) (by rw [ti_8]; omega), ti_8]
            have bx_81 : (8 ≤ x_81.toInt ∧ x_81.toInt ≤ 79) := by constructor <;> omega
            refine lv_istore (lv' := [(10, .int x_81), (9, .ref a_79), (8, .int y_35), (7, .int x_12), (6, .int x_11), (5, .int y_36), (0, .ref o0), (1, .ref o1), (2, .int p2), (3, .int p3), (4, .int p4)]) hx hb dX8_step_68 hl (by decide) rfl (fun ls hl => ?_)
            refine lv_aload_n hx hb dX8_step_70 rfl (lv_at hl 6 rfl) ?_
            refine tk_getP (D := (dC, dI)) (ci := 8) (v := .ref a_2) (C := RX8) (T := TX8) (N := 5) hx hb hU inlX8 hown hK hP mo0 hfo_39 rfl 0 (by decide) (hU _ wd_120) (fun _ h9 => h9) rfl dX8_step_71 ?_
            refine lv_iload hx hb dX8_step_74 (lv_at hl 0 rfl) ?_
            refine lv_aload hx hb dX8_step_76 (lv_at hl 1 rfl) ?_
            obtain ⟨v_83, v_84, v_85, v_86, a_87, a_88, a_89, a_90, v_91, v_92, v_93, hfo_82, bv_83, bv_84, bv_85, bv_86, ⟨ma_87, ka_87⟩, ⟨ma_88, ka_88⟩, ⟨ma_89, ka_89⟩, ⟨ma_90, ka_90⟩⟩ := un_4 (hG _ ma_79) ka_79
            have bv_91 : ((-2147483648) ≤ v_91.toInt ∧ v_91.toInt ≤ 2147483647) := ⟨i32_lo _, i32_hi _⟩
            have bv_92 : ((-2147483648) ≤ v_92.toInt ∧ v_92.toInt ≤ 2147483647) := ⟨i32_lo _, i32_hi _⟩
            have bv_93 : ((-2147483648) ≤ v_93.toInt ∧ v_93.toInt ≤ 2147483647) := ⟨i32_lo _, i32_hi _⟩
            refine tk_getP (D := (dC, dI)) (ci := 4) (v := .ref a_87) (C := RX4) (T := TX4) (N := 11) hx hb hU inlX4 hown hK hP ma_79 hfo_82 rfl 4 (by decide) (hU _ wd_829) (fun _ h9 => h9) rfl dX8_step_78 ?_
            refine lv_aload_n hx hb dX8_step_81 rfl (lv_at hl 6 rfl) ?_
            refine tk_getP (D := (dC, dI)) (ci := 8) (v := .ref a_2) (C := RX8) (T := TX8) (N := 5) hx hb hU inlX8 hown hK hP mo0 hfo_39 rfl 0 (by decide) (hU _ wd_120) (fun _ h9 => h9) rfl dX8_step_82 ?_
            refine lv_iload hx hb dX8_step_85 (lv_at hl 3 rfl) ?_
            refine lv_iload hx hb dX8_step_87 (lv_at hl 2 rfl) ?_
            refine lv_iadd hx hb dX8_step_89 ?_
            refine lv_topi (fun x_94 ex_94 => ?_)
            have hx_94 : x_94.toInt = x_12.toInt + y_35.toInt := by rw [ex_94, ad_I (by omega) (by omega)]
            have bx_94 : (0 ≤ x_94.toInt ∧ x_94.toInt ≤ 71) := by constructor <;> omega
            obtain ⟨g_96, hfo_95, hbg_96⟩ := un_517 (hG _ ma_2) ka_2
            refine tk_ildP hx hb hK hP 0 ma_2 hfo_95 rfl (vp_in_iff.mpr (by constructor <;> omega)) dX8_step_90 ?_
            refine lv_topi (fun x_97 ex_97 => ?_)
            have bx_97 : ((-2147483648) ≤ x_97.toInt ∧ x_97.toInt ≤ 2147483647) := ⟨i32_lo _, i32_hi _⟩
            refine lv_iload hx hb dX8_step_91 (lv_at hl 10 rfl) ?_
            obtain ⟨a_99, a_100, a_101, v_102, v_103, v_104, hfo_98, ⟨ma_99, ka_99⟩, ⟨ma_100, ka_100⟩, ⟨ma_101, ka_101⟩⟩ := un_5 (hG _ ma_87) ka_87
            have bv_102 : ((-2147483648) ≤ v_102.toInt ∧ v_102.toInt ≤ 2147483647) := ⟨i32_lo _, i32_hi _⟩
            have bv_103 : ((-2147483648) ≤ v_103.toInt ∧ v_103.toInt ≤ 2147483647) := ⟨i32_lo _, i32_hi _⟩
            have bv_104 : ((-2147483648) ≤ v_104.toInt ∧ v_104.toInt ≤ 2147483647) := ⟨i32_lo _, i32_hi _⟩
            refine tk_ViP (As := [.int x_97, .int p4]) (rest := [.int x_81, .ref a_2]) (n := 2) hx hb hml hown hU hN hZ (s_X5_step_k5 l (dC, dI) cI cL cZ cR cG cH Z kd L f_38 hG a_87 ma_87 ka_87 x_97 p4 (by constructor <;> omega)) wd_832 wd_833 wd_834 wd_102 wd_835 (by decide +kernel) ⟨Nat.le_of_ble_eq_true rfl, Nat.le_of_ble_eq_true rfl⟩ hK hP hD hS ma_87 hfo_98 5 rfl rfl rfl hl.1 rfl (Nat.le_of_ble_eq_true rfl) dX8_step_93 ⟨Nat.le_of_ble_eq_true rfl, Nat.le_of_ble_eq_true rfl⟩ (fun x_105 f_106 H locs hw hP hD hS => ?_)
            obtain ⟨rfl, bx_105⟩ := hw
            refine lv_aload hx hb dX8_step_96 (lv_at hl 1 rfl) ?_
            refine tk_getP (D := (dC, dI)) (ci := 4) (v := .int v_92) (C := RX4) (T := TX4) (N := 11) hx hb hU inlX4 hown hK hP ma_79 hfo_82 rfl 9 (by decide) (hU _ wd_830) (fun _ h9 => h9) rfl dX8_step_98 ?_
            refine lv_ior hx hb dX8_step_101 ?_
            refine lv_topi (fun x_108 ex_108 => ?_)
            have bx_108 : ((-2147483648) ≤ x_108.toInt ∧ x_108.toInt ≤ 2147483647) := ⟨i32_lo _, i32_hi _⟩
            refine tk_istP hx hb hK hP hD hS 0 ma_2 hfo_95 rfl (vp_in_iff.mpr (by constructor <;> omega)) dX8_step_102 (fun H locs hP hD hS => ?_)
            obtain ⟨f_110, ef_110⟩ : ∃ y : Nat → va_E, y = va_up f_38 a_2 (.inl (cI, 80, .inl (upd g_96 (Int32.toNatClampNeg x_81) x_108))) := ⟨_, rfl⟩
            have hP : va_P (dC, dI) vwCl (va_pl L f_110) H := by rw [ef_110]; exact hP
            have hD : va_D (fun q => q ∈ L) (va_pl L f_110) := by rw [ef_110]; exact hD
            have hG : GI (okc cI cL cZ cR cG cH L kd) kd L f_110 := by rw [ef_110]; exact hG.set a_2 (mk_517 ka_2 ⟨_, rfl, okI_up hbg_96 ⟨i32_lo _, i32_hi _⟩ _⟩)
            have hfo_111 : f_110 o0 = .inr (8, [.ref a_2, .ref a_3, .ref a_4, .ref a_5, .ref a_6]) := by rw [ef_110, up_ne (kd_ne ka_2 ko0 (by decide))]; exact hfo_39
            have hfo_112 : f_110 a_6 = .inl (cI, 10, .inl g_8) := by rw [ef_110, up_ne (kd_ne ka_2 ka_6 (by decide))]; exact hfo_40
            have hfo_113 : f_110 o1 = .inr (7, [.ref a_61, .int v_62, .ref a_63, .ref a_64, .ref a_65, .ref a_66, .int v_67, .ref a_68, .ref a_69, .ref a_70, .ref a_71, .ref a_72, .int v_73, .ref a_74, .ref a_75, .ref a_76]) := by rw [ef_110, up_ne (kd_ne ka_2 ko1 (by decide))]; exact hfo_60
            have hfo_114 : f_110 a_72 = .inl (cR, 8, .inr (.inr (.inr (.inr g_78)))) := by rw [ef_110, up_ne (kd_ne ka_2 ka_72 (by decide))]; exact hfo_77
            have hfo_115 : f_110 a_79 = .inr (4, [.int v_83, .int v_84, .int v_85, .int v_86, .ref a_87, .ref a_88, .ref a_89, .ref a_90, .int v_91, .int v_92, .int v_93]) := by rw [ef_110, up_ne (kd_ne ka_2 ka_79 (by decide))]; exact hfo_82
            have hfo_116 : f_110 a_87 = .inr (5, [.ref a_99, .ref a_100, .ref a_101, .int v_102, .int v_103, .int v_104]) := by rw [ef_110, up_ne (kd_ne ka_2 ka_87 (by decide))]; exact hfo_98
            have hfr0 : ∀ b, kd b ≠ 517 → kd b ≠ 518 → kd b ≠ 519 → kd b ≠ 520 → f_110 b = f b := fun b q517 q518 q519 q520 => (congrFun ef_110 b).trans ((up_ne (fun e9 => q517 (by rw [e9]; exact ka_2))).trans (hfr0 b q517 q518 q519 q520))
            have hfo_117 : f_110 a_2 = .inl (cI, 80, .inl (upd g_96 (Int32.toNatClampNeg x_81) x_108)) := by rw [ef_110]; exact up_self
            refine lv_aload_n hx hb dX8_step_103 rfl (lv_at hl 6 rfl) ?_
            refine tk_getP (D := (dC, dI)) (ci := 8) (v := .ref a_3) (C := RX8) (T := TX8) (N := 5) hx hb hU inlX8 hown hK hP mo0 hfo_111 rfl 1 (by decide) (hU _ wd_121) (fun _ h9 => h9) rfl dX8_step_104 ?_
            refine lv_iload hx hb dX8_step_107 (lv_at hl 0 rfl) ?_
            refine lv_iconst (v := 0) hx hb dX8_step_109 (by decide) ?_
            obtain ⟨g_119, hfo_118, hbg_119⟩ := un_517 (hG _ ma_3) ka_3
            refine tk_istP hx hb hK hP hD hS 0 ma_3 hfo_118 rfl (vp_in_iff.mpr (by constructor <;> omega)) dX8_step_110 (fun H locs hP hD hS => ?_)
            obtain ⟨f_121, ef_121⟩ : ∃ y : Nat → va_E, y = va_up f_110 a_3 (.inl (cI, 80, .inl (upd g_119 (Int32.toNatClampNeg x_81) 0))) := ⟨_, rfl⟩
            have hP : va_P (dC, dI) vwCl (va_pl L f_121) H := by rw [ef_121]; exact hP
            have hD : va_D (fun q => q ∈ L) (va_pl L f_121) := by rw [ef_121]; exact hD
            have hG : GI (okc cI cL cZ cR cG cH L kd) kd L f_121 := by rw [ef_121]; exact hG.set a_3 (mk_517 ka_3 ⟨_, rfl, okI_up hbg_119 ⟨i32_lo _, i32_hi _⟩ _⟩)
            have hfo_122 : f_121 o0 = .inr (8, [.ref a_2, .ref a_3, .ref a_4, .ref a_5, .ref a_6]) := by rw [ef_121, up_ne (kd_ne ka_3 ko0 (by decide))]; exact hfo_111
            have hfo_123 : f_121 a_6 = .inl (cI, 10, .inl g_8) := by rw [ef_121, up_ne (kd_ne ka_3 ka_6 (by decide))]; exact hfo_112
            have hfo_124 : f_121 o1 = .inr (7, [.ref a_61, .int v_62, .ref a_63, .ref a_64, .ref a_65, .ref a_66, .int v_67, .ref a_68, .ref a_69, .ref a_70, .ref a_71, .ref a_72, .int v_73, .ref a_74, .ref a_75, .ref a_76]) := by rw [ef_121, up_ne (kd_ne ka_3 ko1 (by decide))]; exact hfo_113
            have hfo_125 : f_121 a_72 = .inl (cR, 8, .inr (.inr (.inr (.inr g_78)))) := by rw [ef_121, up_ne (kd_ne ka_3 ka_72 (by decide))]; exact hfo_114
            have hfo_126 : f_121 a_79 = .inr (4, [.int v_83, .int v_84, .int v_85, .int v_86, .ref a_87, .ref a_88, .ref a_89, .ref a_90, .int v_91, .int v_92, .int v_93]) := by rw [ef_121, up_ne (kd_ne ka_3 ka_79 (by decide))]; exact hfo_115
            have hfo_127 : f_121 a_87 = .inr (5, [.ref a_99, .ref a_100, .ref a_101, .int v_102, .int v_103, .int v_104]) := by rw [ef_121, up_ne (kd_ne ka_3 ka_87 (by decide))]; exact hfo_116
            have hfr0 : ∀ b, kd b ≠ 517 → kd b ≠ 518 → kd b ≠ 519 → kd b ≠ 520 → f_121 b = f b := fun b q517 q518 q519 q520 => (congrFun ef_121 b).trans ((up_ne (fun e9 => q517 (by rw [e9]; exact ka_3))).trans (hfr0 b q517 q518 q519 q520))
            have hfo_128 : f_121 a_3 = .inl (cI, 80, .inl (upd g_119 (Int32.toNatClampNeg x_81) 0)) := by rw [ef_121]; exact up_self
            refine lv_aload_n hx hb dX8_step_111 rfl (lv_at hl 6 rfl) ?_
            refine tk_getP (D := (dC, dI)) (ci := 8) (v := .ref a_4) (C := RX8) (T := TX8) (N := 5) hx hb hU inlX8 hown hK hP mo0 hfo_122 rfl 2 (by decide) (hU _ wd_122) (fun _ h9 => h9) rfl dX8_step_112 ?_
            refine lv_iload hx hb dX8_step_115 (lv_at hl 0 rfl) ?_
            refine lv_iconst (v := 0) hx hb dX8_step_117 (by decide) ?_
            obtain ⟨g_130, hfo_129, hbg_130⟩ := un_518 (hG _ ma_4) ka_4
            refine tk_istP hx hb hK hP hD hS 0 ma_4 hfo_129 rfl (vp_in_iff.mpr (by constructor <;> omega)) dX8_step_118 (fun H locs hP hD hS => ?_)
            obtain ⟨f_132, ef_132⟩ : ∃ y : Nat → va_E, y = va_up f_121 a_4 (.inl (cI, 80, .inl (upd g_130 (Int32.toNatClampNeg x_81) 0))) := ⟨_, rfl⟩
            have hP : va_P (dC, dI) vwCl (va_pl L f_132) H := by rw [ef_132]; exact hP
            have hD : va_D (fun q => q ∈ L) (va_pl L f_132) := by rw [ef_132]; exact hD
            have hG : GI (okc cI cL cZ cR cG cH L kd) kd L f_132 := by rw [ef_132]; exact hG.set a_4 (mk_518 ka_4 ⟨_, rfl, okI_up hbg_130 (by decide) _⟩)
            have hfo_133 : f_132 o0 = .inr (8, [.ref a_2, .ref a_3, .ref a_4, .ref a_5, .ref a_6]) := by rw [ef_132, up_ne (kd_ne ka_4 ko0 (by decide))]; exact hfo_122
            have hfo_134 : f_132 a_6 = .inl (cI, 10, .inl g_8) := by rw [ef_132, up_ne (kd_ne ka_4 ka_6 (by decide))]; exact hfo_123
            have hfo_135 : f_132 o1 = .inr (7, [.ref a_61, .int v_62, .ref a_63, .ref a_64, .ref a_65, .ref a_66, .int v_67, .ref a_68, .ref a_69, .ref a_70, .ref a_71, .ref a_72, .int v_73, .ref a_74, .ref a_75, .ref a_76]) := by rw [ef_132, up_ne (kd_ne ka_4 ko1 (by decide))]; exact hfo_124
            have hfo_136 : f_132 a_72 = .inl (cR, 8, .inr (.inr (.inr (.inr g_78)))) := by rw [ef_132, up_ne (kd_ne ka_4 ka_72 (by decide))]; exact hfo_125
            have hfo_137 : f_132 a_79 = .inr (4, [.int v_83, .int v_84, .int v_85, .int v_86, .ref a_87, .ref a_88, .ref a_89, .ref a_90, .int v_91, .int v_92, .int v_93]) := by rw [ef_132, up_ne (kd_ne ka_4 ka_79 (by decide))]; exact hfo_126
            have hfo_138 : f_132 a_87 = .inr (5, [.ref a_99, .ref a_100, .ref a_101, .int v_102, .int v_103, .int v_104]) := by rw [ef_132, up_ne (kd_ne ka_4 ka_87 (by decide))]; exact hfo_127
            have hfr0 : ∀ b, kd b ≠ 517 → kd b ≠ 518 → kd b ≠ 519 → kd b ≠ 520 → f_132 b = f b := fun b q517 q518 q519 q520 => (congrFun ef_132 b).trans ((up_ne (fun e9 => q518 (by rw [e9]; exact ka_4))).trans (hfr0 b q517 q518 q519 q520))
            have hfo_139 : f_132 a_4 = .inl (cI, 80, .inl (upd g_130 (Int32.toNatClampNeg x_81) 0)) := by rw [ef_132]; exact up_self
            refine lv_aload hx hb dX8_step_119 (lv_at hl 1 rfl) ?_
            refine tk_getP (D := (dC, dI)) (ci := 4) (v := .ref a_89) (C := RX4) (T := TX4) (N := 11) hx hb hU inlX4 hown hK hP ma_79 hfo_137 rfl 6 (by decide) (hU _ wd_831) (fun _ h9 => h9) rfl dX8_step_121 ?_
            refine lv_iload hx hb dX8_step_124 (lv_at hl 10 rfl) ?_
            obtain ⟨g_141, hfo_140, hbg_141⟩ := un_502 (hG _ ma_89) ka_89
            refine tk_ildP hx hb hK hP 0 ma_89 hfo_140 rfl (vp_in_iff.mpr (by constructor <;> omega)) dX8_step_126 ?_
            refine lv_topi (fun x_142 ex_142 => ?_)
            have bx_142 : (0 ≤ x_142.toInt ∧ x_142.toInt ≤ 2) := by rw [ex_142]; exact hbg_141 _
            refine lv_aload_n hx hb dX8_step_127 rfl (lv_at hl 6 rfl) ?_
            refine tk_getP (D := (dC, dI)) (ci := 8) (v := .ref a_3) (C := RX8) (T := TX8) (N := 5) hx hb hU inlX8 hown hK hP mo0 hfo_133 rfl 1 (by decide) (hU _ wd_121) (fun _ h9 => h9) rfl dX8_step_128 ?_
            refine lv_iload hx hb dX8_step_131 (lv_at hl 3 rfl) ?_
            refine lv_iload hx hb dX8_step_133 (lv_at hl 2 rfl) ?_
            refine lv_iadd hx hb dX8_step_135 ?_
            refine lv_topi (fun x_143 ex_143 => ?_)
            have hx_143 : x_143.toInt = x_12.toInt + y_35.toInt := by rw [ex_143, ad_I (by omega) (by omega)]
            have bx_143 : (0 ≤ x_143.toInt ∧ x_143.toInt ≤ 71) := by constructor <;> omega
            obtain ⟨g_145, hfo_144, hbg_145⟩ := un_517 (hG _ ma_3) ka_3
            refine tk_ildP hx hb hK hP 0 ma_3 hfo_144 rfl (vp_in_iff.mpr (by constructor <;> omega)) dX8_step_136 ?_
            refine lv_topi (fun x_146 ex_146 => ?_)
            have bx_146 : ((-2147483648) ≤ x_146.toInt ∧ x_146.toInt ≤ 2147483647) := ⟨i32_lo _, i32_hi _⟩
            refine lv_ior hx hb dX8_step_137 ?_
            refine lv_topi (fun x_147 ex_147 => ?_)
            have bx_147 : ((-2147483648) ≤ x_147.toInt ∧ x_147.toInt ≤ 2147483647) := ⟨i32_lo _, i32_hi _⟩
            refine lv_aload_n hx hb dX8_step_138 rfl (lv_at hl 6 rfl) ?_
            refine tk_getP (D := (dC, dI)) (ci := 8) (v := .ref a_4) (C := RX8) (T := TX8) (N := 5) hx hb hU inlX8 hown hK hP mo0 hfo_133 rfl 2 (by decide) (hU _ wd_122) (fun _ h9 => h9) rfl dX8_step_139 ?_
            refine lv_iload hx hb dX8_step_142 (lv_at hl 3 rfl) ?_
            refine lv_iload hx hb dX8_step_144 (lv_at hl 2 rfl) ?_
            refine lv_iadd hx hb dX8_step_146 ?_
            refine lv_topi (fun x_148 ex_148 => ?_)
            have hx_148 : x_148.toInt = x_12.toInt + y_35.toInt := by rw [ex_148, ad_I (by omega) (by omega)]
            have bx_148 : (0 ≤ x_148.toInt ∧ x_148.toInt ≤ 71) := by constructor <;> omega
            obtain ⟨g_150, hfo_149, hbg_150⟩ := un_518 (hG _ ma_4) ka_4
            refine tk_ildP hx hb hK hP 0 ma_4 hfo_149 rfl (vp_in_iff.mpr (by constructor <;> omega)) dX8_step_147 ?_
            refine lv_topi (fun x_151 ex_151 => ?_)
            have bx_151 : (0 ≤ x_151.toInt ∧ x_151.toInt ≤ 10) := by rw [ex_151]; exact hbg_150 _
            refine lv_ior hx hb dX8_step_148 ?_
            refine lv_topi (fun x_152 ex_152 => ?_)
            have bx_152 : ((-2147483648) ≤ x_152.toInt ∧ x_152.toInt ≤ 2147483647) := ⟨i32_lo _, i32_hi _⟩
            have hcut_154 : ∀ (y_153 : Int32), (0 ≤ y_153.toInt ∧ y_153.toInt ≤ 1) → ∀ (ls : Array Slot), lv_has ls 12 [(10, .int x_81), (9, .ref a_79), (8, .int y_35), (7, .int x_12), (6, .int x_11), (5, .int y_36), (0, .ref o0), (1, .ref o1), (2, .int p2), (3, .int p3), (4, .int p4)] → W p l e (headSpec (wU yX8_step cX8_step 12 (some .int)) { frames := 2, cells := 0, slots := 0, locals := 56 }).room s m [.ref o0, .ref o1, .int p2, .int p3, .int p4].toArray below meth c H locs 0 0 (MQ below (va_Qi (fun (r : Int32) (f9 : Nat → va_E) => GI (okc cI cL cZ cR cG cH L kd) kd L f9 ∧ (0 ≤ r.toInt ∧ r.toInt ≤ 255) ∧ (∀ b, kd b ≠ 517 → kd b ≠ 518 → kd b ≠ 519 → kd b ≠ 520 → f9 b = f b)) (qP (dC, dI) cI cL cZ cR cG cH L) (fun q => q ∈ L)) [.ref o0, .ref o1, .int p2, .int p3, .int p4].toArray s 0 0 (fun q => q ∈ L)) (F0 m 157 ls [.int y_153]) := by
              intro y_153 by_153 ls hl
              refine lv_istore (lv' := [(11, .int y_153), (10, .int x_81), (9, .ref a_79), (8, .int y_35), (7, .int x_12), (6, .int x_11), (5, .int y_36), (0, .ref o0), (1, .ref o1), (2, .int p2), (3, .int p3), (4, .int p4)]) hx hb dX8_step_157 hl (by decide) rfl (fun ls hl => ?_)
              refine lv_iload hx hb dX8_step_159 (lv_at hl 0 rfl) ?_
              refine lv_if_ne (tgt := 189) hx hb dX8_step_161 (by decide) (fun c_155 => ?_) (fun c_155 => ?_)
              · skip
                rw [← Int32.toInt_inj, ti_0] at c_155
                exact hcut_57 y_36 (by constructor <;> omega) f_132 hG _ _ hP hS hD hfr0 hfo_133 hfo_134 ls (lv_sub hl [3, 4, 5, 6, 7, 8, 9, 10, 11] rfl)
              · skip
                rw [← Int32.toInt_inj, ti_0] at c_155
                refine lv_aload_n hx hb dX8_step_164 rfl (lv_at hl 7 rfl) ?_
                refine lv_aload hx hb dX8_step_165 (lv_at hl 2 rfl) ?_
                refine lv_iload hx hb dX8_step_167 (lv_at hl 4 rfl) ?_
                refine lv_iload hx hb dX8_step_169 (lv_at hl 3 rfl) ?_
                refine lv_iadd hx hb dX8_step_171 ?_
                refine lv_topi (fun x_156 ex_156 => ?_)
                have hx_156 : x_156.toInt = x_12.toInt + y_35.toInt := by rw [ex_156, ad_I (by omega) (by omega)]
                have bx_156 : (0 ≤ x_156.toInt ∧ x_156.toInt ≤ 71) := by constructor <;> omega
                refine lv_iload hx hb dX8_step_172 (lv_at hl 11 rfl) ?_
                refine tk_ViP (As := [.ref a_79, .int x_156, .int p4]) (rest := []) (n := 3) hx hb hml hown hU hN hZ (s_X8_advance_k8_k4 l (dC, dI) cI cL cZ cR cG cH Z kd L f_132 hG o0 mo0 ko0 a_79 ma_79 ka_79 x_156 (by constructor <;> omega) p4 (by constructor <;> omega)) wd_836 wd_837 wd_838 wd_55 wd_839 (by decide +kernel) ⟨Nat.le_of_ble_eq_true rfl, Nat.le_of_ble_eq_true rfl⟩ hK hP hD hS mo0 hfo_133 8 rfl rfl rfl hl.1 rfl (Nat.le_of_ble_eq_true rfl) dX8_step_174 ⟨Nat.le_of_ble_eq_true rfl, Nat.le_of_ble_eq_true rfl⟩ (fun x_157 f_158 H locs hw hP hD hS => ?_)
                obtain ⟨hG, bx_157, hkc_159⟩ := hw
                have hfo_161 : f_158 o0 = .inr (8, [.ref a_2, .ref a_3, .ref a_4, .ref a_5, .ref a_6]) := by rw [hkc_159 o0 (by rw [ko0]; decide) (by rw [ko0]; decide) (by rw [ko0]; decide)]; exact hfo_133
                have hfo_162 : f_158 a_6 = .inl (cI, 10, .inl g_8) := by rw [hkc_159 a_6 (by rw [ka_6]; decide) (by rw [ka_6]; decide) (by rw [ka_6]; decide)]; exact hfo_134
                have hfo_163 : f_158 o1 = .inr (7, [.ref a_61, .int v_62, .ref a_63, .ref a_64, .ref a_65, .ref a_66, .int v_67, .ref a_68, .ref a_69, .ref a_70, .ref a_71, .ref a_72, .int v_73, .ref a_74, .ref a_75, .ref a_76]) := by rw [hkc_159 o1 (by rw [ko1]; decide) (by rw [ko1]; decide) (by rw [ko1]; decide)]; exact hfo_135
                have hfo_164 : f_158 a_72 = .inl (cR, 8, .inr (.inr (.inr (.inr g_78)))) := by rw [hkc_159 a_72 (by rw [ka_72]; decide) (by rw [ka_72]; decide) (by rw [ka_72]; decide)]; exact hfo_136
                have hfo_165 : f_158 a_79 = .inr (4, [.int v_83, .int v_84, .int v_85, .int v_86, .ref a_87, .ref a_88, .ref a_89, .ref a_90, .int v_91, .int v_92, .int v_93]) := by rw [hkc_159 a_79 (by rw [ka_79]; decide) (by rw [ka_79]; decide) (by rw [ka_79]; decide)]; exact hfo_137
                have hfo_166 : f_158 a_87 = .inr (5, [.ref a_99, .ref a_100, .ref a_101, .int v_102, .int v_103, .int v_104]) := by rw [hkc_159 a_87 (by rw [ka_87]; decide) (by rw [ka_87]; decide) (by rw [ka_87]; decide)]; exact hfo_138
                have hfo_167 : f_158 a_89 = .inl (cI, 20, .inl g_141) := by rw [hkc_159 a_89 (by rw [ka_89]; decide) (by rw [ka_89]; decide) (by rw [ka_89]; decide)]; exact hfo_140
                have hfr0 : ∀ b, kd b ≠ 517 → kd b ≠ 518 → kd b ≠ 519 → kd b ≠ 520 → f_158 b = f b := fun b q517 q518 q519 q520 => (hkc_159 b q517 q518 q519).trans (hfr0 b q517 q518 q519 q520)
                refine lv_if_eq (tgt := 189) hx hb dX8_step_177 (by decide) (fun c_168 => ?_) (fun c_168 => ?_)
                · skip
                  rw [← Int32.toInt_inj, ti_0] at c_168
                  exact hcut_57 y_36 (by constructor <;> omega) f_158 hG _ _ hP hS hD hfr0 hfo_161 hfo_162 ls (lv_sub hl [3, 4, 5, 6, 7, 8, 9, 10, 11] rfl)
                · skip
                  rw [← Int32.toInt_inj, ti_0] at c_168
                  refine lv_iload hx hb dX8_step_180 (lv_at hl 6 rfl) ?_
                  refine lv_iconst (v := 1) hx hb dX8_step_182 (by decide) ?_
                  refine lv_iload hx hb dX8_step_183 (lv_at hl 3 rfl) ?_
                  refine lv_ishl hx hb dX8_step_185 ?_
                  refine lv_topi (fun x_169 ex_169 => ?_)
                  have bx_169 : (1 ≤ x_169.toInt ∧ x_169.toInt ≤ 128) := by rw [ex_169]; exact sh_7 (by constructor <;> omega)
                  refine lv_ior hx hb dX8_step_186 ?_
                  refine lv_topi (fun x_170 ex_170 => ?_)
                  have bx_170 : (0 ≤ x_170.toInt ∧ x_170.toInt ≤ 255) := by rw [ex_170]; exact or_K 8 (by decide) (by constructor <;> omega) (by constructor <;> omega)
                  refine lv_istore (lv' := [(5, .int x_170), (11, .int y_153), (10, .int x_81), (9, .ref a_79), (8, .int y_35), (7, .int x_12), (6, .int x_11), (0, .ref o0), (1, .ref o1), (2, .int p2), (3, .int p3), (4, .int p4)]) hx hb dX8_step_187 hl (by decide) rfl (fun ls hl => ?_)
                  exact hcut_57 x_170 (by constructor <;> omega) f_158 hG _ _ hP hS hD hfr0 hfo_161 hfo_162 ls (lv_sub hl [4, 5, 6, 0, 7, 8, 9, 10, 11] rfl)
            refine lv_if_ne (tgt := 156) hx hb dX8_step_149 (by decide) (fun c_171 => ?_) (fun c_171 => ?_)
            · skip
              rw [← Int32.toInt_inj, ti_0] at c_171
              refine lv_iconst (v := 0) hx hb dX8_step_156 (by decide) ?_
              exact hcut_154 0 (by decide) ls (lv_sub hl [0, 1, 2, 3, 4, 5, 6, 7, 8, 9, 10] rfl)
            · skip
              rw [← Int32.toInt_inj, ti_0] at c_171
              refine lv_iconst (v := 1) hx hb dX8_step_152 (by decide) ?_
              refine lv_goto (tgt := 157) hx hb dX8_step_153 (by decide) ?_
              exact hcut_154 1 (by decide) ls (lv_sub hl [0, 1, 2, 3, 4, 5, 6, 7, 8, 9, 10] rfl)
  exact hloop_34 9 0 (by decide) x_9 (by constructor <;> omega) f hG _ _ hP hS hD hfr0 hfo_1 hfo_7 (by (try rw [ti_0]) <;> omega) ls hl
set_option maxHeartbeats 8000000 in
set_option maxRecDepth 100000 in
theorem s_X0_wordCount_k0 (l : Launch) (D : va_G) (cI cL cZ cR cG cH : ClassId) (Z : zT) (kd : Nat → Nat) (L : List Nat) (f : Nat → va_E) (hG : GI (okc cI cL cZ cR cG cH L kd) kd L f) (o0 : Nat) (mo0 : o0 ∈ L) (ko0 : kd o0 = 0) (p1 : Int32) (bp1 : (0 ≤ p1.toInt ∧ p1.toInt ≤ 8)) : mPI l D cI cL cZ cR cG cH Z yX0_wordCount cX0_wordCount 2 (some .int) 0 0 [.ref o0, .int p1] L f (fun (r : Int32) (f9 : Nat → va_E) => f = f9 ∧ (0 ≤ r.toInt ∧ r.toInt ≤ 72)) := by
  obtain ⟨dC, dI⟩ := D
  refine Met.ofW (cc := cX0_wordCount) (maxL := 2) (ret := (some .int)) (by decide) rfl ?_
  intro p e s m args below meth c s₁ B hml hv
  obtain ⟨rfl, hP, hK, hD0, hN, hZ⟩ := hv
  have hx := B.exec
  have hb := B.bytes
  have hr := B.returns
  have hU : ∀ w ∈ wsU, w.before _ s = true := fun w h => atoms_spec (ws := wU yX0_wordCount cX0_wordCount 2 (some .int)) B.pre w (List.mem_cons_of_mem _ h)
  have hown : s.vm.findClass RX0 = some m.cls := findClass_of_methodNamed B.named
  have hlocks := B.notSynchronized
  have hD := pl_in hD0
  have hS : va_S (fun q => q ∈ L) s.heap s.heap [] := va_S.rf
  have hl := lv_entry ([.ref o0, .int p1]) (n := 2) (Nat.le_of_ble_eq_true rfl)
  rw [lg_entry_eq]
  generalize (lg_sl ([.ref o0, .int p1]) ++ List.replicate (2 - (lg_sl ([.ref o0, .int p1])).length) Slot.unset).toArray = ls at hl ⊢
  have hl : lv_has ls 2 [(0, .ref o0), (1, .int p1)] := hl
  refine lv_aload_n hx hb dX0_wordCount_0 rfl (lv_at hl 0 rfl) ?_
  obtain ⟨a_2, a_3, a_4, v_5, a_6, a_7, a_8, v_9, a_10, v_11, v_12, hfo_1, ⟨ma_2, ka_2⟩, ⟨ma_3, ka_3⟩, ⟨ma_4, ka_4⟩, bv_5, ⟨ma_6, ka_6⟩, ⟨ma_7, ka_7⟩, ⟨ma_8, ka_8⟩, ⟨ma_10, ka_10⟩⟩ := un_0 (hG _ mo0) ko0
  have bv_9 : ((-2147483648) ≤ v_9.toInt ∧ v_9.toInt ≤ 2147483647) := ⟨i32_lo _, i32_hi _⟩
  have bv_11 : ((-2147483648) ≤ v_11.toInt ∧ v_11.toInt ≤ 2147483647) := ⟨i32_lo _, i32_hi _⟩
  have bv_12 : ((-2147483648) ≤ v_12.toInt ∧ v_12.toInt ≤ 2147483647) := ⟨i32_lo _, i32_hi _⟩
  refine tk_getP (D := (dC, dI)) (ci := 0) (v := .int v_11) (C := RX0) (T := TX0) (N := 11) hx hb hU inlX0 hown hK hP mo0 hfo_1 rfl 9 (by decide) (hU _ wd_1194) (fun _ h9 => h9) rfl dX0_wordCount_1 ?_
  refine lv_iconst (v := 2) hx hb dX0_wordCount_4 (by decide) ?_
  refine lv_icmp_ne (tgt := 16) hx hb dX0_wordCount_5 (by decide) (fun c_13 => ?_) (fun c_13 => ?_)
  · skip
    rw [← Int32.toInt_inj, ti_2] at c_13
    refine lv_iload_n hx hb dX0_wordCount_16 rfl (lv_at hl 1 rfl) ?_
    exact W.iret (v := p1) hx hb hr (fun t ht hW => ⟨⟨p1, f, rfl, ⟨rfl, (by constructor <;> omega)⟩, by rw [ht]; exact hP, va_K.moved hW.alike hK, pl_in hD⟩, hS.F ht⟩) hS.2.2 dX0_wordCount_17
  · skip
    rw [← Int32.toInt_inj, ti_2] at c_13
    refine lv_iload_n hx hb dX0_wordCount_8 rfl (lv_at hl 1 rfl) ?_
    refine lv_iload_n hx hb dX0_wordCount_9 rfl (lv_at hl 1 rfl) ?_
    refine lv_iload_n hx hb dX0_wordCount_10 rfl (lv_at hl 1 rfl) ?_
    refine lv_imul hx hb dX0_wordCount_11 ?_
    refine lv_topi (fun x_14 ex_14 => ?_)
    have bx_14 : (0 ≤ x_14.toInt ∧ x_14.toInt ≤ 64) := by rw [ex_14]; exact ml_B (a := 8) (b := 8) (by constructor <;> omega) (by constructor <;> omega) (by decide)
    refine lv_iadd hx hb dX0_wordCount_12 ?_
    refine lv_topi (fun x_15 ex_15 => ?_)
    have hx_15 : x_15.toInt = p1.toInt + x_14.toInt := by rw [ex_15, ad_I (by omega) (by omega)]
    have bx_15 : (0 ≤ x_15.toInt ∧ x_15.toInt ≤ 72) := by constructor <;> omega
    refine lv_goto (tgt := 17) hx hb dX0_wordCount_13 (by decide) ?_
    exact W.iret (v := x_15) hx hb hr (fun t ht hW => ⟨⟨x_15, f, rfl, ⟨rfl, (by constructor <;> omega)⟩, by rw [ht]; exact hP, va_K.moved hW.alike hK, pl_in hD⟩, hS.F ht⟩) hS.2.2 dX0_wordCount_17
set_option maxHeartbeats 8000000 in
set_option maxRecDepth 100000 in
theorem s_X0_numberOf (l : Launch) (D : va_G) (cI cL cZ cR cG cH : ClassId) (Z : zT) (kd : Nat → Nat) (L : List Nat) (f : Nat → va_E) (hG : GI (okc cI cL cZ cR cG cH L kd) kd L f) (p0 : Int32) (bp0 : (0 ≤ p0.toInt ∧ p0.toInt ≤ 8)) (p1 : Int32) (bp1 : (0 ≤ p1.toInt ∧ p1.toInt ≤ 8)) : mPI l D cI cL cZ cR cG cH Z yX0_numberOf cX0_numberOf 2 (some .int) 0 0 [.int p0, .int p1] L f (fun (r : Int32) (f9 : Nat → va_E) => f = f9 ∧ (0 ≤ r.toInt ∧ r.toInt ≤ 72)) := by
  obtain ⟨dC, dI⟩ := D
  refine Met.ofW (cc := cX0_numberOf) (maxL := 2) (ret := (some .int)) (by decide) rfl ?_
  intro p e s m args below meth c s₁ B hml hv
  obtain ⟨rfl, hP, hK, hD0, hN, hZ⟩ := hv
  have hx := B.exec
  have hb := B.bytes
  have hr := B.returns
  have hU : ∀ w ∈ wsU, w.before _ s = true := fun w h => atoms_spec (ws := wU yX0_numberOf cX0_numberOf 2 (some .int)) B.pre w (List.mem_cons_of_mem _ h)
  have hown : s.vm.findClass RX0 = some m.cls := findClass_of_methodNamed B.named
  have hlocks := B.notSynchronized
  have hD := pl_in hD0
  have hS : va_S (fun q => q ∈ L) s.heap s.heap [] := va_S.rf
  have hl := lv_entry ([.int p0, .int p1]) (n := 2) (Nat.le_of_ble_eq_true rfl)
  rw [lg_entry_eq]
  generalize (lg_sl ([.int p0, .int p1]) ++ List.replicate (2 - (lg_sl ([.int p0, .int p1])).length) Slot.unset).toArray = ls at hl ⊢
  have hl : lv_has ls 2 [(0, .int p0), (1, .int p1)] := hl
  refine lv_iload_n hx hb dX0_numberOf_0 rfl (lv_at hl 0 rfl) ?_
  refine lv_if_ne (tgt := 6) hx hb dX0_numberOf_1 (by decide) (fun c_1 => ?_) (fun c_1 => ?_)
  · skip
    rw [← Int32.toInt_inj, ti_0] at c_1
    refine lv_iload_n hx hb dX0_numberOf_6 rfl (lv_at hl 1 rfl) ?_
    refine lv_if_ne (tgt := 14) hx hb dX0_numberOf_7 (by decide) (fun c_2 => ?_) (fun c_2 => ?_)
    · skip
      rw [← Int32.toInt_inj, ti_0] at c_2
      refine lv_bipush (v := 9) hx hb dX0_numberOf_14 (by decide) ?_
      refine lv_iload_n hx hb dX0_numberOf_16 rfl (lv_at hl 0 rfl) ?_
      refine lv_iconst (v := 1) hx hb dX0_numberOf_17 (by decide) ?_
      refine lv_isub hx hb dX0_numberOf_18 ?_
      refine lv_topi (fun x_3 ex_3 => ?_)
      have hx_3 : x_3.toInt = p0.toInt - 1 := by rw [ex_3, sb_I (by rw [ti_1]; omega) (by rw [ti_1]; omega), ti_1]
      have bx_3 : (0 ≤ x_3.toInt ∧ x_3.toInt ≤ 7) := by constructor <;> omega
      refine lv_bipush (v := 8) hx hb dX0_numberOf_19 (by decide) ?_
      refine lv_imul hx hb dX0_numberOf_21 ?_
      refine lv_topi (fun x_4 ex_4 => ?_)
      have hx_4 : x_4.toInt = x_3.toInt * 8 := by rw [ex_4, ml_I (by rw [ti_8]; omega) (by rw [ti_8]; omega), ti_8]
      have bx_4 : (0 ≤ x_4.toInt ∧ x_4.toInt ≤ 56) := by constructor <;> omega
      refine lv_iadd hx hb dX0_numberOf_22 ?_
      refine lv_topi (fun x_5 ex_5 => ?_)
      have hx_5 : x_5.toInt = 9 + x_4.toInt := by rw [ex_5, ad_I (by rw [ti_9]; omega) (by rw [ti_9]; omega), ti_9]
      have bx_5 : (9 ≤ x_5.toInt ∧ x_5.toInt ≤ 65) := by constructor <;> omega
      refine lv_iload_n hx hb dX0_numberOf_23 rfl (lv_at hl 1 rfl) ?_
      refine lv_iadd hx hb dX0_numberOf_24 ?_
      refine lv_topi (fun x_6 ex_6 => ?_)
      have hx_6 : x_6.toInt = x_5.toInt + p1.toInt := by rw [ex_6, ad_I (by omega) (by omega)]
      have bx_6 : (10 ≤ x_6.toInt ∧ x_6.toInt ≤ 73) := by constructor <;> omega
      refine lv_iconst (v := 1) hx hb dX0_numberOf_25 (by decide) ?_
      refine lv_isub hx hb dX0_numberOf_26 ?_
      refine lv_topi (fun x_7 ex_7 => ?_)
      have hx_7 : x_7.toInt = x_6.toInt - 1 := by rw [ex_7, sb_I (by rw [ti_1]; omega) (by rw [ti_1]; omega), ti_1]
      have bx_7 : (9 ≤ x_7.toInt ∧ x_7.toInt ≤ 72) := by constructor <;> omega
      exact W.iret (v := x_7) hx hb hr (fun t ht hW => ⟨⟨x_7, f, rfl, ⟨rfl, (by constructor <;> omega)⟩, by rw [ht]; exact hP, va_K.moved hW.alike hK, pl_in hD⟩, hS.F ht⟩) hS.2.2 dX0_numberOf_27
    · skip
      rw [← Int32.toInt_inj, ti_0] at c_2
      refine lv_iload_n hx hb dX0_numberOf_10 rfl (lv_at hl 0 rfl) ?_
      refine lv_goto (tgt := 27) hx hb dX0_numberOf_11 (by decide) ?_
      exact W.iret (v := p0) hx hb hr (fun t ht hW => ⟨⟨p0, f, rfl, ⟨rfl, (by constructor <;> omega)⟩, by rw [ht]; exact hP, va_K.moved hW.alike hK, pl_in hD⟩, hS.F ht⟩) hS.2.2 dX0_numberOf_27
  · skip
    rw [← Int32.toInt_inj, ti_0] at c_1
    refine lv_iconst (v := 0) hx hb dX0_numberOf_4 (by decide) ?_
    exact W.iret (v := 0) hx hb hr (fun t ht hW => ⟨⟨0, f, rfl, ⟨rfl, (by decide)⟩, by rw [ht]; exact hP, va_K.moved hW.alike hK, pl_in hD⟩, hS.F ht⟩) hS.2.2 dX0_numberOf_5
set_option maxHeartbeats 8000000 in
set_option maxRecDepth 100000 in
theorem s_X0_judge_k0 (l : Launch) (D : va_G) (cI cL cZ cR cG cH : ClassId) (Z : zT) (kd : Nat → Nat) (L : List Nat) (f : Nat → va_E) (hG : GI (okc cI cL cZ cR cG cH L kd) kd L f) (o0 : Nat) (mo0 : o0 ∈ L) (ko0 : kd o0 = 0) (p1 : Int32) (bp1 : (0 ≤ p1.toInt ∧ p1.toInt ≤ 6)) : mPV l D cI cL cZ cR cG cH Z yX0_judge cX0_judge 4 none 1 40 [.ref o0, .int p1] L f (fun (f9 : Nat → va_E) => GI (okc cI cL cZ cR cG cH L kd) kd L f9 ∧ (∀ b, kd b ≠ 0 → kd b ≠ 536 → f9 b = f b)) := by
  obtain ⟨dC, dI⟩ := D
  refine Met.ofW (cc := cX0_judge) (maxL := 4) (ret := none) (by decide) rfl ?_
  intro p e s m args below meth c s₁ B hml hv
  obtain ⟨rfl, hP, hK, hD0, hN, hZ⟩ := hv
  have hx := B.exec
  have hb := B.bytes
  have hr := B.returns
  have hU : ∀ w ∈ wsU, w.before _ s = true := fun w h => atoms_spec (ws := wU yX0_judge cX0_judge 4 none) B.pre w (List.mem_cons_of_mem _ h)
  have hown : s.vm.findClass RX0 = some m.cls := findClass_of_methodNamed B.named
  have hlocks := B.notSynchronized
  have hD := pl_in hD0
  have hS : va_S (fun q => q ∈ L) s.heap s.heap [] := va_S.rf
  have hl := lv_entry ([.ref o0, .int p1]) (n := 4) (Nat.le_of_ble_eq_true rfl)
  rw [lg_entry_eq]
  generalize (lg_sl ([.ref o0, .int p1]) ++ List.replicate (4 - (lg_sl ([.ref o0, .int p1])).length) Slot.unset).toArray = ls at hl ⊢
  have hl : lv_has ls 4 [(0, .ref o0), (1, .int p1)] := hl
  have hfr0 : ∀ b, kd b ≠ 0 → kd b ≠ 536 → f b = f b := fun _ _ _ => rfl
  refine lv_iconst (v := 0) hx hb dX0_judge_0 (by decide) ?_
  refine lv_istore_n (lv' := [(2, .int 0), (0, .ref o0), (1, .int p1)]) hx hb dX0_judge_1 rfl hl (by decide) rfl (fun ls hl => ?_)
  refine lv_iconst (v := 0) hx hb dX0_judge_2 (by decide) ?_
  refine lv_istore_n (lv' := [(3, .int 0), (2, .int 0), (0, .ref o0), (1, .int p1)]) hx hb dX0_judge_3 rfl hl (by decide) rfl (fun ls hl => ?_)
  have hloop_10 : ∀ (n : Nat), ∀ (y_11 : Int32), (0 ≤ y_11.toInt ∧ y_11.toInt ≤ 73) → ∀ (y_12 : Int32), ((-2147483648) ≤ y_12.toInt ∧ y_12.toInt ≤ 2147483647) → 73 - y_11.toInt < (n : Int) → ∀ (ls : Array Slot), lv_has ls 4 [(3, .int y_11), (2, .int y_12), (0, .ref o0), (1, .int p1)] → W p l e (headSpec (wU yX0_judge cX0_judge 4 none) { frames := 1, cells := 0, slots := 0, locals := 40 }).room s m [.ref o0, .int p1].toArray below meth c s.heap [] 0 0 (MQ below (va_Qv (fun (f9 : Nat → va_E) => GI (okc cI cL cZ cR cG cH L kd) kd L f9 ∧ (∀ b, kd b ≠ 0 → kd b ≠ 536 → f9 b = f b)) (qP (dC, dI) cI cL cZ cR cG cH L) (fun q => q ∈ L)) [.ref o0, .int p1].toArray s 0 0 (fun q => q ∈ L)) (F0 m 4 ls []) := by
    intro n
    induction n with
    | zero => intro y_11 by_11 y_12 by_12 hmuhloop_10 ls hl; exfalso; omega
    | succ n ih_hloop_10 =>
      intro y_11 by_11 y_12 by_12 hmuhloop_10 ls hl
      refine lv_iload_n hx hb dX0_judge_4 rfl (lv_at hl 0 rfl) ?_
      refine lv_bipush (v := 73) hx hb dX0_judge_5 (by decide) ?_
      refine lv_icmp_ge (tgt := 40) hx hb dX0_judge_7 (by decide) (fun c_13 => ?_) (fun c_13 => ?_)
      · skip
        rw [Int32.le_iff_toInt_le, ti_73] at c_13
        refine lv_iload_n hx hb dX0_judge_40 rfl (lv_at hl 1 rfl) ?_
        refine lv_aload_n hx hb dX0_judge_41 rfl (lv_at hl 2 rfl) ?_
        obtain ⟨a_15, a_16, a_17, v_18, a_19, a_20, a_21, v_22, a_23, v_24, v_25, hfo_14, ⟨ma_15, ka_15⟩, ⟨ma_16, ka_16⟩, ⟨ma_17, ka_17⟩, bv_18, ⟨ma_19, ka_19⟩, ⟨ma_20, ka_20⟩, ⟨ma_21, ka_21⟩, ⟨ma_23, ka_23⟩⟩ := un_0 (hG _ mo0) ko0
        have bv_22 : ((-2147483648) ≤ v_22.toInt ∧ v_22.toInt ≤ 2147483647) := ⟨i32_lo _, i32_hi _⟩
        have bv_24 : ((-2147483648) ≤ v_24.toInt ∧ v_24.toInt ≤ 2147483647) := ⟨i32_lo _, i32_hi _⟩
        have bv_25 : ((-2147483648) ≤ v_25.toInt ∧ v_25.toInt ≤ 2147483647) := ⟨i32_lo _, i32_hi _⟩
        refine tk_getP (D := (dC, dI)) (ci := 0) (v := .int v_22) (C := RX0) (T := TX0) (N := 11) hx hb hU inlX0 hown hK hP mo0 hfo_14 rfl 7 (by decide) (hU _ wd_1199) (fun _ h9 => h9) rfl dX0_judge_42 ?_
        have hcut_28 : ∀ (f_27 : Nat → va_E), GI (okc cI cL cZ cR cG cH L kd) kd L f_27 → ∀ (H : Heap) (locs : List Loc), va_P (dC, dI) vwCl (va_pl L f_27) H → va_S (fun q => q ∈ L) s.heap H locs → va_D (fun q => q ∈ L) (va_pl L f_27) → (∀ b, kd b ≠ 0 → kd b ≠ 536 → f_27 b = f b) → ∀ (ls : Array Slot), lv_has ls 4 [(3, .int y_11), (2, .int y_12), (0, .ref o0), (1, .int p1)] → W p l e (headSpec (wU yX0_judge cX0_judge 4 none) { frames := 1, cells := 0, slots := 0, locals := 40 }).room s m [.ref o0, .int p1].toArray below meth c H locs 0 0 (MQ below (va_Qv (fun (f9 : Nat → va_E) => GI (okc cI cL cZ cR cG cH L kd) kd L f9 ∧ (∀ b, kd b ≠ 0 → kd b ≠ 536 → f9 b = f b)) (qP (dC, dI) cI cL cZ cR cG cH L) (fun q => q ∈ L)) [.ref o0, .int p1].toArray s 0 0 (fun q => q ∈ L)) (F0 m 70 ls []) := by
          intro f_27 hG H locs hP hS hD hfr0 ls hl
          exact W.vret hx hb hr (fun t ht hW => ⟨⟨f_27, rfl, ⟨hG, hfr0⟩, by rw [ht]; exact hP, va_K.moved hW.alike hK, pl_in hD⟩, hS.F ht⟩) hS.2.2 dX0_judge_70
        refine lv_icmp_le (tgt := 70) hx hb dX0_judge_45 (by decide) (fun c_29 => ?_) (fun c_29 => ?_)
        · skip
          rw [Int32.le_iff_toInt_le] at c_29
          exact hcut_28 f hG _ _ hP hS hD hfr0 ls (lv_sub hl [0, 1, 2, 3] rfl)
        · skip
          rw [Int32.le_iff_toInt_le] at c_29
          refine lv_aload_n hx hb dX0_judge_48 rfl (lv_at hl 2 rfl) ?_
          refine lv_iload_n hx hb dX0_judge_49 rfl (lv_at hl 1 rfl) ?_
          refine tk_putP (D := (dC, dI)) (ci := 0) (v := .int y_12) (ty := .int) (C := RX0) (T := TX0) (N := 11) hx hb hU inlX0 tyX0 tyX0_ok nmX0 hown hK hP hD hS mo0 hfo_14 rfl 7 (by decide) (hU _ wd_1199) (fun _ h9 => h9) rfl (by decide +kernel) rfl rfl (Nat.le_of_ble_eq_true rfl) dX0_judge_50 (fun H locs hP hD hS => ?_)
          obtain ⟨f_31, ef_31⟩ : ∃ y : Nat → va_E, y = va_up f o0 (.inr (0, [.ref a_15, .ref a_16, .ref a_17, .int v_18, .ref a_19, .ref a_20, .ref a_21, .int y_12, .ref a_23, .int v_24, .int v_25])) := ⟨_, rfl⟩
          have hP : va_P (dC, dI) vwCl (va_pl L f_31) H := by rw [ef_31]; exact hP
          have hD : va_D (fun q => q ∈ L) (va_pl L f_31) := by rw [ef_31]; exact hD
          have hG : GI (okc cI cL cZ cR cG cH L kd) kd L f_31 := by rw [ef_31]; exact hG.set o0 (mk_0 ko0 ⟨a_15, a_16, a_17, v_18, a_19, a_20, a_21, y_12, a_23, v_24, v_25, rfl, ⟨ma_15, ka_15⟩, ⟨ma_16, ka_16⟩, ⟨ma_17, ka_17⟩, (by constructor <;> omega), ⟨ma_19, ka_19⟩, ⟨ma_20, ka_20⟩, ⟨ma_21, ka_21⟩, ⟨ma_23, ka_23⟩⟩)
          have hfr0 : ∀ b, kd b ≠ 0 → kd b ≠ 536 → f_31 b = f b := fun b q0 q536 => (congrFun ef_31 b).trans ((up_ne (fun e9 => q0 (by rw [e9]; exact ko0))).trans (hfr0 b q0 q536))
          have hfo_32 : f_31 o0 = .inr (0, [.ref a_15, .ref a_16, .ref a_17, .int v_18, .ref a_19, .ref a_20, .ref a_21, .int y_12, .ref a_23, .int v_24, .int v_25]) := by rw [ef_31]; exact up_self
          refine lv_aload_n hx hb dX0_judge_53 rfl (lv_at hl 2 rfl) ?_
          refine tk_getP (D := (dC, dI)) (ci := 0) (v := .ref a_19) (C := RX0) (T := TX0) (N := 11) hx hb hU inlX0 hown hK hP mo0 hfo_32 rfl 4 (by decide) (hU _ wd_160) (fun _ h9 => h9) rfl dX0_judge_54 ?_
          refine lv_iconst (v := 0) hx hb dX0_judge_57 (by decide) ?_
          refine lv_aload_n hx hb dX0_judge_58 rfl (lv_at hl 2 rfl) ?_
          refine tk_getP (D := (dC, dI)) (ci := 0) (v := .ref a_21) (C := RX0) (T := TX0) (N := 11) hx hb hU inlX0 hown hK hP mo0 hfo_32 rfl 6 (by decide) (hU _ wd_162) (fun _ h9 => h9) rfl dX0_judge_59 ?_
          refine lv_iconst (v := 0) hx hb dX0_judge_62 (by decide) ?_
          refine lv_aload_n hx hb dX0_judge_63 rfl (lv_at hl 2 rfl) ?_
          refine tk_getP (D := (dC, dI)) (ci := 0) (v := .int v_18) (C := RX0) (T := TX0) (N := 11) hx hb hU inlX0 hown hK hP mo0 hfo_32 rfl 3 (by decide) (hU _ wd_1195) (fun _ h9 => h9) rfl dX0_judge_64 ?_
          obtain ⟨g_34, hfo_33, hbg_34⟩ := un_536 (hG _ ma_19) ka_19
          obtain ⟨g_36, hfo_35, hbg_36⟩ := un_536 (hG _ ma_21) ka_21
          refine tk_copyP hx hb (by rw [hml]; exact hl.1.symm) hown (hU _ wd_1232) (hU _ wd_253) (hU _ wd_254) (hU _ wd_255) hK hP hD hS 0 ma_19 ma_21 hfo_33 hfo_35 rfl (by decide) (by decide) (by rw [Int32.lt_iff_toInt_lt, ti_0]; omega) (cp_ok (by rw [ti_0]; omega) (by omega) (by rw [ti_0]; omega)) (cp_ok (by rw [ti_0]; omega) (by omega) (by rw [ti_0]; omega)) (Nat.le_of_ble_eq_true rfl) (Nat.le_of_ble_eq_true rfl) dX0_judge_67 (fun H locs hP hD hS => ?_)
          obtain ⟨f_38, ef_38⟩ : ∃ y : Nat → va_E, y = va_up f_31 a_21 (.inl (cI, 6, .inl (va_cpy g_34 g_36 (Int32.toNatClampNeg 0) (Int32.toNatClampNeg 0) (Int32.toNatClampNeg v_18)))) := ⟨_, rfl⟩
          have hP : va_P (dC, dI) vwCl (va_pl L f_38) H := by rw [ef_38]; exact hP
          have hD : va_D (fun q => q ∈ L) (va_pl L f_38) := by rw [ef_38]; exact hD
          have hG : GI (okc cI cL cZ cR cG cH L kd) kd L f_38 := by rw [ef_38]; exact hG.set a_21 (mk_536 ka_21 ⟨_, rfl, okI_cpy (fun j => by have := hbg_34 j; constructor <;> omega) hbg_36 _ _ _⟩)
          have hfo_39 : f_38 o0 = .inr (0, [.ref a_15, .ref a_16, .ref a_17, .int v_18, .ref a_19, .ref a_20, .ref a_21, .int y_12, .ref a_23, .int v_24, .int v_25]) := by rw [ef_38, up_ne (kd_ne ka_21 ko0 (by decide))]; exact hfo_32
          have hfr0 : ∀ b, kd b ≠ 0 → kd b ≠ 536 → f_38 b = f b := fun b q0 q536 => (congrFun ef_38 b).trans ((up_ne (fun e9 => q536 (by rw [e9]; exact ka_21))).trans (hfr0 b q0 q536))
          have hfo_40 : f_38 a_21 = .inl (cI, 6, .inl (va_cpy g_34 g_36 (Int32.toNatClampNeg 0) (Int32.toNatClampNeg 0) (Int32.toNatClampNeg v_18))) := by rw [ef_38]; exact up_self
          exact hcut_28 f_38 hG _ _ hP hS hD hfr0 ls (lv_sub hl [0, 1, 2, 3] rfl)
      · skip
        rw [Int32.le_iff_toInt_le, ti_73] at c_13
        refine lv_iload_n hx hb dX0_judge_10 rfl (lv_at hl 1 rfl) ?_
        refine lv_aload_n hx hb dX0_judge_11 rfl (lv_at hl 2 rfl) ?_
        obtain ⟨a_42, a_43, a_44, v_45, a_46, a_47, a_48, v_49, a_50, v_51, v_52, hfo_41, ⟨ma_42, ka_42⟩, ⟨ma_43, ka_43⟩, ⟨ma_44, ka_44⟩, bv_45, ⟨ma_46, ka_46⟩, ⟨ma_47, ka_47⟩, ⟨ma_48, ka_48⟩, ⟨ma_50, ka_50⟩⟩ := un_0 (hG _ mo0) ko0
        have bv_49 : ((-2147483648) ≤ v_49.toInt ∧ v_49.toInt ≤ 2147483647) := ⟨i32_lo _, i32_hi _⟩
        have bv_51 : ((-2147483648) ≤ v_51.toInt ∧ v_51.toInt ≤ 2147483647) := ⟨i32_lo _, i32_hi _⟩
        have bv_52 : ((-2147483648) ≤ v_52.toInt ∧ v_52.toInt ≤ 2147483647) := ⟨i32_lo _, i32_hi _⟩
        refine tk_getP (D := (dC, dI)) (ci := 0) (v := .ref a_43) (C := RX0) (T := TX0) (N := 11) hx hb hU inlX0 hown hK hP mo0 hfo_41 rfl 1 (by decide) (hU _ wd_158) (fun _ h9 => h9) rfl dX0_judge_12 ?_
        refine lv_iload_n hx hb dX0_judge_15 rfl (lv_at hl 0 rfl) ?_
        refine lv_bipush (v := 73) hx hb dX0_judge_16 (by decide) ?_
        refine lv_imul hx hb dX0_judge_18 ?_
        refine lv_topi (fun x_53 ex_53 => ?_)
        have hx_53 : x_53.toInt = y_11.toInt * 73 := by rw [ex_53, ml_I (by rw [ti_73]; omega) (by rw [ti_73]; omega), ti_73]
        have bx_53 : (0 ≤ x_53.toInt ∧ x_53.toInt ≤ 5256) := by constructor <;> omega
        refine lv_aload_n hx hb dX0_judge_19 rfl (lv_at hl 2 rfl) ?_
        refine tk_getP (D := (dC, dI)) (ci := 0) (v := .ref a_47) (C := RX0) (T := TX0) (N := 11) hx hb hU inlX0 hown hK hP mo0 hfo_41 rfl 5 (by decide) (hU _ wd_161) (fun _ h9 => h9) rfl dX0_judge_20 ?_
        refine lv_iload_n hx hb dX0_judge_23 rfl (lv_at hl 3 rfl) ?_
        refine lv_bipush (v := 73) hx hb dX0_judge_24 (by decide) ?_
        refine lv_imul hx hb dX0_judge_26 ?_
        refine lv_topi (fun x_54 ex_54 => ?_)
        have hx_54 : x_54.toInt = p1.toInt * 73 := by rw [ex_54, ml_I (by rw [ti_73]; omega) (by rw [ti_73]; omega), ti_73]
        have bx_54 : (0 ≤ x_54.toInt ∧ x_54.toInt ≤ 438) := by constructor <;> omega
        refine lv_iload_n hx hb dX0_judge_27 rfl (lv_at hl 0 rfl) ?_
        refine lv_iadd hx hb dX0_judge_28 ?_
        refine lv_topi (fun x_55 ex_55 => ?_)
        have hx_55 : x_55.toInt = x_54.toInt + y_11.toInt := by rw [ex_55, ad_I (by omega) (by omega)]
        have bx_55 : (0 ≤ x_55.toInt ∧ x_55.toInt ≤ 510) := by constructor <;> omega
        obtain ⟨g_57, hfo_56, hbg_57⟩ := un_537 (hG _ ma_47) ka_47
        refine tk_ildP hx hb hK hP 0 ma_47 hfo_56 rfl (vp_in_iff.mpr (by constructor <;> omega)) dX0_judge_29 ?_
        refine lv_topi (fun x_58 ex_58 => ?_)
        have bx_58 : (0 ≤ x_58.toInt ∧ x_58.toInt ≤ 72) := by rw [ex_58]; exact hbg_57 _
        refine lv_iadd hx hb dX0_judge_30 ?_
        refine lv_topi (fun x_59 ex_59 => ?_)
        have hx_59 : x_59.toInt = x_53.toInt + x_58.toInt := by rw [ex_59, ad_I (by omega) (by omega)]
        have bx_59 : (0 ≤ x_59.toInt ∧ x_59.toInt ≤ 5328) := by constructor <;> omega
        obtain ⟨g_61, hfo_60, hbg_61⟩ := un_535 (hG _ ma_43) ka_43
        refine tk_ildP hx hb hK hP 0 ma_43 hfo_60 rfl (vp_in_iff.mpr (by constructor <;> omega)) dX0_judge_31 ?_
        refine lv_topi (fun x_62 ex_62 => ?_)
        have bx_62 : (0 ≤ x_62.toInt ∧ x_62.toInt ≤ 1) := by rw [ex_62]; exact hbg_61 _
        refine lv_iadd hx hb dX0_judge_32 ?_
        refine lv_topi (fun x_63 ex_63 => ?_)
        have bx_63 : ((-2147483648) ≤ x_63.toInt ∧ x_63.toInt ≤ 2147483647) := ⟨i32_lo _, i32_hi _⟩
        refine lv_istore_n (lv' := [(2, .int x_63), (3, .int y_11), (0, .ref o0), (1, .int p1)]) hx hb dX0_judge_33 rfl hl (by decide) rfl (fun ls hl => ?_)
        obtain ⟨x_64, ex_64⟩ : ∃ y : Int32, y_11 + 1 = y := ⟨_, rfl⟩
        have hx_64 : x_64.toInt = y_11.toInt + 1 := by rw [← ex_64, ad_I (by rw [ti_1]; omega) (by rw [ti_1]; omega), ti_1]
        have bx_64 : (1 ≤ x_64.toInt ∧ x_64.toInt ≤ 73) := by constructor <;> omega
        refine lv_iinc (v := x_64) (lv' := [(3, .int x_64), (2, .int x_63), (0, .ref o0), (1, .int p1)]) hx hb dX0_judge_34 hl (k := 1) rfl ex_64 (by decide) rfl (fun ls hl => ?_)
        refine lv_goto (tgt := 4) hx hb dX0_judge_37 (by decide) ?_
        exact ih_hloop_10 x_64 (by constructor <;> omega) x_63 (by constructor <;> omega) (by omega) ls (lv_sub hl [0, 1, 2, 3] rfl)
  exact hloop_10 74 0 (by decide) 0 (by decide) (by (try rw [ti_0]) <;> omega) ls hl
set_option maxHeartbeats 8000000 in
set_option maxRecDepth 100000 in
theorem s_X6_restart_k6 (l : Launch) (D : va_G) (cI cL cZ cR cG cH : ClassId) (Z : zT) (kd : Nat → Nat) (L : List Nat) (f : Nat → va_E) (hG : GI (okc cI cL cZ cR cG cH L kd) kd L f) (o0 : Nat) (mo0 : o0 ∈ L) (ko0 : kd o0 = 6) (p1 : Int32) (bp1 : (0 ≤ p1.toInt ∧ p1.toInt ≤ 8)) : mPV l D cI cL cZ cR cG cH Z yX6_restart cX6_restart 3 none 1 20 [.ref o0, .int p1] L f (fun (f9 : Nat → va_E) => GI (okc cI cL cZ cR cG cH L kd) kd L f9 ∧ (∀ b, kd b ≠ 6 → kd b ≠ 9 → kd b ≠ 530 → f9 b = f b)) := by
  obtain ⟨dC, dI⟩ := D
  refine Met.ofW (cc := cX6_restart) (maxL := 3) (ret := none) (by decide) rfl ?_
  intro p e s m args below meth c s₁ B hml hv
  obtain ⟨rfl, hP, hK, hD0, hN, hZ⟩ := hv
  have hx := B.exec
  have hb := B.bytes
  have hr := B.returns
  have hU : ∀ w ∈ wsU, w.before _ s = true := fun w h => atoms_spec (ws := wU yX6_restart cX6_restart 3 none) B.pre w (List.mem_cons_of_mem _ h)
  have hown : s.vm.findClass RX6 = some m.cls := findClass_of_methodNamed B.named
  have hlocks := B.notSynchronized
  have hD := pl_in hD0
  have hS : va_S (fun q => q ∈ L) s.heap s.heap [] := va_S.rf
  have hl := lv_entry ([.ref o0, .int p1]) (n := 3) (Nat.le_of_ble_eq_true rfl)
  rw [lg_entry_eq]
  generalize (lg_sl ([.ref o0, .int p1]) ++ List.replicate (3 - (lg_sl ([.ref o0, .int p1])).length) Slot.unset).toArray = ls at hl ⊢
  have hl : lv_has ls 3 [(0, .ref o0), (1, .int p1)] := hl
  have hfr0 : ∀ b, kd b ≠ 6 → kd b ≠ 9 → kd b ≠ 530 → f b = f b := fun _ _ _ _ => rfl
  refine lv_aload_n hx hb dX6_restart_0 rfl (lv_at hl 0 rfl) ?_
  refine lv_iconst (v := 1) hx hb dX6_restart_1 (by decide) ?_
  refine lv_iload_n hx hb dX6_restart_2 rfl (lv_at hl 1 rfl) ?_
  refine lv_ishl hx hb dX6_restart_3 ?_
  refine lv_topi (fun x_1 ex_1 => ?_)
  have bx_1 : (1 ≤ x_1.toInt ∧ x_1.toInt ≤ 256) := by rw [ex_1]; exact sh_8 (by constructor <;> omega)
  refine lv_iconst (v := 1) hx hb dX6_restart_4 (by decide) ?_
  refine lv_isub hx hb dX6_restart_5 ?_
  refine lv_topi (fun x_2 ex_2 => ?_)
  have hx_2 : x_2.toInt = x_1.toInt - 1 := by rw [ex_2, sb_I (by rw [ti_1]; omega) (by rw [ti_1]; omega), ti_1]
  have bx_2 : (0 ≤ x_2.toInt ∧ x_2.toInt ≤ 255) := by constructor <;> omega
  obtain ⟨v_4, v_5, a_6, a_7, a_8, v_9, a_10, a_11, a_12, hfo_3, bv_5, ⟨ma_6, ka_6⟩, ⟨ma_7, ka_7⟩, ⟨ma_8, ka_8⟩, ⟨ma_10, ka_10⟩, ⟨ma_11, ka_11⟩, ⟨ma_12, ka_12⟩⟩ := un_6 (hG _ mo0) ko0
  have bv_4 : ((-2147483648) ≤ v_4.toInt ∧ v_4.toInt ≤ 2147483647) := ⟨i32_lo _, i32_hi _⟩
  have bv_9 : ((-2147483648) ≤ v_9.toInt ∧ v_9.toInt ≤ 2147483647) := ⟨i32_lo _, i32_hi _⟩
  refine tk_putP (D := (dC, dI)) (ci := 6) (v := .int x_2) (ty := .int) (C := RX6) (T := TX6) (N := 9) hx hb hU inlX6 tyX6 tyX6_ok nmX6 hown hK hP hD hS mo0 hfo_3 rfl 0 (by decide) (hU _ wd_553) (fun _ h9 => h9) rfl (by decide +kernel) rfl rfl (Nat.le_of_ble_eq_true rfl) dX6_restart_6 (fun H locs hP hD hS => ?_)
  obtain ⟨f_14, ef_14⟩ : ∃ y : Nat → va_E, y = va_up f o0 (.inr (6, [.int x_2, .int v_5, .ref a_6, .ref a_7, .ref a_8, .int v_9, .ref a_10, .ref a_11, .ref a_12])) := ⟨_, rfl⟩
  have hP : va_P (dC, dI) vwCl (va_pl L f_14) H := by rw [ef_14]; exact hP
  have hD : va_D (fun q => q ∈ L) (va_pl L f_14) := by rw [ef_14]; exact hD
  have hG : GI (okc cI cL cZ cR cG cH L kd) kd L f_14 := by rw [ef_14]; exact hG.set o0 (mk_6 ko0 ⟨x_2, v_5, a_6, a_7, a_8, v_9, a_10, a_11, a_12, rfl, (by constructor <;> omega), ⟨ma_6, ka_6⟩, ⟨ma_7, ka_7⟩, ⟨ma_8, ka_8⟩, ⟨ma_10, ka_10⟩, ⟨ma_11, ka_11⟩, ⟨ma_12, ka_12⟩⟩)
  have hfr0 : ∀ b, kd b ≠ 6 → kd b ≠ 9 → kd b ≠ 530 → f_14 b = f b := fun b q6 q9 q530 => (congrFun ef_14 b).trans ((up_ne (fun e9 => q6 (by rw [e9]; exact ko0))).trans (hfr0 b q6 q9 q530))
  have hfo_15 : f_14 o0 = .inr (6, [.int x_2, .int v_5, .ref a_6, .ref a_7, .ref a_8, .int v_9, .ref a_10, .ref a_11, .ref a_12]) := by rw [ef_14]; exact up_self
  refine lv_iconst (v := 0) hx hb dX6_restart_9 (by decide) ?_
  refine lv_istore_n (lv' := [(2, .int 0), (0, .ref o0), (1, .int p1)]) hx hb dX6_restart_10 rfl hl (by decide) rfl (fun ls hl => ?_)
  have hloop_31 : ∀ (n : Nat), ∀ (y_32 : Int32), (0 ≤ y_32.toInt ∧ y_32.toInt ≤ 8) → ∀ (f_34 : Nat → va_E), GI (okc cI cL cZ cR cG cH L kd) kd L f_34 → ∀ (H : Heap) (locs : List Loc), va_P (dC, dI) vwCl (va_pl L f_34) H → va_S (fun q => q ∈ L) s.heap H locs → va_D (fun q => q ∈ L) (va_pl L f_34) → (∀ b, kd b ≠ 6 → kd b ≠ 9 → kd b ≠ 530 → f_34 b = f b) → (f_34 o0 = .inr (6, [.int x_2, .int v_5, .ref a_6, .ref a_7, .ref a_8, .int v_9, .ref a_10, .ref a_11, .ref a_12])) → 8 - y_32.toInt < (n : Int) → ∀ (ls : Array Slot), lv_has ls 3 [(2, .int y_32), (0, .ref o0), (1, .int p1)] → W p l e (headSpec (wU yX6_restart cX6_restart 3 none) { frames := 1, cells := 0, slots := 0, locals := 20 }).room s m [.ref o0, .int p1].toArray below meth c H locs 0 0 (MQ below (va_Qv (fun (f9 : Nat → va_E) => GI (okc cI cL cZ cR cG cH L kd) kd L f9 ∧ (∀ b, kd b ≠ 6 → kd b ≠ 9 → kd b ≠ 530 → f9 b = f b)) (qP (dC, dI) cI cL cZ cR cG cH L) (fun q => q ∈ L)) [.ref o0, .int p1].toArray s 0 0 (fun q => q ∈ L)) (F0 m 11 ls []) := by
    intro n
    induction n with
    | zero => intro y_32 by_32 f_34 hG H locs hP hS hD hfr0 hfo_35 hmuhloop_31 ls hl; exfalso; omega
    | succ n ih_hloop_31 =>
      intro y_32 by_32 f_34 hG H locs hP hS hD hfr0 hfo_35 hmuhloop_31 ls hl
      refine lv_iload_n hx hb dX6_restart_11 rfl (lv_at hl 0 rfl) ?_
      refine lv_bipush (v := 8) hx hb dX6_restart_12 (by decide) ?_
      refine lv_icmp_ge (tgt := 30) hx hb dX6_restart_14 (by decide) (fun c_36 => ?_) (fun c_36 => ?_)
      · skip
        rw [Int32.le_iff_toInt_le, ti_8] at c_36
        refine lv_aload_n hx hb dX6_restart_30 rfl (lv_at hl 1 rfl) ?_
        refine tk_getP (D := (dC, dI)) (ci := 6) (v := .ref a_7) (C := RX6) (T := TX6) (N := 9) hx hb hU inlX6 hown hK hP mo0 hfo_35 rfl 3 (by decide) (hU _ wd_139) (fun _ h9 => h9) rfl dX6_restart_31 ?_
        obtain ⟨a_38, a_39, v_40, hfo_37, ⟨ma_38, ka_38⟩, ⟨ma_39, ka_39⟩, bv_40⟩ := un_9 (hG _ ma_7) ka_7
        refine tk_VvP (As := []) (rest := []) (n := 0) hx hb hml hown hU hN hZ (s_X9_clear_k9 l (dC, dI) cI cL cZ cR cG cH Z kd L f_34 hG a_7 ma_7 ka_7) wd_555 wd_270 wd_271 wd_85 wd_272 (by decide +kernel) ⟨Nat.le_of_ble_eq_true rfl, Nat.le_of_ble_eq_true rfl⟩ hK hP hD hS ma_7 hfo_37 9 rfl rfl rfl hl.1 rfl (Nat.le_of_ble_eq_true rfl) dX6_restart_34 ⟨Nat.le_of_ble_eq_true rfl, Nat.le_of_ble_eq_true rfl⟩ (fun f_42 H locs hw hP hD hS => ?_)
        obtain ⟨hG, hkc_43⟩ := hw
        have hfo_45 : f_42 o0 = .inr (6, [.int x_2, .int v_5, .ref a_6, .ref a_7, .ref a_8, .int v_9, .ref a_10, .ref a_11, .ref a_12]) := by rw [hkc_43 o0 (by rw [ko0]; decide)]; exact hfo_35
        have hfr0 : ∀ b, kd b ≠ 6 → kd b ≠ 9 → kd b ≠ 530 → f_42 b = f b := fun b q6 q9 q530 => (hkc_43 b q9).trans (hfr0 b q6 q9 q530)
        refine lv_aload_n hx hb dX6_restart_37 rfl (lv_at hl 1 rfl) ?_
        refine tk_getP (D := (dC, dI)) (ci := 6) (v := .ref a_8) (C := RX6) (T := TX6) (N := 9) hx hb hU inlX6 hown hK hP mo0 hfo_45 rfl 4 (by decide) (hU _ wd_140) (fun _ h9 => h9) rfl dX6_restart_38 ?_
        obtain ⟨a_47, a_48, v_49, hfo_46, ⟨ma_47, ka_47⟩, ⟨ma_48, ka_48⟩, bv_49⟩ := un_9 (hG _ ma_8) ka_8
        refine tk_VvP (As := []) (rest := []) (n := 0) hx hb hml hown hU hN hZ (s_X9_clear_k9 l (dC, dI) cI cL cZ cR cG cH Z kd L f_42 hG a_8 ma_8 ka_8) wd_555 wd_270 wd_271 wd_85 wd_272 (by decide +kernel) ⟨Nat.le_of_ble_eq_true rfl, Nat.le_of_ble_eq_true rfl⟩ hK hP hD hS ma_8 hfo_46 9 rfl rfl rfl hl.1 rfl (Nat.le_of_ble_eq_true rfl) dX6_restart_41 ⟨Nat.le_of_ble_eq_true rfl, Nat.le_of_ble_eq_true rfl⟩ (fun f_51 H locs hw hP hD hS => ?_)
        obtain ⟨hG, hkc_52⟩ := hw
        have hfo_54 : f_51 o0 = .inr (6, [.int x_2, .int v_5, .ref a_6, .ref a_7, .ref a_8, .int v_9, .ref a_10, .ref a_11, .ref a_12]) := by rw [hkc_52 o0 (by rw [ko0]; decide)]; exact hfo_45
        have hfr0 : ∀ b, kd b ≠ 6 → kd b ≠ 9 → kd b ≠ 530 → f_51 b = f b := fun b q6 q9 q530 => (hkc_52 b q9).trans (hfr0 b q6 q9 q530)
        refine lv_aload_n hx hb dX6_restart_44 rfl (lv_at hl 1 rfl) ?_
        refine lv_iconst (v := 0) hx hb dX6_restart_45 (by decide) ?_
        refine tk_putP (D := (dC, dI)) (ci := 6) (v := .int 0) (ty := .int) (C := RX6) (T := TX6) (N := 9) hx hb hU inlX6 tyX6 tyX6_ok nmX6 hown hK hP hD hS mo0 hfo_54 rfl 5 (by decide) (hU _ wd_554) (fun _ h9 => h9) rfl (by decide +kernel) rfl rfl (Nat.le_of_ble_eq_true rfl) dX6_restart_46 (fun H locs hP hD hS => ?_)
        obtain ⟨f_56, ef_56⟩ : ∃ y : Nat → va_E, y = va_up f_51 o0 (.inr (6, [.int x_2, .int v_5, .ref a_6, .ref a_7, .ref a_8, .int 0, .ref a_10, .ref a_11, .ref a_12])) := ⟨_, rfl⟩
        have hP : va_P (dC, dI) vwCl (va_pl L f_56) H := by rw [ef_56]; exact hP
        have hD : va_D (fun q => q ∈ L) (va_pl L f_56) := by rw [ef_56]; exact hD
        have hG : GI (okc cI cL cZ cR cG cH L kd) kd L f_56 := by rw [ef_56]; exact hG.set o0 (mk_6 ko0 ⟨x_2, v_5, a_6, a_7, a_8, 0, a_10, a_11, a_12, rfl, (by constructor <;> omega), ⟨ma_6, ka_6⟩, ⟨ma_7, ka_7⟩, ⟨ma_8, ka_8⟩, ⟨ma_10, ka_10⟩, ⟨ma_11, ka_11⟩, ⟨ma_12, ka_12⟩⟩)
        have hfr0 : ∀ b, kd b ≠ 6 → kd b ≠ 9 → kd b ≠ 530 → f_56 b = f b := fun b q6 q9 q530 => (congrFun ef_56 b).trans ((up_ne (fun e9 => q6 (by rw [e9]; exact ko0))).trans (hfr0 b q6 q9 q530))
        have hfo_57 : f_56 o0 = .inr (6, [.int x_2, .int v_5, .ref a_6, .ref a_7, .ref a_8, .int 0, .ref a_10, .ref a_11, .ref a_12]) := by rw [ef_56]; exact up_self
        exact W.vret hx hb hr (fun t ht hW => ⟨⟨f_56, rfl, ⟨hG, hfr0⟩, by rw [ht]; exact hP, va_K.moved hW.alike hK, pl_in hD⟩, hS.F ht⟩) hS.2.2 dX6_restart_49
      · skip
        rw [Int32.le_iff_toInt_le, ti_8] at c_36
        refine lv_aload_n hx hb dX6_restart_17 rfl (lv_at hl 1 rfl) ?_
        refine tk_getP (D := (dC, dI)) (ci := 6) (v := .ref a_6) (C := RX6) (T := TX6) (N := 9) hx hb hU inlX6 hown hK hP mo0 hfo_35 rfl 2 (by decide) (hU _ wd_137) (fun _ h9 => h9) rfl dX6_restart_18 ?_
        refine lv_iload_n hx hb dX6_restart_21 rfl (lv_at hl 0 rfl) ?_
        refine lv_iload_n hx hb dX6_restart_22 rfl (lv_at hl 0 rfl) ?_
        obtain ⟨g_59, hfo_58, hbg_59⟩ := un_530 (hG _ ma_6) ka_6
        refine tk_istP hx hb hK hP hD hS 0 ma_6 hfo_58 rfl (vp_in_iff.mpr (by constructor <;> omega)) dX6_restart_23 (fun H locs hP hD hS => ?_)
        obtain ⟨f_61, ef_61⟩ : ∃ y : Nat → va_E, y = va_up f_34 a_6 (.inl (cI, 8, .inl (upd g_59 (Int32.toNatClampNeg y_32) y_32))) := ⟨_, rfl⟩
        have hP : va_P (dC, dI) vwCl (va_pl L f_61) H := by rw [ef_61]; exact hP
        have hD : va_D (fun q => q ∈ L) (va_pl L f_61) := by rw [ef_61]; exact hD
        have hG : GI (okc cI cL cZ cR cG cH L kd) kd L f_61 := by rw [ef_61]; exact hG.set a_6 (mk_530 ka_6 ⟨_, rfl, okI_up hbg_59 (by constructor <;> omega) _⟩)
        have hfo_62 : f_61 o0 = .inr (6, [.int x_2, .int v_5, .ref a_6, .ref a_7, .ref a_8, .int v_9, .ref a_10, .ref a_11, .ref a_12]) := by rw [ef_61, up_ne (kd_ne ka_6 ko0 (by decide))]; exact hfo_35
        have hfr0 : ∀ b, kd b ≠ 6 → kd b ≠ 9 → kd b ≠ 530 → f_61 b = f b := fun b q6 q9 q530 => (congrFun ef_61 b).trans ((up_ne (fun e9 => q530 (by rw [e9]; exact ka_6))).trans (hfr0 b q6 q9 q530))
        have hfo_63 : f_61 a_6 = .inl (cI, 8, .inl (upd g_59 (Int32.toNatClampNeg y_32) y_32)) := by rw [ef_61]; exact up_self
        obtain ⟨x_64, ex_64⟩ : ∃ y : Int32, y_32 + 1 = y := ⟨_, rfl⟩
        have hx_64 : x_64.toInt = y_32.toInt + 1 := by rw [← ex_64, ad_I (by rw [ti_1]; omega) (by rw [ti_1]; omega), ti_1]
        have bx_64 : (1 ≤ x_64.toInt ∧ x_64.toInt ≤ 8) := by constructor <;> omega
        refine lv_iinc (v := x_64) (lv' := [(2, .int x_64), (0, .ref o0), (1, .int p1)]) hx hb dX6_restart_24 hl (k := 0) rfl ex_64 (by decide) rfl (fun ls hl => ?_)
        refine lv_goto (tgt := 11) hx hb dX6_restart_27 (by decide) ?_
        exact ih_hloop_31 x_64 (by constructor <;> omega) f_61 hG _ _ hP hS hD hfr0 hfo_62 (by omega) ls (lv_sub hl [0, 1, 2] rfl)
  exact hloop_31 9 0 (by decide) f_14 hG _ _ hP hS hD hfr0 hfo_15 (by (try rw [ti_0]) <;> omega) ls hl
