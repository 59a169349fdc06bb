set_option maxHeartbeats 8000000 in
set_option maxRecDepth 100000 in
theorem s_X3_breaksOf_k3 (l : Launch) (D : va_G) (cI cL cZ cR cG cH : ClassId) (Z : zT) (kd : Nat → Nat) (L : List Nat) (f : Nat → va_E) (hG : GI (okc cI cL cZ cR cG cH L kd) kd L f) (o0 : Nat) (mo0 : o0 ∈ L) (ko0 : kd o0 = 3) (p1 : Int32) (p2 : Int32) (bp2 : (0 ≤ p2.toInt ∧ p2.toInt ≤ 9)) (hxpre0 : ∀ b9 g9, fldR (f o0) 12 = some b9 → f b9 = .inl (cI, 9, .inl g9) → ∀ j : Nat, (j : Int) < p2.toInt → 0 ≤ (g9 j).toInt) : mPI l D cI cL cZ cR cG cH Z yX3_breaksOf cX3_breaksOf 5 (some .int) 3 75 [.ref o0, .int p1, .int p2] L f (fun (r : Int32) (f9 : Nat → va_E) => f = f9 ∧ (0 ≤ r.toInt ∧ r.toInt ≤ 255)) := by
  obtain ⟨dC, dI⟩ := D
  refine Met.ofW (cc := cX3_breaksOf) (maxL := 5) (ret := (some .int)) (by decide) rfl ?_
  intro p e s m args below meth c s₁ B hml hv
  obtain ⟨rfl, hP, hK, hD0, hN, hZ⟩ := hv
  have hx := B.exec
  have hb := B.bytes
  have hr := B.returns
  have hU : ∀ w ∈ wsU, w.before _ s = true := fun w h => atoms_spec (ws := wU yX3_breaksOf cX3_breaksOf 5 (some .int)) B.pre w (List.mem_cons_of_mem _ h)
  have hown : s.vm.findClass RX3 = some m.cls := findClass_of_methodNamed B.named
  have hlocks := B.notSynchronized
  have hD := pl_in hD0
  have hS : va_S (fun q => q ∈ L) s.heap s.heap [] := va_S.rf
  have hl := lv_entry ([.ref o0, .int p1, .int p2]) (n := 5) (Nat.le_of_ble_eq_true rfl)
  rw [lg_entry_eq]
  generalize (lg_sl ([.ref o0, .int p1, .int p2]) ++ List.replicate (5 - (lg_sl ([.ref o0, .int p1, .int p2])).length) Slot.unset).toArray = ls at hl ⊢
  have hl : lv_has ls 5 [(0, .ref o0), (1, .int p1), (2, .int p2)] := hl
  have bp1 : ((-2147483648) ≤ p1.toInt ∧ p1.toInt ≤ 2147483647) := ⟨i32_lo _, i32_hi _⟩
  obtain ⟨a_2, a_3, a_4, a_5, a_6, v_7, v_8, v_9, v_10, v_11, v_12, v_13, a_14, a_15, a_16, v_17, a_18, a_19, hfo_1, ⟨ma_2, ka_2⟩, ⟨ma_3, ka_3⟩, ⟨ma_4, ka_4⟩, ⟨ma_5, ka_5⟩, ⟨ma_6, ka_6⟩, bv_7, bv_8, bv_9, ⟨ma_14, ka_14⟩, ⟨ma_15, ka_15⟩, ⟨ma_16, ka_16⟩, bv_17, ⟨ma_18, ka_18⟩, ⟨ma_19, ka_19⟩⟩ := un_3 (hG _ mo0) ko0
  have bv_10 : ((-2147483648) ≤ v_10.toInt ∧ v_10.toInt ≤ 2147483647) := ⟨i32_lo _, i32_hi _⟩
  have bv_11 : ((-2147483648) ≤ v_11.toInt ∧ v_11.toInt ≤ 2147483647) := ⟨i32_lo _, i32_hi _⟩
  have bv_12 : ((-2147483648) ≤ v_12.toInt ∧ v_12.toInt ≤ 2147483647) := ⟨i32_lo _, i32_hi _⟩
  have bv_13 : ((-2147483648) ≤ v_13.toInt ∧ v_13.toInt ≤ 2147483647) := ⟨i32_lo _, i32_hi _⟩
  obtain ⟨g_21, hfo_20, hbg_21⟩ := un_525 (hG _ ma_14) ka_14
  have hnn := hxpre0 a_14 g_21 (by rw [hfo_1]; rfl) hfo_20
  refine lv_iconst (v := 0) hx hb dX3_breaksOf_0 (by decide) ?_
  refine lv_istore_n (lv' := [(3, .int 0), (0, .ref o0), (1, .int p1), (2, .int p2)]) hx hb dX3_breaksOf_1 rfl hl (by decide) rfl (fun ls hl => ?_)
  refine lv_iconst (v := 0) hx hb dX3_breaksOf_2 (by decide) ?_
  refine lv_istore (lv' := [(4, .int 0), (3, .int 0), (0, .ref o0), (1, .int p1), (2, .int p2)]) hx hb dX3_breaksOf_3 hl (by decide) rfl (fun ls hl => ?_)
  have hloop_43 : ∀ (n : Nat), ∀ (y_44 : Int32), (0 ≤ y_44.toInt ∧ y_44.toInt ≤ 8) → ∀ (y_45 : Int32), (0 ≤ y_45.toInt ∧ y_45.toInt ≤ 255) → ∀ (H : Heap) (locs : List Loc), va_P (dC, dI) vwCl (va_pl L f) H → va_S (fun q => q ∈ L) s.heap H locs → 8 - y_44.toInt < (n : Int) → ∀ (ls : Array Slot), lv_has ls 5 [(4, .int y_44), (3, .int y_45), (0, .ref o0), (1, .int p1), (2, .int p2)] → W p l e (headSpec (wU yX3_breaksOf cX3_breaksOf 5 (some .int)) { frames := 3, cells := 0, slots := 0, locals := 75 }).room s m [.ref o0, .int p1, .int p2].toArray below meth c H locs 0 0 (MQ below (va_Qi (fun (r : Int32) (f9 : Nat → va_E) => f = f9 ∧ (0 ≤ r.toInt ∧ r.toInt ≤ 255)) (qP (dC, dI) cI cL cZ cR cG cH L) (fun q => q ∈ L)) [.ref o0, .int p1, .int p2].toArray s 0 0 (fun q => q ∈ L)) (F0 m 5 ls []) := by
    intro n
    induction n with
    | zero => intro y_44 by_44 y_45 by_45 H locs hP hS hmuhloop_43 ls hl; exfalso; omega
    | succ n ih_hloop_43 =>
      intro y_44 by_44 y_45 by_45 H locs hP hS hmuhloop_43 ls hl
      refine lv_iload hx hb dX3_breaksOf_5 (lv_at hl 0 rfl) ?_
      refine lv_aload_n hx hb dX3_breaksOf_7 rfl (lv_at hl 2 rfl) ?_
      refine tk_getP (D := (dC, dI)) (ci := 3) (v := .ref a_2) (C := RX3) (T := TX3) (N := 18) hx hb hU inlX3 hown hK hP mo0 hfo_1 rfl 0 (by decide) (hU _ wd_48) (fun _ h9 => h9) rfl dX3_breaksOf_8 ?_
      obtain ⟨a_48, v_49, a_50, a_51, a_52, a_53, v_54, a_55, a_56, a_57, a_58, a_59, v_60, a_61, a_62, a_63, hfo_47, ⟨ma_48, ka_48⟩, bv_49, ⟨ma_50, ka_50⟩, ⟨ma_51, ka_51⟩, ⟨ma_52, ka_52⟩, ⟨ma_53, ka_53⟩, bv_54, ⟨ma_55, ka_55⟩, ⟨ma_56, ka_56⟩, ⟨ma_57, ka_57⟩, ⟨ma_58, ka_58⟩, ⟨ma_59, ka_59⟩, bv_60, ⟨ma_61, ka_61⟩, ⟨ma_62, ka_62⟩, ⟨ma_63, ka_63⟩⟩ := un_7 (hG _ ma_2) ka_2
      refine tk_getP (D := (dC, dI)) (ci := 7) (v := .int v_60) (C := RX7) (T := TX7) (N := 16) hx hb hU inlX7 hown hK hP ma_2 hfo_47 rfl 12 (by decide) (hU _ wd_741) (fun _ h9 => h9) rfl dX3_breaksOf_11 ?_
      refine lv_icmp_ge (tgt := 62) hx hb dX3_breaksOf_14 (by decide) (fun c_64 => ?_) (fun c_64 => ?_)
      · skip
        rw [Int32.le_iff_toInt_le] at c_64
        refine lv_iload_n hx hb dX3_breaksOf_62 rfl (lv_at hl 1 rfl) ?_
        exact W.iret (v := y_45) hx hb hr (fun t ht hW => ⟨⟨y_45, f, rfl, ⟨rfl, (by constructor <;> omega)⟩, by rw [ht]; exact hP, va_K.moved hW.alike hK, pl_in hD⟩, hS.F ht⟩) hS.2.2 dX3_breaksOf_63
      · skip
        rw [Int32.le_iff_toInt_le] at c_64
        refine lv_iload_n hx hb dX3_breaksOf_17 rfl (lv_at hl 3 rfl) ?_
        refine lv_iload hx hb dX3_breaksOf_18 (lv_at hl 0 rfl) ?_
        refine lv_ishr hx hb dX3_breaksOf_20 ?_
        refine lv_topi (fun x_65 ex_65 => ?_)
        have bx_65 : ((-2147483648) ≤ x_65.toInt ∧ x_65.toInt ≤ 2147483647) := ⟨i32_lo _, i32_hi _⟩
        refine lv_iconst (v := 1) hx hb dX3_breaksOf_21 (by decide) ?_
        refine lv_iand hx hb dX3_breaksOf_22 ?_
        refine lv_topi (fun x_66 ex_66 => ?_)
        have bx_66 : (0 ≤ x_66.toInt ∧ x_66.toInt ≤ 1) := by rw [ex_66]; have h8 := an_C x_65 (m := 1) (by decide); rw [ti_1] at h8; exact h8
        refine lv_iconst (v := 1) hx hb dX3_breaksOf_23 (by decide) ?_
        have hcut_69 : ∀ (y_67 : Int32), (0 ≤ y_67.toInt ∧ y_67.toInt ≤ 255) → ∀ (H : Heap) (locs : List Loc), va_P (dC, dI) vwCl (va_pl L f) H → va_S (fun q => q ∈ L) s.heap H locs → ∀ (ls : Array Slot), lv_has ls 5 [(4, .int y_44), (3, .int y_67), (0, .ref o0), (1, .int p1), (2, .int p2)] → W p l e (headSpec (wU yX3_breaksOf cX3_breaksOf 5 (some .int)) { frames := 3, cells := 0, slots := 0, locals := 75 }).room s m [.ref o0, .int p1, .int p2].toArray below meth c H locs 0 0 (MQ below (va_Qi (fun (r : Int32) (f9 : Nat → va_E) => f = f9 ∧ (0 ≤ r.toInt ∧ r.toInt ≤ 255)) (qP (dC, dI) cI cL cZ cR cG cH L) (fun q => q ∈ L)) [.ref o0, .int p1, .int p2].toArray s 0 0 (fun q => q ∈ L)) (F0 m 56 ls []) := by
          intro y_67 by_67 H locs hP hS ls hl
          obtain ⟨x_70, ex_70⟩ : ∃ y : Int32, y_44 + 1 = y := ⟨_, rfl⟩
          have hx_70 : x_70.toInt = y_44.toInt + 1 := by rw [← ex_70, ad_I (by rw [ti_1]; omega) (by rw [ti_1]; omega), ti_1]
          have bx_70 : (1 ≤ x_70.toInt ∧ x_70.toInt ≤ 8) := by constructor <;> omega
          refine lv_iinc (v := x_70) (lv' := [(4, .int x_70), (3, .int y_67), (0, .ref o0), (1, .int p1), (2, .int p2)]) hx hb dX3_breaksOf_56 hl (k := 0) rfl ex_70 (by decide) rfl (fun ls hl => ?_)
          refine lv_goto (tgt := 5) hx hb dX3_breaksOf_59 (by decide) ?_
          exact ih_hloop_43 x_70 (by constructor <;> omega) y_67 (by constructor <;> omega) _ _ hP hS (by omega) ls (lv_sub hl [0, 1, 2, 3, 4] rfl)
        refine lv_icmp_ne (tgt := 56) hx hb dX3_breaksOf_24 (by decide) (fun c_71 => ?_) (fun c_71 => ?_)
        · skip
          rw [← Int32.toInt_inj, ti_1] at c_71
          exact hcut_69 y_45 (by constructor <;> omega) _ _ hP hS ls (lv_sub hl [0, 1, 2, 3, 4] rfl)
        · skip
          rw [← Int32.toInt_inj, ti_1] at c_71
          refine lv_aload_n hx hb dX3_breaksOf_27 rfl (lv_at hl 2 rfl) ?_
          refine tk_getP (D := (dC, dI)) (ci := 3) (v := .ref a_2) (C := RX3) (T := TX3) (N := 18) hx hb hU inlX3 hown hK hP mo0 hfo_1 rfl 0 (by decide) (hU _ wd_48) (fun _ h9 => h9) rfl dX3_breaksOf_28 ?_
          refine tk_getP (D := (dC, dI)) (ci := 7) (v := .ref a_59) (C := RX7) (T := TX7) (N := 16) hx hb hU inlX7 hown hK hP ma_2 hfo_47 rfl 11 (by decide) (hU _ wd_742) (fun _ h9 => h9) rfl dX3_breaksOf_31 ?_
          refine lv_iload hx hb dX3_breaksOf_34 (lv_at hl 0 rfl) ?_
          obtain ⟨g_73, hfo_72, hbg_73⟩ := un_515 (hG _ ma_59) ka_59
          obtain ⟨a_74, hga_74, ma_74, ka_74⟩ := hbg_73 (Int32.toNatClampNeg y_44) (in_lt (vp_in_iff.mpr (by constructor <;> omega)))
          refine tk_aldP hx hb hK hP 3 ma_59 hfo_72 rfl (vp_in_iff.mpr (by constructor <;> omega)) hga_74 dX3_breaksOf_36 ?_
          refine lv_aload_n hx hb dX3_breaksOf_37 rfl (lv_at hl 2 rfl) ?_
          refine tk_getP (D := (dC, dI)) (ci := 3) (v := .ref a_14) (C := RX3) (T := TX3) (N := 18) hx hb hU inlX3 hown hK hP mo0 hfo_1 rfl 12 (by decide) (hU _ wd_63) (fun _ h9 => h9) rfl dX3_breaksOf_38 ?_
          refine lv_iload_n hx hb dX3_breaksOf_41 rfl (lv_at hl 4 rfl) ?_
          obtain ⟨v_76, v_77, v_78, v_79, a_80, a_81, a_82, a_83, v_84, v_85, v_86, hfo_75, bv_76, bv_77, bv_78, bv_79, ⟨ma_80, ka_80⟩, ⟨ma_81, ka_81⟩, ⟨ma_82, ka_82⟩, ⟨ma_83, ka_83⟩⟩ := un_4 (hG _ ma_74) ka_74
          have bv_84 : ((-2147483648) ≤ v_84.toInt ∧ v_84.toInt ≤ 2147483647) := ⟨i32_lo _, i32_hi _⟩
          have bv_85 : ((-2147483648) ≤ v_85.toInt ∧ v_85.toInt ≤ 2147483647) := ⟨i32_lo _, i32_hi _⟩
          have bv_86 : ((-2147483648) ≤ v_86.toInt ∧ v_86.toInt ≤ 2147483647) := ⟨i32_lo _, i32_hi _⟩
          refine tk_ViP (As := [.ref a_14, .int p2]) (rest := []) (n := 2) hx hb hml hown hU hN hZ (s_X4_firstBreak_k4_a525_n l (dC, dI) cI cL cZ cR cG cH Z kd L f hG a_74 ma_74 ka_74 a_14 ma_14 ka_14 p2 (by constructor <;> omega) (fun g9 h9 j hj => by rw [hfo_20] at h9; cases h9; have h8 := hnn j (by omega); omega)) wd_1034 wd_1035 wd_1036 wd_90 wd_1037 (by decide +kernel) ⟨Nat.le_of_ble_eq_true rfl, Nat.le_of_ble_eq_true rfl⟩ hK hP hD hS ma_74 hfo_75 4 rfl rfl rfl hl.1 rfl (Nat.le_of_ble_eq_true rfl) dX3_breaksOf_42 ⟨Nat.le_of_ble_eq_true rfl, Nat.le_of_ble_eq_true rfl⟩ (fun x_87 f_88 H locs hw hP hD hS => ?_)
          obtain ⟨rfl, bx_87⟩ := hw
          refine lv_iconst (v := (-1)) hx hb dX3_breaksOf_45 (by decide) ?_
          refine lv_icmp_eq (tgt := 56) hx hb dX3_breaksOf_46 (by decide) (fun c_90 => ?_) (fun c_90 => ?_)
          · skip
            rw [← Int32.toInt_inj, ti_m1] at c_90
            exact hcut_69 y_45 (by constructor <;> omega) _ _ hP hS ls (lv_sub hl [0, 1, 2, 3, 4] rfl)
          · skip
            rw [← Int32.toInt_inj, ti_m1] at c_90
            refine lv_iload_n hx hb dX3_breaksOf_49 rfl (lv_at hl 1 rfl) ?_
            refine lv_iconst (v := 1) hx hb dX3_breaksOf_50 (by decide) ?_
            refine lv_iload hx hb dX3_breaksOf_51 (lv_at hl 0 rfl) ?_
            refine lv_ishl hx hb dX3_breaksOf_53 ?_
            refine lv_topi (fun x_91 ex_91 => ?_)
            have bx_91 : (1 ≤ x_91.toInt ∧ x_91.toInt ≤ 128) := by rw [ex_91]; exact sh_7 (by constructor <;> omega)
            refine lv_ior hx hb dX3_breaksOf_54 ?_
            refine lv_topi (fun x_92 ex_92 => ?_)
            have bx_92 : (0 ≤ x_92.toInt ∧ x_92.toInt ≤ 255) := by rw [ex_92]; exact or_K 8 (by decide) (by constructor <;> omega) (by constructor <;> omega)
            refine lv_istore_n (lv' := [(3, .int x_92), (4, .int y_44), (0, .ref o0), (1, .int p1), (2, .int p2)]) hx hb dX3_breaksOf_55 rfl hl (by decide) rfl (fun ls hl => ?_)
            exact hcut_69 x_92 (by constructor <;> omega) _ _ hP hS ls (lv_sub hl [1, 0, 2, 3, 4] rfl)
  exact hloop_43 9 0 (by decide) 0 (by decide) _ _ hP hS (by (try rw [ti_0]) <;> omega) ls hl
set_option maxHeartbeats 8000000 in
set_option maxRecDepth 100000 in
theorem s_X3_align_k3_a505 (l : Launch) (D : va_G) (cI cL cZ cR cG cH : ClassId) (Z : zT) (kd : Nat → Nat) (L : List Nat) (f : Nat → va_E) (hG : GI (okc cI cL cZ cR cG cH L kd) kd L f) (o0 : Nat) (mo0 : o0 ∈ L) (ko0 : kd o0 = 3) (o1 : Nat) (mo1 : o1 ∈ L) (ko1 : kd o1 = 505) (p2 : Int32) (bp2 : (0 ≤ p2.toInt ∧ p2.toInt ≤ 12)) (p3 : Int32) (p4 : Int32) (bp4 : (0 ≤ p4.toInt ∧ p4.toInt ≤ 1)) : mPI l D cI cL cZ cR cG cH Z yX3_align cX3_align 10 (some .int) 4 99 [.ref o0, .ref o1, .int p2, .int p3, .int p4] L f (fun (r : Int32) (f9 : Nat → va_E) => GI (okc cI cL cZ cR cG cH L kd) kd L f9 ∧ (0 ≤ r.toInt ∧ r.toInt ≤ 9) ∧ (∀ b, kd b ≠ 525 → kd b ≠ 527 → f9 b = f b)) := by
  obtain ⟨dC, dI⟩ := D
  refine Met.ofW (cc := cX3_align) (maxL := 10) (ret := (some .int)) (by decide) rfl ?_
  intro p e s m args below meth c s₁ B hml hv
  obtain ⟨rfl, hP, hK, hD0, hN, hZ⟩ := hv
  have hx := B.exec
  have hb := B.bytes
  have hr := B.returns
  have hU : ∀ w ∈ wsU, w.before _ s = true := fun w h => atoms_spec (ws := wU yX3_align cX3_align 10 (some .int)) B.pre w (List.mem_cons_of_mem _ h)
  have hown : s.vm.findClass RX3 = some m.cls := findClass_of_methodNamed B.named
  have hlocks := B.notSynchronized
  have hD := pl_in hD0
  have hS : va_S (fun q => q ∈ L) s.heap s.heap [] := va_S.rf
  have hl := lv_entry ([.ref o0, .ref o1, .int p2, .int p3, .int p4]) (n := 10) (Nat.le_of_ble_eq_true rfl)
  rw [lg_entry_eq]
  generalize (lg_sl ([.ref o0, .ref o1, .int p2, .int p3, .int p4]) ++ List.replicate (10 - (lg_sl ([.ref o0, .ref o1, .int p2, .int p3, .int p4])).length) Slot.unset).toArray = ls at hl ⊢
  have hl : lv_has ls 10 [(0, .ref o0), (1, .ref o1), (2, .int p2), (3, .int p3), (4, .int p4)] := hl
  have bp3 : ((-2147483648) ≤ p3.toInt ∧ p3.toInt ≤ 2147483647) := ⟨i32_lo _, i32_hi _⟩
  have hfr0 : ∀ b, kd b ≠ 525 → kd b ≠ 527 → f b = f b := fun _ _ _ => rfl
  refine lv_iload_n hx hb dX3_align_0 rfl (lv_at hl 2 rfl) ?_
  refine lv_aload_n hx hb dX3_align_1 rfl (lv_at hl 0 rfl) ?_
  obtain ⟨a_2, a_3, a_4, a_5, a_6, v_7, v_8, v_9, v_10, v_11, v_12, v_13, a_14, a_15, a_16, v_17, a_18, a_19, hfo_1, ⟨ma_2, ka_2⟩, ⟨ma_3, ka_3⟩, ⟨ma_4, ka_4⟩, ⟨ma_5, ka_5⟩, ⟨ma_6, ka_6⟩, bv_7, bv_8, bv_9, ⟨ma_14, ka_14⟩, ⟨ma_15, ka_15⟩, ⟨ma_16, ka_16⟩, bv_17, ⟨ma_18, ka_18⟩, ⟨ma_19, ka_19⟩⟩ := un_3 (hG _ mo0) ko0
  have bv_10 : ((-2147483648) ≤ v_10.toInt ∧ v_10.toInt ≤ 2147483647) := ⟨i32_lo _, i32_hi _⟩
  have bv_11 : ((-2147483648) ≤ v_11.toInt ∧ v_11.toInt ≤ 2147483647) := ⟨i32_lo _, i32_hi _⟩
  have bv_12 : ((-2147483648) ≤ v_12.toInt ∧ v_12.toInt ≤ 2147483647) := ⟨i32_lo _, i32_hi _⟩
  have bv_13 : ((-2147483648) ≤ v_13.toInt ∧ v_13.toInt ≤ 2147483647) := ⟨i32_lo _, i32_hi _⟩
  refine tk_getP (D := (dC, dI)) (ci := 3) (v := .int v_7) (C := RX3) (T := TX3) (N := 18) hx hb hU inlX3 hown hK hP mo0 hfo_1 rfl 5 (by decide) (hU _ wd_726) (fun _ h9 => h9) rfl dX3_align_2 ?_
  refine lv_isub hx hb dX3_align_5 ?_
  refine lv_topi (fun x_20 ex_20 => ?_)
  have hx_20 : x_20.toInt = p2.toInt - v_7.toInt := by rw [ex_20, sb_I (by omega) (by omega)]
  have bx_20 : ((-8) ≤ x_20.toInt ∧ x_20.toInt ≤ 12) := by constructor <;> omega
  refine lv_istore (lv' := [(5, .int x_20), (0, .ref o0), (1, .ref o1), (2, .int p2), (3, .int p3), (4, .int p4)]) hx hb dX3_align_6 hl (by decide) rfl (fun ls hl => ?_)
  refine lv_iload_n hx hb dX3_align_8 rfl (lv_at hl 3 rfl) ?_
  refine lv_aload_n hx hb dX3_align_9 rfl (lv_at hl 1 rfl) ?_
  refine tk_getP (D := (dC, dI)) (ci := 3) (v := .int v_7) (C := RX3) (T := TX3) (N := 18) hx hb hU inlX3 hown hK hP mo0 hfo_1 rfl 5 (by decide) (hU _ wd_726) (fun _ h9 => h9) rfl dX3_align_10 ?_
  refine va_mmax hx hb (by rw [hml]; exact hl.1.symm) hown (hU _ wd_723) (hU _ wd_724) (hU _ wd_249) (hU _ wd_725) (Nat.le_of_ble_eq_true rfl) (Nat.le_of_ble_eq_true rfl) (Nat.le_of_ble_eq_true rfl) (Nat.le_of_ble_eq_true rfl) dX3_align_13 ?_
  refine lv_topi (fun x_21 ex_21 => ?_)
  have hx_21 := max_I ex_21
  have bx_21 : (0 ≤ x_21.toInt ∧ x_21.toInt ≤ 12) := by constructor <;> omega
  refine lv_istore (lv' := [(6, .int x_21), (5, .int x_20), (0, .ref o0), (1, .ref o1), (2, .int p2), (3, .int p3), (4, .int p4)]) hx hb dX3_align_16 hl (by decide) rfl (fun ls hl => ?_)
  refine lv_iload hx hb dX3_align_18 (lv_at hl 1 rfl) ?_
  refine va_mabs hx hb (by rw [hml]; exact hl.1.symm) hown (hU _ wd_1022) (hU _ wd_1023) (hU _ wd_249) (hU _ wd_1024) (Nat.le_of_ble_eq_true rfl) (Nat.le_of_ble_eq_true rfl) (Nat.le_of_ble_eq_true rfl) (Nat.le_of_ble_eq_true rfl) dX3_align_20 ?_
  refine lv_topi (fun x_22 ex_22 => ?_)
  have hx_22 := abs_I (by omega) ex_22
  have bx_22 : (0 ≤ x_22.toInt ∧ x_22.toInt ≤ 12) := by constructor <;> omega
  refine lv_iload hx hb dX3_align_23 (lv_at hl 6 rfl) ?_
  refine lv_icmp_gt (tgt := 35) hx hb dX3_align_25 (by decide) (fun c_23 => ?_) (fun c_23 => ?_)
  · skip
    rw [Int32.lt_iff_toInt_lt] at c_23
    refine lv_iconst (v := 0) hx hb dX3_align_35 (by decide) ?_
    exact W.iret (v := 0) hx hb hr (fun t ht hW => ⟨⟨0, f, rfl, ⟨hG, (by decide), hfr0⟩, by rw [ht]; exact hP, va_K.moved hW.alike hK, pl_in hD⟩, hS.F ht⟩) hS.2.2 dX3_align_36
  · skip
    rw [Int32.lt_iff_toInt_lt] at c_23
    refine lv_iload hx hb dX3_align_28 (lv_at hl 0 rfl) ?_
    refine lv_bipush (v := 9) hx hb dX3_align_30 (by decide) ?_
    refine lv_icmp_le (tgt := 37) hx hb dX3_align_32 (by decide) (fun c_24 => ?_) (fun c_24 => ?_)
    · skip
      rw [Int32.le_iff_toInt_le, ti_9] at c_24
      have hclc_25 : ((-1) ≤ x_20.toInt ∧ x_20.toInt ≤ 1) := by constructor <;> omega
      refine lv_iconst (v := 0) hx hb dX3_align_37 (by decide) ?_
      refine lv_istore (lv' := [(7, .int 0), (6, .int x_21), (5, .int x_20), (0, .ref o0), (1, .ref o1), (2, .int p2), (3, .int p3), (4, .int p4)]) hx hb dX3_align_38 hl (by decide) rfl (fun ls hl => ?_)
      refine lv_iload hx hb dX3_align_40 (lv_at hl 2 rfl) ?_
      have hcut_27 : ∀ (y_26 : Int32), (0 ≤ y_26.toInt ∧ y_26.toInt ≤ 9) → ((x_20.toInt = 0 ∧ y_26.toInt = 1) ∨ ((x_20.toInt = 1 ∨ x_20.toInt = -1) ∧ y_26.toInt = x_21.toInt)) → ∀ (ls : Array Slot), lv_has ls 10 [(7, .int 0), (6, .int x_21), (5, .int x_20), (0, .ref o0), (1, .ref o1), (2, .int p2), (3, .int p3), (4, .int p4)] → W p l e (headSpec (wU yX3_align cX3_align 10 (some .int)) { frames := 4, cells := 0, slots := 0, locals := 99 }).room s m [.ref o0, .ref o1, .int p2, .int p3, .int p4].toArray below meth c s.heap [] 0 0 (MQ below (va_Qi (fun (r : Int32) (f9 : Nat → va_E) => GI (okc cI cL cZ cR cG cH L kd) kd L f9 ∧ (0 ≤ r.toInt ∧ r.toInt ≤ 9) ∧ (∀ b, kd b ≠ 525 → kd b ≠ 527 → f9 b = f b)) (qP (dC, dI) cI cL cZ cR cG cH L) (fun q => q ∈ L)) [.ref o0, .ref o1, .int p2, .int p3, .int p4].toArray s 0 0 (fun q => q ∈ L)) (F0 m 51 ls [.int y_26]) := by
        intro y_26 by_26 hjhcut_27_0 ls hl
        refine lv_istore (lv' := [(8, .int y_26), (7, .int 0), (6, .int x_21), (5, .int x_20), (0, .ref o0), (1, .ref o1), (2, .int p2), (3, .int p3), (4, .int p4)]) hx hb dX3_align_51 hl (by decide) rfl (fun ls hl => ?_)
        refine lv_iconst (v := 0) hx hb dX3_align_53 (by decide) ?_
        refine lv_istore (lv' := [(9, .int 0), (8, .int y_26), (7, .int 0), (6, .int x_21), (5, .int x_20), (0, .ref o0), (1, .ref o1), (2, .int p2), (3, .int p3), (4, .int p4)]) hx hb dX3_align_54 hl (by decide) rfl (fun ls hl => ?_)
        have hloop_46 : ∀ (n : Nat), ∀ (y_47 : Int32), (0 ≤ y_47.toInt ∧ y_47.toInt ≤ 9) → ∀ (y_48 : Int32), (0 ≤ y_48.toInt ∧ y_48.toInt ≤ 9) → ∀ (f_50 : Nat → va_E), GI (okc cI cL cZ cR cG cH L kd) kd L f_50 → ∀ (H : Heap) (locs : List Loc), va_P (dC, dI) vwCl (va_pl L f_50) H → va_S (fun q => q ∈ L) s.heap H locs → va_D (fun q => q ∈ L) (va_pl L f_50) → (∀ b, kd b ≠ 525 → kd b ≠ 527 → f_50 b = f b) → (f_50 o0 = .inr (3, [.ref a_2, .ref a_3, .ref a_4, .ref a_5, .ref a_6, .int v_7, .int v_8, .int v_9, .int v_10, .int v_11, .int v_12, .int v_13, .ref a_14, .ref a_15, .ref a_16, .int v_17, .ref a_18, .ref a_19])) → (y_48.toInt ≤ y_47.toInt) → 9 - y_47.toInt < (n : Int) → ∀ (ls : Array Slot), lv_has ls 10 [(9, .int y_47), (8, .int y_26), (7, .int y_48), (6, .int x_21), (5, .int x_20), (0, .ref o0), (1, .ref o1), (2, .int p2), (3, .int p3), (4, .int p4)] → W p l e (headSpec (wU yX3_align cX3_align 10 (some .int)) { frames := 4, cells := 0, slots := 0, locals := 99 }).room s m [.ref o0, .ref o1, .int p2, .int p3, .int p4].toArray below meth c H locs 0 0 (MQ below (va_Qi (fun (r : Int32) (f9 : Nat → va_E) => GI (okc cI cL cZ cR cG cH L kd) kd L f9 ∧ (0 ≤ r.toInt ∧ r.toInt ≤ 9) ∧ (∀ b, kd b ≠ 525 → kd b ≠ 527 → f9 b = f b)) (qP (dC, dI) cI cL cZ cR cG cH L) (fun q => q ∈ L)) [.ref o0, .ref o1, .int p2, .int p3, .int p4].toArray s 0 0 (fun q => q ∈ L)) (F0 m 56 ls []) := by
          intro n
          induction n with
          | zero => intro y_47 by_47 y_48 by_48 f_50 hG H locs hP hS hD hfr0 hfo_51 hrelhloop_46_0 hmuhloop_46 ls hl; exfalso; omega
          | succ n ih_hloop_46 =>
            intro y_47 by_47 y_48 by_48 f_50 hG H locs hP hS hD hfr0 hfo_51 hrelhloop_46_0 hmuhloop_46 ls hl
            refine lv_iload hx hb dX3_align_56 (lv_at hl 0 rfl) ?_
            refine lv_iload hx hb dX3_align_58 (lv_at hl 1 rfl) ?_
            refine lv_icmp_ge (tgt := 100) hx hb dX3_align_60 (by decide) (fun c_52 => ?_) (fun c_52 => ?_)
            · skip
              rw [Int32.le_iff_toInt_le] at c_52
              refine lv_iload hx hb dX3_align_100 (lv_at hl 2 rfl) ?_
              exact W.iret (v := y_48) hx hb hr (fun t ht hW => ⟨⟨y_48, f_50, rfl, ⟨hG, (by constructor <;> omega), hfr0⟩, by rw [ht]; exact hP, va_K.moved hW.alike hK, pl_in hD⟩, hS.F ht⟩) hS.2.2 dX3_align_102
            · skip
              rw [Int32.le_iff_toInt_le] at c_52
              refine lv_aload_n hx hb dX3_align_63 rfl (lv_at hl 5 rfl) ?_
              refine lv_aload_n hx hb dX3_align_64 rfl (lv_at hl 6 rfl) ?_
              refine lv_iload hx hb dX3_align_65 (lv_at hl 4 rfl) ?_
              refine lv_iload hx hb dX3_align_67 (lv_at hl 0 rfl) ?_
              refine lv_iload hx hb dX3_align_69 (lv_at hl 3 rfl) ?_
              refine tk_ViP (As := [.ref o1, .int x_20, .int y_47, .int x_21]) (rest := []) (n := 4) hx hb hml hown hU hN hZ (s_X3_layRow_k3_a505 l (dC, dI) cI cL cZ cR cG cH Z kd L f_50 hG o0 mo0 ko0 o1 mo1 ko1 x_20 (by constructor <;> omega) y_47 (by constructor <;> omega) x_21 (by constructor <;> omega) (by omega)) wd_1025 wd_1026 wd_1027 wd_16 wd_1028 (by decide +kernel) ⟨Nat.le_of_ble_eq_true rfl, Nat.le_of_ble_eq_true rfl⟩ hK hP hD hS mo0 hfo_51 3 rfl rfl rfl hl.1 rfl (Nat.le_of_ble_eq_true rfl) dX3_align_71 ⟨Nat.le_of_ble_eq_true rfl, Nat.le_of_ble_eq_true rfl⟩ (fun x_53 f_54 H locs hw hP hD hS => ?_)
              obtain ⟨hG, bx_53, hkc_55, hxp_56⟩ := hw
              have hfo_58 : f_54 o0 = .inr (3, [.ref a_2, .ref a_3, .ref a_4, .ref a_5, .ref a_6, .int v_7, .int v_8, .int v_9, .int v_10, .int v_11, .int v_12, .int v_13, .ref a_14, .ref a_15, .ref a_16, .int v_17, .ref a_18, .ref a_19]) := by rw [hkc_55 o0 (by rw [ko0]; decide)]; exact hfo_51
              have hfr0 : ∀ b, kd b ≠ 525 → kd b ≠ 527 → f_54 b = f b := fun b q525 q527 => (hkc_55 b q525).trans (hfr0 b q525 q527)
              have hcut_63 : ∀ (y_59 : Int32), (0 ≤ y_59.toInt ∧ y_59.toInt ≤ 9) → ∀ (f_61 : Nat → va_E), GI (okc cI cL cZ cR cG cH L kd) kd L f_61 → ∀ (H : Heap) (locs : List Loc), va_P (dC, dI) vwCl (va_pl L f_61) H → va_S (fun q => q ∈ L) s.heap H locs → va_D (fun q => q ∈ L) (va_pl L f_61) → (∀ b, kd b ≠ 525 → kd b ≠ 527 → f_61 b = f b) → (f_61 o0 = .inr (3, [.ref a_2, .ref a_3, .ref a_4, .ref a_5, .ref a_6, .int v_7, .int v_8, .int v_9, .int v_10, .int v_11, .int v_12, .int v_13, .ref a_14, .ref a_15, .ref a_16, .int v_17, .ref a_18, .ref a_19])) → (y_59.toInt ≤ y_47.toInt + 1) → ∀ (ls : Array Slot), lv_has ls 10 [(9, .int y_47), (8, .int y_26), (7, .int y_59), (6, .int x_21), (5, .int x_20), (0, .ref o0), (1, .ref o1), (2, .int p2), (3, .int p3), (4, .int p4)] → W p l e (headSpec (wU yX3_align cX3_align 10 (some .int)) { frames := 4, cells := 0, slots := 0, locals := 99 }).room s m [.ref o0, .ref o1, .int p2, .int p3, .int p4].toArray below meth c H locs 0 0 (MQ below (va_Qi (fun (r : Int32) (f9 : Nat → va_E) => GI (okc cI cL cZ cR cG cH L kd) kd L f9 ∧ (0 ≤ r.toInt ∧ r.toInt ≤ 9) ∧ (∀ b, kd b ≠ 525 → kd b ≠ 527 → f9 b = f b)) (qP (dC, dI) cI cL cZ cR cG cH L) (fun q => q ∈ L)) [.ref o0, .ref o1, .int p2, .int p3, .int p4].toArray s 0 0 (fun q => q ∈ L)) (F0 m 94 ls []) := by
                intro y_59 by_59 f_61 hG H locs hP hS hD hfr0 hfo_62 hjhcut_63_0 ls hl
                obtain ⟨x_64, ex_64⟩ : ∃ y : Int32, y_47 + 1 = y := ⟨_, rfl⟩
                have hx_64 : x_64.toInt = y_47.toInt + 1 := by rw [← ex_64, ad_I (by rw [ti_1]; omega) (by rw [ti_1]; omega), ti_1]
                have bx_64 : (1 ≤ x_64.toInt ∧ x_64.toInt ≤ 9) := by constructor <;> omega
                refine lv_iinc (v := x_64) (lv' := [(9, .int x_64), (8, .int y_26), (7, .int y_59), (6, .int x_21), (5, .int x_20), (0, .ref o0), (1, .ref o1), (2, .int p2), (3, .int p3), (4, .int p4)]) hx hb dX3_align_94 hl (k := 0) rfl ex_64 (by decide) rfl (fun ls hl => ?_)
                refine lv_goto (tgt := 56) hx hb dX3_align_97 (by decide) ?_
                exact ih_hloop_46 x_64 (by constructor <;> omega) y_59 (by constructor <;> omega) f_61 hG _ _ hP hS hD hfr0 hfo_62 (by omega) (by omega) ls (lv_sub hl [0, 1, 2, 3, 4, 5, 6, 7, 8, 9] rfl)
              refine lv_if_eq (tgt := 94) hx hb dX3_align_74 (by decide) (fun c_65 => ?_) (fun c_65 => ?_)
              · skip
                rw [← Int32.toInt_inj, ti_0] at c_65
                exact hcut_63 y_48 (by constructor <;> omega) f_54 hG _ _ hP hS hD hfr0 hfo_58 (by omega) ls (lv_sub hl [0, 1, 2, 3, 4, 5, 6, 7, 8, 9] rfl)
              · skip
                rw [← Int32.toInt_inj, ti_0] at c_65
                refine lv_aload_n hx hb dX3_align_77 rfl (lv_at hl 5 rfl) ?_
                refine tk_getP (D := (dC, dI)) (ci := 3) (v := .ref a_16) (C := RX3) (T := TX3) (N := 18) hx hb hU inlX3 hown hK hP mo0 hfo_58 rfl 14 (by decide) (hU _ wd_65) (fun _ h9 => h9) rfl dX3_align_78 ?_
                refine lv_iload hx hb dX3_align_81 (lv_at hl 2 rfl) ?_
                refine lv_aload_n hx hb dX3_align_83 rfl (lv_at hl 5 rfl) ?_
                refine lv_iload_n hx hb dX3_align_84 rfl (lv_at hl 8 rfl) ?_
                refine lv_iload hx hb dX3_align_85 (lv_at hl 3 rfl) ?_
                refine tk_ViP (As := [.int p3, .int x_21]) (rest := [.int y_48, .ref a_16]) (n := 2) hx hb hml hown hU hN hZ (s_X3_breaksOf_k3 l (dC, dI) cI cL cZ cR cG cH Z kd L f_54 hG o0 mo0 ko0 p3 x_21 (by constructor <;> omega) (fun b9 g9 h1 h2 => (hxp_56 b9 g9 h1 h2).resolve_left (by omega))) wd_1030 wd_1031 wd_1032 wd_16 wd_1033 (by decide +kernel) ⟨Nat.le_of_ble_eq_true rfl, Nat.le_of_ble_eq_true rfl⟩ hK hP hD hS mo0 hfo_58 3 rfl rfl rfl hl.1 rfl (Nat.le_of_ble_eq_true rfl) dX3_align_87 ⟨Nat.le_of_ble_eq_true rfl, Nat.le_of_ble_eq_true rfl⟩ (fun x_66 f_67 H locs hw hP hD hS => ?_)
                obtain ⟨rfl, bx_66⟩ := hw
                obtain ⟨g_70, hfo_69, hbg_70⟩ := un_527 (hG _ ma_16) ka_16
                refine tk_istP hx hb hK hP hD hS 0 ma_16 hfo_69 rfl (vp_in_iff.mpr (by constructor <;> omega)) dX3_align_90 (fun H locs hP hD hS => ?_)
                obtain ⟨f_72, ef_72⟩ : ∃ y : Nat → va_E, y = va_up f_54 a_16 (.inl (cI, 1024, .inl (upd g_70 (Int32.toNatClampNeg y_48) x_66))) := ⟨_, rfl⟩
                have hP : va_P (dC, dI) vwCl (va_pl L f_72) H := by rw [ef_72]; exact hP
                have hD : va_D (fun q => q ∈ L) (va_pl L f_72) := by rw [ef_72]; exact hD
                have hG : GI (okc cI cL cZ cR cG cH L kd) kd L f_72 := by rw [ef_72]; exact hG.set a_16 (mk_527 ka_16 ⟨_, rfl, okI_up hbg_70 (by constructor <;> omega) _⟩)
                have hfo_73 : f_72 o0 = .inr (3, [.ref a_2, .ref a_3, .ref a_4, .ref a_5, .ref a_6, .int v_7, .int v_8, .int v_9, .int v_10, .int v_11, .int v_12, .int v_13, .ref a_14, .ref a_15, .ref a_16, .int v_17, .ref a_18, .ref a_19]) := by rw [ef_72, up_ne (kd_ne ka_16 ko0 (by decide))]; exact hfo_58
                have hfr0 : ∀ b, kd b ≠ 525 → kd b ≠ 527 → f_72 b = f b := fun b q525 q527 => (congrFun ef_72 b).trans ((up_ne (fun e9 => q527 (by rw [e9]; exact ka_16))).trans (hfr0 b q525 q527))
                have hfo_74 : f_72 a_16 = .inl (cI, 1024, .inl (upd g_70 (Int32.toNatClampNeg y_48) x_66)) := by rw [ef_72]; exact up_self
                obtain ⟨x_75, ex_75⟩ : ∃ y : Int32, y_48 + 1 = y := ⟨_, rfl⟩
                have hx_75 : x_75.toInt = y_48.toInt + 1 := by rw [← ex_75, ad_I (by rw [ti_1]; omega) (by rw [ti_1]; omega), ti_1]
                have bx_75 : (1 ≤ x_75.toInt ∧ x_75.toInt ≤ 10) := by constructor <;> omega
                refine lv_iinc (v := x_75) (lv' := [(7, .int x_75), (9, .int y_47), (8, .int y_26), (6, .int x_21), (5, .int x_20), (0, .ref o0), (1, .ref o1), (2, .int p2), (3, .int p3), (4, .int p4)]) hx hb dX3_align_91 hl (k := 2) rfl ex_75 (by decide) rfl (fun ls hl => ?_)
                exact hcut_63 x_75 (by constructor <;> omega) f_72 hG _ _ hP hS hD hfr0 hfo_73 (by omega) ls (lv_sub hl [1, 2, 0, 3, 4, 5, 6, 7, 8, 9] rfl)
        exact hloop_46 10 0 (by decide) 0 (by decide) f hG _ _ hP hS hD hfr0 hfo_1 (by (try rw [ti_0]) <;> omega) (by (try rw [ti_0]) <;> omega) ls hl
      refine lv_if_ne (tgt := 49) hx hb dX3_align_42 (by decide) (fun c_76 => ?_) (fun c_76 => ?_)
      · skip
        rw [← Int32.toInt_inj, ti_0] at c_76
        refine lv_iload hx hb dX3_align_49 (lv_at hl 1 rfl) ?_
        exact hcut_27 x_21 (by constructor <;> omega) (by (try rw [ti_0]) <;> omega) ls (lv_sub hl [0, 1, 2, 3, 4, 5, 6, 7] rfl)
      · skip
        rw [← Int32.toInt_inj, ti_0] at c_76
        refine lv_iconst (v := 1) hx hb dX3_align_45 (by decide) ?_
        refine lv_goto (tgt := 51) hx hb dX3_align_46 (by decide) ?_
        exact hcut_27 1 (by decide) (by (try rw [ti_1]) <;> (try rw [ti_0]) <;> omega) ls (lv_sub hl [0, 1, 2, 3, 4, 5, 6, 7] rfl)
    · skip
      rw [Int32.le_iff_toInt_le, ti_9] at c_24
      refine lv_iconst (v := 0) hx hb dX3_align_35 (by decide) ?_
      exact W.iret (v := 0) hx hb hr (fun t ht hW => ⟨⟨0, f, rfl, ⟨hG, (by decide), hfr0⟩, by rw [ht]; exact hP, va_K.moved hW.alike hK, pl_in hD⟩, hS.F ht⟩) hS.2.2 dX3_align_36
set_option maxHeartbeats 8000000 in
set_option maxRecDepth 100000 in
theorem s_X3_align_k3_a507 (l : Launch) (D : va_G) (cI cL cZ cR cG cH : ClassId) (Z : zT) (kd : Nat → Nat) (L : List Nat) (f : Nat → va_E) (hG : GI (okc cI cL cZ cR cG cH L kd) kd L f) (o0 : Nat) (mo0 : o0 ∈ L) (ko0 : kd o0 = 3) (o1 : Nat) (mo1 : o1 ∈ L) (ko1 : kd o1 = 507) (p2 : Int32) (bp2 : (0 ≤ p2.toInt ∧ p2.toInt ≤ 8)) (p3 : Int32) (p4 : Int32) (bp4 : (0 ≤ p4.toInt ∧ p4.toInt ≤ 1)) : mPI l D cI cL cZ cR cG cH Z yX3_align cX3_align 10 (some .int) 4 99 [.ref o0, .ref o1, .int p2, .int p3, .int p4] L f (fun (r : Int32) (f9 : Nat → va_E) => GI (okc cI cL cZ cR cG cH L kd) kd L f9 ∧ (0 ≤ r.toInt ∧ r.toInt ≤ 9) ∧ (∀ b, kd b ≠ 525 → kd b ≠ 527 → f9 b = f b)) := by
  obtain ⟨dC, dI⟩ := D
  refine Met.ofW (cc := cX3_align) (maxL := 10) (ret := (some .int)) (by decide) rfl ?_
  intro p e s m args below meth c s₁ B hml hv
  obtain ⟨rfl, hP, hK, hD0, hN, hZ⟩ := hv
  have hx := B.exec
  have hb := B.bytes
  have hr := B.returns
  have hU : ∀ w ∈ wsU, w.before _ s = true := fun w h => atoms_spec (ws := wU yX3_align cX3_align 10 (some .int)) B.pre w (List.mem_cons_of_mem _ h)
  have hown : s.vm.findClass RX3 = some m.cls := findClass_of_methodNamed B.named
  have hlocks := B.notSynchronized
  have hD := pl_in hD0
  have hS : va_S (fun q => q ∈ L) s.heap s.heap [] := va_S.rf
  have hl := lv_entry ([.ref o0, .ref o1, .int p2, .int p3, .int p4]) (n := 10) (Nat.le_of_ble_eq_true rfl)
  rw [lg_entry_eq]
  generalize (lg_sl ([.ref o0, .ref o1, .int p2, .int p3, .int p4]) ++ List.replicate (10 - (lg_sl ([.ref o0, .ref o1, .int p2, .int p3, .int p4])).length) Slot.unset).toArray = ls at hl ⊢
  have hl : lv_has ls 10 [(0, .ref o0), (1, .ref o1), (2, .int p2), (3, .int p3), (4, .int p4)] := hl
  have bp3 : ((-2147483648) ≤ p3.toInt ∧ p3.toInt ≤ 2147483647) := ⟨i32_lo _, i32_hi _⟩
  have hfr0 : ∀ b, kd b ≠ 525 → kd b ≠ 527 → f b = f b := fun _ _ _ => rfl
  refine lv_iload_n hx hb dX3_align_0 rfl (lv_at hl 2 rfl) ?_
  refine lv_aload_n hx hb dX3_align_1 rfl (lv_at hl 0 rfl) ?_
  obtain ⟨a_2, a_3, a_4, a_5, a_6, v_7, v_8, v_9, v_10, v_11, v_12, v_13, a_14, a_15, a_16, v_17, a_18, a_19, hfo_1, ⟨ma_2, ka_2⟩, ⟨ma_3, ka_3⟩, ⟨ma_4, ka_4⟩, ⟨ma_5, ka_5⟩, ⟨ma_6, ka_6⟩, bv_7, bv_8, bv_9, ⟨ma_14, ka_14⟩, ⟨ma_15, ka_15⟩, ⟨ma_16, ka_16⟩, bv_17, ⟨ma_18, ka_18⟩, ⟨ma_19, ka_19⟩⟩ := un_3 (hG _ mo0) ko0
  have bv_10 : ((-2147483648) ≤ v_10.toInt ∧ v_10.toInt ≤ 2147483647) := ⟨i32_lo _, i32_hi _⟩
  have bv_11 : ((-2147483648) ≤ v_11.toInt ∧ v_11.toInt ≤ 2147483647) := ⟨i32_lo _, i32_hi _⟩
  have bv_12 : ((-2147483648) ≤ v_12.toInt ∧ v_12.toInt ≤ 2147483647) := ⟨i32_lo _, i32_hi _⟩
  have bv_13 : ((-2147483648) ≤ v_13.toInt ∧ v_13.toInt ≤ 2147483647) := ⟨i32_lo _, i32_hi _⟩
  refine tk_getP (D := (dC, dI)) (ci := 3) (v := .int v_7) (C := RX3) (T := TX3) (N := 18) hx hb hU inlX3 hown hK hP mo0 hfo_1 rfl 5 (by decide) (hU _ wd_726) (fun _ h9 => h9) rfl dX3_align_2 ?_
  refine lv_isub hx hb dX3_align_5 ?_
  refine lv_topi (fun x_20 ex_20 => ?_)
  have hx_20 : x_20.toInt = p2.toInt - v_7.toInt := by rw [ex_20, sb_I (by omega) (by omega)]
  have bx_20 : ((-8) ≤ x_20.toInt ∧ x_20.toInt ≤ 8) := by constructor <;> omega
  refine lv_istore (lv' := [(5, .int x_20), (0, .ref o0), (1, .ref o1), (2, .int p2), (3, .int p3), (4, .int p4)]) hx hb dX3_align_6 hl (by decide) rfl (fun ls hl => ?_)
  refine lv_iload_n hx hb dX3_align_8 rfl (lv_at hl 3 rfl) ?_
  refine lv_aload_n hx hb dX3_align_9 rfl (lv_at hl 1 rfl) ?_
  refine tk_getP (D := (dC, dI)) (ci := 3) (v := .int v_7) (C := RX3) (T := TX3) (N := 18) hx hb hU inlX3 hown hK hP mo0 hfo_1 rfl 5 (by decide) (hU _ wd_726) (fun _ h9 => h9) rfl dX3_align_10 ?_
  refine va_mmax hx hb (by rw [hml]; exact hl.1.symm) hown (hU _ wd_723) (hU _ wd_724) (hU _ wd_249) (hU _ wd_725) (Nat.le_of_ble_eq_true rfl) (Nat.le_of_ble_eq_true rfl) (Nat.le_of_ble_eq_true rfl) (Nat.le_of_ble_eq_true rfl) dX3_align_13 ?_
  refine lv_topi (fun x_21 ex_21 => ?_)
  have hx_21 := max_I ex_21
  have bx_21 : (0 ≤ x_21.toInt ∧ x_21.toInt ≤ 8) := by constructor <;> omega
  refine lv_istore (lv' := [(6, .int x_21), (5, .int x_20), (0, .ref o0), (1, .ref o1), (2, .int p2), (3, .int p3), (4, .int p4)]) hx hb dX3_align_16 hl (by decide) rfl (fun ls hl => ?_)
  refine lv_iload hx hb dX3_align_18 (lv_at hl 1 rfl) ?_
  refine va_mabs hx hb (by rw [hml]; exact hl.1.symm) hown (hU _ wd_1022) (hU _ wd_1023) (hU _ wd_249) (hU _ wd_1024) (Nat.le_of_ble_eq_true rfl) (Nat.le_of_ble_eq_true rfl) (Nat.le_of_ble_eq_true rfl) (Nat.le_of_ble_eq_true rfl) dX3_align_20 ?_
  refine lv_topi (fun x_22 ex_22 => ?_)
  have hx_22 := abs_I (by omega) ex_22
  have bx_22 : (0 ≤ x_22.toInt ∧ x_22.toInt ≤ 8) := by constructor <;> omega
  refine lv_iload hx hb dX3_align_23 (lv_at hl 6 rfl) ?_
  refine lv_icmp_gt (tgt := 35) hx hb dX3_align_25 (by decide) (fun c_23 => ?_) (fun c_23 => ?_)
  · skip
    rw [Int32.lt_iff_toInt_lt] at c_23
    refine lv_iconst (v := 0) hx hb dX3_align_35 (by decide) ?_
    exact W.iret (v := 0) hx hb hr (fun t ht hW => ⟨⟨0, f, rfl, ⟨hG, (by decide), hfr0⟩, by rw [ht]; exact hP, va_K.moved hW.alike hK, pl_in hD⟩, hS.F ht⟩) hS.2.2 dX3_align_36
  · skip
    rw [Int32.lt_iff_toInt_lt] at c_23
    refine lv_iload hx hb dX3_align_28 (lv_at hl 0 rfl) ?_
    refine lv_bipush (v := 9) hx hb dX3_align_30 (by decide) ?_
    refine lv_icmp_le (tgt := 37) hx hb dX3_align_32 (by decide) (fun c_24 => ?_) (fun c_24 => ?_)
    · skip
      rw [Int32.le_iff_toInt_le, ti_9] at c_24
      have hclc_25 : ((-1) ≤ x_20.toInt ∧ x_20.toInt ≤ 1) := by constructor <;> omega
      refine lv_iconst (v := 0) hx hb dX3_align_37 (by decide) ?_
      refine lv_istore (lv' := [(7, .int 0), (6, .int x_21), (5, .int x_20), (0, .ref o0), (1, .ref o1), (2, .int p2), (3, .int p3), (4, .int p4)]) hx hb dX3_align_38 hl (by decide) rfl (fun ls hl => ?_)
      refine lv_iload hx hb dX3_align_40 (lv_at hl 2 rfl) ?_
      have hcut_27 : ∀ (y_26 : Int32), (0 ≤ y_26.toInt ∧ y_26.toInt ≤ 8) → ((x_20.toInt = 0 ∧ y_26.toInt = 1) ∨ ((x_20.toInt = 1 ∨ x_20.toInt = -1) ∧ y_26.toInt = x_21.toInt)) → ∀ (ls : Array Slot), lv_has ls 10 [(7, .int 0), (6, .int x_21), (5, .int x_20), (0, .ref o0), (1, .ref o1), (2, .int p2), (3, .int p3), (4, .int p4)] → W p l e (headSpec (wU yX3_align cX3_align 10 (some .int)) { frames := 4, cells := 0, slots := 0, locals := 99 }).room s m [.ref o0, .ref o1, .int p2, .int p3, .int p4].toArray below meth c s.heap [] 0 0 (MQ below (va_Qi (fun (r : Int32) (f9 : Nat → va_E) => GI (okc cI cL cZ cR cG cH L kd) kd L f9 ∧ (0 ≤ r.toInt ∧ r.toInt ≤ 9) ∧ (∀ b, kd b ≠ 525 → kd b ≠ 527 → f9 b = f b)) (qP (dC, dI) cI cL cZ cR cG cH L) (fun q => q ∈ L)) [.ref o0, .ref o1, .int p2, .int p3, .int p4].toArray s 0 0 (fun q => q ∈ L)) (F0 m 51 ls [.int y_26]) := by
        intro y_26 by_26 hjhcut_27_0 ls hl
        refine lv_istore (lv' := [(8, .int y_26), (7, .int 0), (6, .int x_21), (5, .int x_20), (0, .ref o0), (1, .ref o1), (2, .int p2), (3, .int p3), (4, .int p4)]) hx hb dX3_align_51 hl (by decide) rfl (fun ls hl => ?_)
        refine lv_iconst (v := 0) hx hb dX3_align_53 (by decide) ?_
        refine lv_istore (lv' := [(9, .int 0), (8, .int y_26), (7, .int 0), (6, .int x_21), (5, .int x_20), (0, .ref o0), (1, .ref o1), (2, .int p2), (3, .int p3), (4, .int p4)]) hx hb dX3_align_54 hl (by decide) rfl (fun ls hl => ?_)
        have hloop_46 : ∀ (n : Nat), ∀ (y_47 : Int32), (0 ≤ y_47.toInt ∧ y_47.toInt ≤ 8) → ∀ (y_48 : Int32), (0 ≤ y_48.toInt ∧ y_48.toInt ≤ 9) → ∀ (f_50 : Nat → va_E), GI (okc cI cL cZ cR cG cH L kd) kd L f_50 → ∀ (H : Heap) (locs : List Loc), va_P (dC, dI) vwCl (va_pl L f_50) H → va_S (fun q => q ∈ L) s.heap H locs → va_D (fun q => q ∈ L) (va_pl L f_50) → (∀ b, kd b ≠ 525 → kd b ≠ 527 → f_50 b = f b) → (f_50 o0 = .inr (3, [.ref a_2, .ref a_3, .ref a_4, .ref a_5, .ref a_6, .int v_7, .int v_8, .int v_9, .int v_10, .int v_11, .int v_12, .int v_13, .ref a_14, .ref a_15, .ref a_16, .int v_17, .ref a_18, .ref a_19])) → (y_48.toInt ≤ y_47.toInt) → 8 - y_47.toInt < (n : Int) → ∀ (ls : Array Slot), lv_has ls 10 [(9, .int y_47), (8, .int y_26), (7, .int y_48), (6, .int x_21), (5, .int x_20), (0, .ref o0), (1, .ref o1), (2, .int p2), (3, .int p3), (4, .int p4)] → W p l e (headSpec (wU yX3_align cX3_align 10 (some .int)) { frames := 4, cells := 0, slots := 0, locals := 99 }).room s m [.ref o0, .ref o1, .int p2, .int p3, .int p4].toArray below meth c H locs 0 0 (MQ below (va_Qi (fun (r : Int32) (f9 : Nat → va_E) => GI (okc cI cL cZ cR cG cH L kd) kd L f9 ∧ (0 ≤ r.toInt ∧ r.toInt ≤ 9) ∧ (∀ b, kd b ≠ 525 → kd b ≠ 527 → f9 b = f b)) (qP (dC, dI) cI cL cZ cR cG cH L) (fun q => q ∈ L)) [.ref o0, .ref o1, .int p2, .int p3, .int p4].toArray s 0 0 (fun q => q ∈ L)) (F0 m 56 ls []) := by
          intro n
          induction n with
          | zero => intro y_47 by_47 y_48 by_48 f_50 hG H locs hP hS hD hfr0 hfo_51 hrelhloop_46_0 hmuhloop_46 ls hl; exfalso; omega
          | succ n ih_hloop_46 =>
            intro y_47 by_47 y_48 by_48 f_50 hG H locs hP hS hD hfr0 hfo_51 hrelhloop_46_0 hmuhloop_46 ls hl
            refine lv_iload hx hb dX3_align_56 (lv_at hl 0 rfl) ?_
            refine lv_iload hx hb dX3_align_58 (lv_at hl 1 rfl) ?_
            refine lv_icmp_ge (tgt := 100) hx hb dX3_align_60 (by decide) (fun c_52 => ?_) (fun c_52 => ?_)
            · skip
              rw [Int32.le_iff_toInt_le] at c_52
              refine lv_iload hx hb dX3_align_100 (lv_at hl 2 rfl) ?_
              exact W.iret (v := y_48) hx hb hr (fun t ht hW => ⟨⟨y_48, f_50, rfl, ⟨hG, (by constructor <;> omega), hfr0⟩, by rw [ht]; exact hP, va_K.moved hW.alike hK, pl_in hD⟩, hS.F ht⟩) hS.2.2 dX3_align_102
            · skip
              rw [Int32.le_iff_toInt_le] at c_52
              refine lv_aload_n hx hb dX3_align_63 rfl (lv_at hl 5 rfl) ?_
              refine lv_aload_n hx hb dX3_align_64 rfl (lv_at hl 6 rfl) ?_
              refine lv_iload hx hb dX3_align_65 (lv_at hl 4 rfl) ?_
              refine lv_iload hx hb dX3_align_67 (lv_at hl 0 rfl) ?_
              refine lv_iload hx hb dX3_align_69 (lv_at hl 3 rfl) ?_
              refine tk_ViP (As := [.ref o1, .int x_20, .int y_47, .int x_21]) (rest := []) (n := 4) hx hb hml hown hU hN hZ (s_X3_layRow_k3_a507 l (dC, dI) cI cL cZ cR cG cH Z kd L f_50 hG o0 mo0 ko0 o1 mo1 ko1 x_20 (by constructor <;> omega) y_47 (by constructor <;> omega) x_21 (by constructor <;> omega) (by omega)) wd_1025 wd_1026 wd_1027 wd_16 wd_1028 (by decide +kernel) ⟨Nat.le_of_ble_eq_true rfl, Nat.le_of_ble_eq_true rfl⟩ hK hP hD hS mo0 hfo_51 3 rfl rfl rfl hl.1 rfl (Nat.le_of_ble_eq_true rfl) dX3_align_71 ⟨Nat.le_of_ble_eq_true rfl, Nat.le_of_ble_eq_true rfl⟩ (fun x_53 f_54 H locs hw hP hD hS => ?_)
              obtain ⟨hG, bx_53, hkc_55, hxp_56⟩ := hw
              have hfo_58 : f_54 o0 = .inr (3, [.ref a_2, .ref a_3, .ref a_4, .ref a_5, .ref a_6, .int v_7, .int v_8, .int v_9, .int v_10, .int v_11, .int v_12, .int v_13, .ref a_14, .ref a_15, .ref a_16, .int v_17, .ref a_18, .ref a_19]) := by rw [hkc_55 o0 (by rw [ko0]; decide)]; exact hfo_51
              have hfr0 : ∀ b, kd b ≠ 525 → kd b ≠ 527 → f_54 b = f b := fun b q525 q527 => (hkc_55 b q525).trans (hfr0 b q525 q527)
              have hcut_63 : ∀ (y_59 : Int32), (0 ≤ y_59.toInt ∧ y_59.toInt ≤ 9) → ∀ (f_61 : Nat → va_E), GI (okc cI cL cZ cR cG cH L kd) kd L f_61 → ∀ (H : Heap) (locs : List Loc), va_P (dC, dI) vwCl (va_pl L f_61) H → va_S (fun q => q ∈ L) s.heap H locs → va_D (fun q => q ∈ L) (va_pl L f_61) → (∀ b, kd b ≠ 525 → kd b ≠ 527 → f_61 b = f b) → (f_61 o0 = .inr (3, [.ref a_2, .ref a_3, .ref a_4, .ref a_5, .ref a_6, .int v_7, .int v_8, .int v_9, .int v_10, .int v_11, .int v_12, .int v_13, .ref a_14, .ref a_15, .ref a_16, .int v_17, .ref a_18, .ref a_19])) → (y_59.toInt ≤ y_47.toInt + 1) → ∀ (ls : Array Slot), lv_has ls 10 [(9, .int y_47), (8, .int y_26), (7, .int y_59), (6, .int x_21), (5, .int x_20), (0, .ref o0), (1, .ref o1), (2, .int p2), (3, .int p3), (4, .int p4)] → W p l e (headSpec (wU yX3_align cX3_align 10 (some .int)) { frames := 4, cells := 0, slots := 0, locals := 99 }).room s m [.ref o0, .ref o1, .int p2, .int p3, .int p4].toArray below meth c H locs 0 0 (MQ below (va_Qi (fun (r : Int32) (f9 : Nat → va_E) => GI (okc cI cL cZ cR cG cH L kd) kd L f9 ∧ (0 ≤ r.toInt ∧ r.toInt ≤ 9) ∧ (∀ b, kd b ≠ 525 → kd b ≠ 527 → f9 b = f b)) (qP (dC, dI) cI cL cZ cR cG cH L) (fun q => q ∈ L)) [.ref o0, .ref o1, .int p2, .int p3, .int p4].toArray s 0 0 (fun q => q ∈ L)) (F0 m 94 ls []) := by
                intro y_59 by_59 f_61 hG H locs hP hS hD hfr0 hfo_62 hjhcut_63_0 ls hl
                obtain ⟨x_64, ex_64⟩ : ∃ y : Int32, y_47 + 1 = y := ⟨_, rfl⟩
                have hx_64 : x_64.toInt = y_47.toInt + 1 := by rw [← ex_64, ad_I (by rw [ti_1]; omega) (by rw [ti_1]; omega), ti_1]
                have bx_64 : (1 ≤ x_64.toInt ∧ x_64.toInt ≤ 8) := by constructor <;> omega
                refine lv_iinc (v := x_64) (lv' := [(9, .int x_64), (8, .int y_26), (7, .int y_59), (6, .int x_21), (5, .int x_20), (0, .ref o0), (1, .ref o1), (2, .int p2), (3, .int p3), (4, .int p4)]) hx hb dX3_align_94 hl (k := 0) rfl ex_64 (by decide) rfl (fun ls hl => ?_)
                refine lv_goto (tgt := 56) hx hb dX3_align_97 (by decide) ?_
                exact ih_hloop_46 x_64 (by constructor <;> omega) y_59 (by constructor <;> omega) f_61 hG _ _ hP hS hD hfr0 hfo_62 (by omega) (by omega) ls (lv_sub hl [0, 1, 2, 3, 4, 5, 6, 7, 8, 9] rfl)
              refine lv_if_eq (tgt := 94) hx hb dX3_align_74 (by decide) (fun c_65 => ?_) (fun c_65 => ?_)
              · skip
                rw [← Int32.toInt_inj, ti_0] at c_65
                exact hcut_63 y_48 (by constructor <;> omega) f_54 hG _ _ hP hS hD hfr0 hfo_58 (by omega) ls (lv_sub hl [0, 1, 2, 3, 4, 5, 6, 7, 8, 9] rfl)
              · skip
                rw [← Int32.toInt_inj, ti_0] at c_65
                refine lv_aload_n hx hb dX3_align_77 rfl (lv_at hl 5 rfl) ?_
                refine tk_getP (D := (dC, dI)) (ci := 3) (v := .ref a_16) (C := RX3) (T := TX3) (N := 18) hx hb hU inlX3 hown hK hP mo0 hfo_58 rfl 14 (by decide) (hU _ wd_65) (fun _ h9 => h9) rfl dX3_align_78 ?_
                refine lv_iload hx hb dX3_align_81 (lv_at hl 2 rfl) ?_
                refine lv_aload_n hx hb dX3_align_83 rfl (lv_at hl 5 rfl) ?_
                refine lv_iload_n hx hb dX3_align_84 rfl (lv_at hl 8 rfl) ?_
                refine lv_iload hx hb dX3_align_85 (lv_at hl 3 rfl) ?_
                refine tk_ViP (As := [.int p3, .int x_21]) (rest := [.int y_48, .ref a_16]) (n := 2) hx hb hml hown hU hN hZ (s_X3_breaksOf_k3 l (dC, dI) cI cL cZ cR cG cH Z kd L f_54 hG o0 mo0 ko0 p3 x_21 (by constructor <;> omega) (fun b9 g9 h1 h2 => (hxp_56 b9 g9 h1 h2).resolve_left (by omega))) wd_1030 wd_1031 wd_1032 wd_16 wd_1033 (by decide +kernel) ⟨Nat.le_of_ble_eq_true rfl, Nat.le_of_ble_eq_true rfl⟩ hK hP hD hS mo0 hfo_58 3 rfl rfl rfl hl.1 rfl (Nat.le_of_ble_eq_true rfl) dX3_align_87 ⟨Nat.le_of_ble_eq_true rfl, Nat.le_of_ble_eq_true rfl⟩ (fun x_66 f_67 H locs hw hP hD hS => ?_)
                obtain ⟨rfl, bx_66⟩ := hw
                obtain ⟨g_70, hfo_69, hbg_70⟩ := un_527 (hG _ ma_16) ka_16
                refine tk_istP hx hb hK hP hD hS 0 ma_16 hfo_69 rfl (vp_in_iff.mpr (by constructor <;> omega)) dX3_align_90 (fun H locs hP hD hS => ?_)
                obtain ⟨f_72, ef_72⟩ : ∃ y : Nat → va_E, y = va_up f_54 a_16 (.inl (cI, 1024, .inl (upd g_70 (Int32.toNatClampNeg y_48) x_66))) := ⟨_, rfl⟩
                have hP : va_P (dC, dI) vwCl (va_pl L f_72) H := by rw [ef_72]; exact hP
                have hD : va_D (fun q => q ∈ L) (va_pl L f_72) := by rw [ef_72]; exact hD
                have hG : GI (okc cI cL cZ cR cG cH L kd) kd L f_72 := by rw [ef_72]; exact hG.set a_16 (mk_527 ka_16 ⟨_, rfl, okI_up hbg_70 (by constructor <;> omega) _⟩)
                have hfo_73 : f_72 o0 = .inr (3, [.ref a_2, .ref a_3, .ref a_4, .ref a_5, .ref a_6, .int v_7, .int v_8, .int v_9, .int v_10, .int v_11, .int v_12, .int v_13, .ref a_14, .ref a_15, .ref a_16, .int v_17, .ref a_18, .ref a_19]) := by rw [ef_72, up_ne (kd_ne ka_16 ko0 (by decide))]; exact hfo_58
                have hfr0 : ∀ b, kd b ≠ 525 → kd b ≠ 527 → f_72 b = f b := fun b q525 q527 => (congrFun ef_72 b).trans ((up_ne (fun e9 => q527 (by rw [e9]; exact ka_16))).trans (hfr0 b q525 q527))
                have hfo_74 : f_72 a_16 = .inl (cI, 1024, .inl (upd g_70 (Int32.toNatClampNeg y_48) x_66)) := by rw [ef_72]; exact up_self
                obtain ⟨x_75, ex_75⟩ : ∃ y : Int32, y_48 + 1 = y := ⟨_, rfl⟩
                have hx_75 : x_75.toInt = y_48.toInt + 1 := by rw [← ex_75, ad_I (by rw [ti_1]; omega) (by rw [ti_1]; omega), ti_1]
                have bx_75 : (1 ≤ x_75.toInt ∧ x_75.toInt ≤ 10) := by constructor <;> omega
                refine lv_iinc (v := x_75) (lv' := [(7, .int x_75), (9, .int y_47), (8, .int y_26), (6, .int x_21), (5, .int x_20), (0, .ref o0), (1, .ref o1), (2, .int p2), (3, .int p3), (4, .int p4)]) hx hb dX3_align_91 hl (k := 2) rfl ex_75 (by decide) rfl (fun ls hl => ?_)
                exact hcut_63 x_75 (by constructor <;> omega) f_72 hG _ _ hP hS hD hfr0 hfo_73 (by omega) ls (lv_sub hl [1, 2, 0, 3, 4, 5, 6, 7, 8, 9] rfl)
        exact hloop_46 9 0 (by decide) 0 (by decide) f hG _ _ hP hS hD hfr0 hfo_1 (by (try rw [ti_0]) <;> omega) (by (try rw [ti_0]) <;> omega) ls hl
      refine lv_if_ne (tgt := 49) hx hb dX3_align_42 (by decide) (fun c_76 => ?_) (fun c_76 => ?_)
      · skip
        rw [← Int32.toInt_inj, ti_0] at c_76
        refine lv_iload hx hb dX3_align_49 (lv_at hl 1 rfl) ?_
        exact hcut_27 x_21 (by constructor <;> omega) (by (try rw [ti_0]) <;> omega) ls (lv_sub hl [0, 1, 2, 3, 4, 5, 6, 7] rfl)
      · skip
        rw [← Int32.toInt_inj, ti_0] at c_76
        refine lv_iconst (v := 1) hx hb dX3_align_45 (by decide) ?_
        refine lv_goto (tgt := 51) hx hb dX3_align_46 (by decide) ?_
        exact hcut_27 1 (by decide) (by (try rw [ti_1]) <;> (try rw [ti_0]) <;> omega) ls (lv_sub hl [0, 1, 2, 3, 4, 5, 6, 7] rfl)
    · skip
      rw [Int32.le_iff_toInt_le, ti_9] at c_24
      exfalso
      omega
set_option maxHeartbeats 8000000 in
set_option maxRecDepth 100000 in
theorem s_X3_isSaidAs_k3_a505 (l : Launch) (D : va_G) (cI cL cZ cR cG cH : ClassId) (Z : zT) (kd : Nat → Nat) (L : List Nat) (f : Nat → va_E) (hG : GI (okc cI cL cZ cR cG cH L kd) kd L f) (o0 : Nat) (mo0 : o0 ∈ L) (ko0 : kd o0 = 3) (o1 : Nat) (mo1 : o1 ∈ L) (ko1 : kd o1 = 505) (p2 : Int32) (bp2 : (0 ≤ p2.toInt ∧ p2.toInt ≤ 12)) (p3 : Int32) (p4 : Int32) (bp4 : (0 ≤ p4.toInt ∧ p4.toInt ≤ 1)) : mPI l D cI cL cZ cR cG cH Z yX3_isSaidAs cX3_isSaidAs 7 (some .boolean) 5 128 [.ref o0, .ref o1, .int p2, .int p3, .int p4] L f (fun (r : Int32) (f9 : Nat → va_E) => GI (okc cI cL cZ cR cG cH L kd) kd L f9 ∧ (0 ≤ r.toInt ∧ r.toInt ≤ 1) ∧ (∀ b, kd b ≠ 525 → kd b ≠ 527 → f9 b = f b)) := by
  obtain ⟨dC, dI⟩ := D
  refine Met.ofW (cc := cX3_isSaidAs) (maxL := 7) (ret := (some .boolean)) (by decide) rfl ?_
  intro p e s m args below meth c s₁ B hml hv
  obtain ⟨rfl, hP, hK, hD0, hN, hZ⟩ := hv
  have hx := B.exec
  have hb := B.bytes
  have hr := B.returns
  have hU : ∀ w ∈ wsU, w.before _ s = true := fun w h => atoms_spec (ws := wU yX3_isSaidAs cX3_isSaidAs 7 (some .boolean)) B.pre w (List.mem_cons_of_mem _ h)
  have hown : s.vm.findClass RX3 = some m.cls := findClass_of_methodNamed B.named
  have hlocks := B.notSynchronized
  have hD := pl_in hD0
  have hS : va_S (fun q => q ∈ L) s.heap s.heap [] := va_S.rf
  have hl := lv_entry ([.ref o0, .ref o1, .int p2, .int p3, .int p4]) (n := 7) (Nat.le_of_ble_eq_true rfl)
  rw [lg_entry_eq]
  generalize (lg_sl ([.ref o0, .ref o1, .int p2, .int p3, .int p4]) ++ List.replicate (7 - (lg_sl ([.ref o0, .ref o1, .int p2, .int p3, .int p4])).length) Slot.unset).toArray = ls at hl ⊢
  have hl : lv_has ls 7 [(0, .ref o0), (1, .ref o1), (2, .int p2), (3, .int p3), (4, .int p4)] := hl
  have bp3 : ((-2147483648) ≤ p3.toInt ∧ p3.toInt ≤ 2147483647) := ⟨i32_lo _, i32_hi _⟩
  have hfr0 : ∀ b, kd b ≠ 525 → kd b ≠ 527 → f b = f b := fun _ _ _ => rfl
  refine lv_aload_n hx hb dX3_isSaidAs_0 rfl (lv_at hl 0 rfl) ?_
  refine lv_aload_n hx hb dX3_isSaidAs_1 rfl (lv_at hl 1 rfl) ?_
  refine lv_iload_n hx hb dX3_isSaidAs_2 rfl (lv_at hl 2 rfl) ?_
  refine lv_iload_n hx hb dX3_isSaidAs_3 rfl (lv_at hl 3 rfl) ?_
  refine lv_iload hx hb dX3_isSaidAs_4 (lv_at hl 4 rfl) ?_
  obtain ⟨a_2, a_3, a_4, a_5, a_6, v_7, v_8, v_9, v_10, v_11, v_12, v_13, a_14, a_15, a_16, v_17, a_18, a_19, hfo_1, ⟨ma_2, ka_2⟩, ⟨ma_3, ka_3⟩, ⟨ma_4, ka_4⟩, ⟨ma_5, ka_5⟩, ⟨ma_6, ka_6⟩, bv_7, bv_8, bv_9, ⟨ma_14, ka_14⟩, ⟨ma_15, ka_15⟩, ⟨ma_16, ka_16⟩, bv_17, ⟨ma_18, ka_18⟩, ⟨ma_19, ka_19⟩⟩ := un_3 (hG _ mo0) ko0
  have bv_10 : ((-2147483648) ≤ v_10.toInt ∧ v_10.toInt ≤ 2147483647) := ⟨i32_lo _, i32_hi _⟩
  have bv_11 : ((-2147483648) ≤ v_11.toInt ∧ v_11.toInt ≤ 2147483647) := ⟨i32_lo _, i32_hi _⟩
  have bv_12 : ((-2147483648) ≤ v_12.toInt ∧ v_12.toInt ≤ 2147483647) := ⟨i32_lo _, i32_hi _⟩
  have bv_13 : ((-2147483648) ≤ v_13.toInt ∧ v_13.toInt ≤ 2147483647) := ⟨i32_lo _, i32_hi _⟩
  refine tk_ViP (As := [.ref o1, .int p2, .int p3, .int p4]) (rest := []) (n := 4) hx hb hml hown hU hN hZ (s_X3_align_k3_a505 l (dC, dI) cI cL cZ cR cG cH Z kd L f hG o0 mo0 ko0 o1 mo1 ko1 p2 (by constructor <;> omega) p3 p4 (by constructor <;> omega)) wd_1018 wd_1019 wd_1020 wd_16 wd_1021 (by decide +kernel) ⟨Nat.le_of_ble_eq_true rfl, Nat.le_of_ble_eq_true rfl⟩ hK hP hD hS mo0 hfo_1 3 rfl rfl rfl hl.1 rfl (Nat.le_of_ble_eq_true rfl) dX3_isSaidAs_6 ⟨Nat.le_of_ble_eq_true rfl, Nat.le_of_ble_eq_true rfl⟩ (fun x_20 f_21 H locs hw hP hD hS => ?_)
  obtain ⟨hG, bx_20, hkc_22⟩ := hw
  have hfo_24 : f_21 o0 = .inr (3, [.ref a_2, .ref a_3, .ref a_4, .ref a_5, .ref a_6, .int v_7, .int v_8, .int v_9, .int v_10, .int v_11, .int v_12, .int v_13, .ref a_14, .ref a_15, .ref a_16, .int v_17, .ref a_18, .ref a_19]) := by rw [hkc_22 o0 (by rw [ko0]; decide) (by rw [ko0]; decide)]; exact hfo_1
  have hfr0 : ∀ b, kd b ≠ 525 → kd b ≠ 527 → f_21 b = f b := fun b q525 q527 => (hkc_22 b q525 q527).trans (hfr0 b q525 q527)
  refine lv_istore (lv' := [(5, .int x_20), (0, .ref o0), (1, .ref o1), (2, .int p2), (3, .int p3), (4, .int p4)]) hx hb dX3_isSaidAs_9 hl (by decide) rfl (fun ls hl => ?_)
  refine lv_iconst (v := 0) hx hb dX3_isSaidAs_11 (by decide) ?_
  refine lv_istore (lv' := [(6, .int 0), (5, .int x_20), (0, .ref o0), (1, .ref o1), (2, .int p2), (3, .int p3), (4, .int p4)]) hx hb dX3_isSaidAs_12 hl (by decide) rfl (fun ls hl => ?_)
  have hloop_31 : ∀ (n : Nat), ∀ (y_32 : Int32), (0 ≤ y_32.toInt ∧ y_32.toInt ≤ 9) → 9 - y_32.toInt < (n : Int) → ∀ (ls : Array Slot), lv_has ls 7 [(6, .int y_32), (5, .int x_20), (0, .ref o0), (1, .ref o1), (2, .int p2), (3, .int p3), (4, .int p4)] → W p l e (headSpec (wU yX3_isSaidAs cX3_isSaidAs 7 (some .boolean)) { frames := 5, cells := 0, slots := 0, locals := 128 }).room s m [.ref o0, .ref o1, .int p2, .int p3, .int p4].toArray below meth c H locs 0 0 (MQ below (va_Qi (fun (r : Int32) (f9 : Nat → va_E) => GI (okc cI cL cZ cR cG cH L kd) kd L f9 ∧ (0 ≤ r.toInt ∧ r.toInt ≤ 1) ∧ (∀ b, kd b ≠ 525 → kd b ≠ 527 → f9 b = f b)) (qP (dC, dI) cI cL cZ cR cG cH L) (fun q => q ∈ L)) [.ref o0, .ref o1, .int p2, .int p3, .int p4].toArray s 0 0 (fun q => q ∈ L)) (F0 m 14 ls []) := by
    intro n
    induction n with
    | zero => intro y_32 by_32 hmuhloop_31 ls hl; exfalso; omega
    | succ n ih_hloop_31 =>
      intro y_32 by_32 hmuhloop_31 ls hl
      refine lv_iload hx hb dX3_isSaidAs_14 (lv_at hl 0 rfl) ?_
      refine lv_iload hx hb dX3_isSaidAs_16 (lv_at hl 1 rfl) ?_
      refine lv_icmp_ge (tgt := 39) hx hb dX3_isSaidAs_18 (by decide) (fun c_33 => ?_) (fun c_33 => ?_)
      · skip
        rw [Int32.le_iff_toInt_le] at c_33
        refine lv_iconst (v := 0) hx hb dX3_isSaidAs_39 (by decide) ?_
        exact W.zret (v := 0) (ty := .boolean) hx hb hr rfl (fun t ht hW => ⟨⟨0, f_21, rfl, ⟨hG, (by decide), hfr0⟩, by rw [ht]; exact hP, va_K.moved hW.alike hK, pl_in hD⟩, hS.F ht⟩) hS.2.2 dX3_isSaidAs_40
      · skip
        rw [Int32.le_iff_toInt_le] at c_33
        refine lv_aload_n hx hb dX3_isSaidAs_21 rfl (lv_at hl 2 rfl) ?_
        refine tk_getP (D := (dC, dI)) (ci := 3) (v := .ref a_16) (C := RX3) (T := TX3) (N := 18) hx hb hU inlX3 hown hK hP mo0 hfo_24 rfl 14 (by decide) (hU _ wd_65) (fun _ h9 => h9) rfl dX3_isSaidAs_22 ?_
        refine lv_iload hx hb dX3_isSaidAs_25 (lv_at hl 0 rfl) ?_
        obtain ⟨g_35, hfo_34, hbg_35⟩ := un_527 (hG _ ma_16) ka_16
        refine tk_ildP hx hb hK hP 0 ma_16 hfo_34 rfl (vp_in_iff.mpr (by constructor <;> omega)) dX3_isSaidAs_27 ?_
        refine lv_topi (fun x_36 ex_36 => ?_)
        have bx_36 : (0 ≤ x_36.toInt ∧ x_36.toInt ≤ 255) := by rw [ex_36]; exact hbg_35 _
        refine lv_if_ne (tgt := 33) hx hb dX3_isSaidAs_28 (by decide) (fun c_37 => ?_) (fun c_37 => ?_)
        · skip
          rw [← Int32.toInt_inj, ti_0] at c_37
          obtain ⟨x_38, ex_38⟩ : ∃ y : Int32, y_32 + 1 = y := ⟨_, rfl⟩
          have hx_38 : x_38.toInt = y_32.toInt + 1 := by rw [← ex_38, ad_I (by rw [ti_1]; omega) (by rw [ti_1]; omega), ti_1]
          have bx_38 : (1 ≤ x_38.toInt ∧ x_38.toInt ≤ 9) := by constructor <;> omega
          refine lv_iinc (v := x_38) (lv' := [(6, .int x_38), (5, .int x_20), (0, .ref o0), (1, .ref o1), (2, .int p2), (3, .int p3), (4, .int p4)]) hx hb dX3_isSaidAs_33 hl (k := 0) rfl ex_38 (by decide) rfl (fun ls hl => ?_)
          refine lv_goto (tgt := 14) hx hb dX3_isSaidAs_36 (by decide) ?_
          exact ih_hloop_31 x_38 (by constructor <;> omega) (by omega) ls (lv_sub hl [0, 1, 2, 3, 4, 5, 6] rfl)
        · skip
          rw [← Int32.toInt_inj, ti_0] at c_37
          refine lv_iconst (v := 1) hx hb dX3_isSaidAs_31 (by decide) ?_
          exact W.zret (v := 1) (ty := .boolean) hx hb hr rfl (fun t ht hW => ⟨⟨1, f_21, rfl, ⟨hG, (by decide), hfr0⟩, by rw [ht]; exact hP, va_K.moved hW.alike hK, pl_in hD⟩, hS.F ht⟩) hS.2.2 dX3_isSaidAs_32
  exact hloop_31 10 0 (by decide) (by (try rw [ti_0]) <;> omega) ls hl
