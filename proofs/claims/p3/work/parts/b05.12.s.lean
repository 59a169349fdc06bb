set_option maxHeartbeats 8000000 in
set_option maxRecDepth 100000 in
theorem s_X3_layRow_k3_a505 (l : Launch) (D : va_G) (cI cL cZ cR cG cH : ClassId) (Z : zT) (kd : Nat → Nat) (L : List Nat) (f : Nat → va_E) (hG : GI (okc cI cL cZ cR cG cH L kd) kd L f) (o0 : Nat) (mo0 : o0 ∈ L) (ko0 : kd o0 = 3) (o1 : Nat) (mo1 : o1 ∈ L) (ko1 : kd o1 = 505) (p2 : Int32) (bp2 : ((-1) ≤ p2.toInt ∧ p2.toInt ≤ 1)) (p3 : Int32) (bp3 : (0 ≤ p3.toInt ∧ p3.toInt ≤ 8)) (p4 : Int32) (bp4 : (0 ≤ p4.toInt ∧ p4.toInt ≤ 9)) (hxrel : (p2.toInt = 0 ∧ p4.toInt ≤ 8) ∨ (p2.toInt = 1 ∧ p4.toInt ≤ 9 ∧ p3.toInt < p4.toInt) ∨ (p2.toInt = -1 ∧ p4.toInt ≤ 8 ∧ p3.toInt < p4.toInt)) : mPI l D cI cL cZ cR cG cH Z yX3_layRow cX3_layRow 11 (some .boolean) 1 22 [.ref o0, .ref o1, .int p2, .int p3, .int p4] L f (fun (r : Int32) (f9 : Nat → va_E) => GI (okc cI cL cZ cR cG cH L kd) kd L f9 ∧ (0 ≤ r.toInt ∧ r.toInt ≤ 1) ∧ (∀ b, kd b ≠ 525 → f9 b = f b) ∧ (∀ b9 g9, fldR (f9 o0) 12 = some b9 → f9 b9 = .inl (cI, 9, .inl g9) → r.toInt = 0 ∨ ∀ j : Nat, (j : Int) < p4.toInt → 0 ≤ (g9 j).toInt)) := by
  obtain ⟨dC, dI⟩ := D
  refine Met.ofW (cc := cX3_layRow) (maxL := 11) (ret := (some .boolean)) (by decide) rfl ?_
  intro p e s m args below meth c s₁ B hml hv
  obtain ⟨rfl, hP, hK, hD0, hN, hZ⟩ := hv
  have hx := B.exec
  have hb := B.bytes
  have hr := B.returns
  have hU : ∀ w ∈ wsU, w.before _ s = true := fun w h => atoms_spec (ws := wU yX3_layRow cX3_layRow 11 (some .boolean)) B.pre w (List.mem_cons_of_mem _ h)
  have hown : s.vm.findClass RX3 = some m.cls := findClass_of_methodNamed B.named
  have hlocks := B.notSynchronized
  have hD := pl_in hD0
  have hS : va_S (fun q => q ∈ L) s.heap s.heap [] := va_S.rf
  have hl := lv_entry ([.ref o0, .ref o1, .int p2, .int p3, .int p4]) (n := 11) (Nat.le_of_ble_eq_true rfl)
  rw [lg_entry_eq]
  generalize (lg_sl ([.ref o0, .ref o1, .int p2, .int p3, .int p4]) ++ List.replicate (11 - (lg_sl ([.ref o0, .ref o1, .int p2, .int p3, .int p4])).length) Slot.unset).toArray = ls at hl ⊢
  have hl : lv_has ls 11 [(0, .ref o0), (1, .ref o1), (2, .int p2), (3, .int p3), (4, .int p4)] := hl
  have hfr0 : ∀ b, kd b ≠ 525 → f b = f b := fun _ _ => rfl
  obtain ⟨a_2, a_3, a_4, a_5, a_6, v_7, v_8, v_9, v_10, v_11, v_12, v_13, a_14, a_15, a_16, v_17, a_18, a_19, hfo_1, ⟨ma_2, ka_2⟩, ⟨ma_3, ka_3⟩, ⟨ma_4, ka_4⟩, ⟨ma_5, ka_5⟩, ⟨ma_6, ka_6⟩, bv_7, bv_8, bv_9, ⟨ma_14, ka_14⟩, ⟨ma_15, ka_15⟩, ⟨ma_16, ka_16⟩, bv_17, ⟨ma_18, ka_18⟩, ⟨ma_19, ka_19⟩⟩ := un_3 (hG _ mo0) ko0
  have bv_10 : ((-2147483648) ≤ v_10.toInt ∧ v_10.toInt ≤ 2147483647) := ⟨i32_lo _, i32_hi _⟩
  have bv_11 : ((-2147483648) ≤ v_11.toInt ∧ v_11.toInt ≤ 2147483647) := ⟨i32_lo _, i32_hi _⟩
  have bv_12 : ((-2147483648) ≤ v_12.toInt ∧ v_12.toInt ≤ 2147483647) := ⟨i32_lo _, i32_hi _⟩
  have bv_13 : ((-2147483648) ≤ v_13.toInt ∧ v_13.toInt ≤ 2147483647) := ⟨i32_lo _, i32_hi _⟩
  refine lv_iconst (v := 0) hx hb dX3_layRow_0 (by decide) ?_
  refine lv_istore (lv' := [(5, .int 0), (0, .ref o0), (1, .ref o1), (2, .int p2), (3, .int p3), (4, .int p4)]) hx hb dX3_layRow_1 hl (by decide) rfl (fun ls hl => ?_)
  refine lv_iconst (v := 0) hx hb dX3_layRow_3 (by decide) ?_
  refine lv_istore (lv' := [(6, .int 0), (5, .int 0), (0, .ref o0), (1, .ref o1), (2, .int p2), (3, .int p3), (4, .int p4)]) hx hb dX3_layRow_4 hl (by decide) rfl (fun ls hl => ?_)
  refine lv_iconst (v := 0) hx hb dX3_layRow_6 (by decide) ?_
  refine lv_istore (lv' := [(7, .int 0), (6, .int 0), (5, .int 0), (0, .ref o0), (1, .ref o1), (2, .int p2), (3, .int p3), (4, .int p4)]) hx hb dX3_layRow_7 hl (by decide) rfl (fun ls hl => ?_)
  have hloop_41 : ∀ (n : Nat), ∀ (y_42 : Int32), (0 ≤ y_42.toInt ∧ y_42.toInt ≤ 9) → ∀ (y_43 : Int32), (0 ≤ y_43.toInt ∧ y_43.toInt ≤ 9) → ∀ (y_44 : Int32), (0 ≤ y_44.toInt ∧ y_44.toInt ≤ 9) → ∀ (f_46 : Nat → va_E), GI (okc cI cL cZ cR cG cH L kd) kd L f_46 → ∀ (H : Heap) (locs : List Loc), va_P (dC, dI) vwCl (va_pl L f_46) H → va_S (fun q => q ∈ L) s.heap H locs → va_D (fun q => q ∈ L) (va_pl L f_46) → (∀ b, kd b ≠ 525 → f_46 b = f b) → (f_46 o0 = .inr (3, [.ref a_2, .ref a_3, .ref a_4, .ref a_5, .ref a_6, .int v_7, .int v_8, .int v_9, .int v_10, .int v_11, .int v_12, .int v_13, .ref a_14, .ref a_15, .ref a_16, .int v_17, .ref a_18, .ref a_19])) → ((p2.toInt = 0 ∧ y_44.toInt = y_42.toInt ∧ y_43.toInt = y_42.toInt) ∨ (p2.toInt = 1 ∧ y_44.toInt = y_42.toInt ∧ ((y_42.toInt ≤ p3.toInt ∧ y_43.toInt = y_42.toInt) ∨ (p3.toInt < y_42.toInt ∧ y_43.toInt = y_42.toInt - 1))) ∨ (p2.toInt = -1 ∧ y_43.toInt = y_42.toInt ∧ ((y_42.toInt ≤ p3.toInt ∧ y_44.toInt = y_42.toInt) ∨ (p3.toInt < y_42.toInt ∧ y_44.toInt = y_42.toInt - 1)))) → (∀ g9, f_46 a_14 = .inl (cI, 9, .inl g9) → ∀ j : Nat, (j : Int) < y_42.toInt → 0 ≤ (g9 j).toInt) → 9 - y_42.toInt < (n : Int) → ∀ (ls : Array Slot), lv_has ls 11 [(7, .int y_42), (6, .int y_43), (5, .int y_44), (0, .ref o0), (1, .ref o1), (2, .int p2), (3, .int p3), (4, .int p4)] → W p l e (headSpec (wU yX3_layRow cX3_layRow 11 (some .boolean)) { frames := 1, cells := 0, slots := 0, locals := 22 }).room s m [.ref o0, .ref o1, .int p2, .int p3, .int p4].toArray below meth c H locs 0 0 (MQ below (va_Qi (fun (r : Int32) (f9 : Nat → va_E) => GI (okc cI cL cZ cR cG cH L kd) kd L f9 ∧ (0 ≤ r.toInt ∧ r.toInt ≤ 1) ∧ (∀ b, kd b ≠ 525 → f9 b = f b) ∧ (∀ b9 g9, fldR (f9 o0) 12 = some b9 → f9 b9 = .inl (cI, 9, .inl g9) → r.toInt = 0 ∨ ∀ j : Nat, (j : Int) < p4.toInt → 0 ≤ (g9 j).toInt)) (qP (dC, dI) cI cL cZ cR cG cH L) (fun q => q ∈ L)) [.ref o0, .ref o1, .int p2, .int p3, .int p4].toArray s 0 0 (fun q => q ∈ L)) (F0 m 9 ls []) := by
    intro n
    induction n with
    | zero => intro y_42 by_42 y_43 by_43 y_44 by_44 f_46 hG H locs hP hS hD hfr0 hfo_47 hrelhloop_41_0 hxl hmuhloop_41 ls hl; exfalso; omega
    | succ n ih_hloop_41 =>
      intro y_42 by_42 y_43 by_43 y_44 by_44 f_46 hG H locs hP hS hD hfr0 hfo_47 hrelhloop_41_0 hxl hmuhloop_41 ls hl
      refine lv_iload hx hb dX3_layRow_9 (lv_at hl 0 rfl) ?_
      refine lv_iload hx hb dX3_layRow_11 (lv_at hl 7 rfl) ?_
      refine lv_icmp_ge (tgt := 115) hx hb dX3_layRow_13 (by decide) (fun c_48 => ?_) (fun c_48 => ?_)
      · skip
        rw [Int32.le_iff_toInt_le] at c_48
        refine lv_iconst (v := 1) hx hb dX3_layRow_115 (by decide) ?_
        exact W.zret (v := 1) (ty := .boolean) hx hb hr rfl (fun t ht hW => ⟨⟨1, f_46, rfl, ⟨hG, (by decide), hfr0, (fun b9 g9 h1 h2 => Or.inr (by rw [hfo_47] at h1; obtain rfl := Option.some.inj h1; exact fun j hj => hxl g9 h2 j (by omega)))⟩, by rw [ht]; exact hP, va_K.moved hW.alike hK, pl_in hD⟩, hS.F ht⟩) hS.2.2 dX3_layRow_116
      · skip
        rw [Int32.le_iff_toInt_le] at c_48
        refine lv_iload_n hx hb dX3_layRow_16 rfl (lv_at hl 5 rfl) ?_
        refine lv_if_eq (tgt := 30) hx hb dX3_layRow_17 (by decide) (fun c_49 => ?_) (fun c_49 => ?_)
        · skip
          rw [← Int32.toInt_inj, ti_0] at c_49
          refine lv_iconst (v := 0) hx hb dX3_layRow_30 (by decide) ?_
          refine lv_istore (lv' := [(8, .int 0), (7, .int y_42), (6, .int y_43), (5, .int y_44), (0, .ref o0), (1, .ref o1), (2, .int p2), (3, .int p3), (4, .int p4)]) hx hb dX3_layRow_31 hl (by decide) rfl (fun ls hl => ?_)
          refine lv_iconst (v := 0) hx hb dX3_layRow_33 (by decide) ?_
          refine lv_istore (lv' := [(9, .int 0), (8, .int 0), (7, .int y_42), (6, .int y_43), (5, .int y_44), (0, .ref o0), (1, .ref o1), (2, .int p2), (3, .int p3), (4, .int p4)]) hx hb dX3_layRow_34 hl (by decide) rfl (fun ls hl => ?_)
          refine lv_iconst (v := 0) hx hb dX3_layRow_36 (by decide) ?_
          refine lv_istore (lv' := [(10, .int 0), (9, .int 0), (8, .int 0), (7, .int y_42), (6, .int y_43), (5, .int y_44), (0, .ref o0), (1, .ref o1), (2, .int p2), (3, .int p3), (4, .int p4)]) hx hb dX3_layRow_37 hl (by decide) rfl (fun ls hl => ?_)
          refine lv_iload hx hb dX3_layRow_39 (lv_at hl 2 rfl) ?_
          refine lv_if_eq (tgt := 48) hx hb dX3_layRow_41 (by decide) (fun _ => ?_) (fun c9 => absurd (by decide) c9)
          refine lv_aload_n hx hb dX3_layRow_48 rfl (lv_at hl 7 rfl) ?_
          refine lv_iload hx hb dX3_layRow_49 (lv_at hl 5 rfl) ?_
          obtain ⟨g_51, hfo_50, hbg_51⟩ := un_505 (hG _ mo1) ko1
          refine tk_ildP hx hb hK hP 0 mo1 hfo_50 rfl (vp_in_iff.mpr (by constructor <;> omega)) dX3_layRow_51 ?_
          refine lv_topi (fun x_52 ex_52 => ?_)
          have bx_52 : (0 ≤ x_52.toInt ∧ x_52.toInt ≤ 8) := by rw [ex_52]; exact hbg_51 _
          refine lv_istore (lv' := [(9, .int x_52), (10, .int 0), (8, .int 0), (7, .int y_42), (6, .int y_43), (5, .int y_44), (0, .ref o0), (1, .ref o1), (2, .int p2), (3, .int p3), (4, .int p4)]) hx hb dX3_layRow_52 hl (by decide) rfl (fun ls hl => ?_)
          obtain ⟨x_53, ex_53⟩ : ∃ y : Int32, y_44 + 1 = y := ⟨_, rfl⟩
          have hx_53 : x_53.toInt = y_44.toInt + 1 := by rw [← ex_53, ad_I (by rw [ti_1]; omega) (by rw [ti_1]; omega), ti_1]
          have bx_53 : (1 ≤ x_53.toInt ∧ x_53.toInt ≤ 10) := by constructor <;> omega
          refine lv_iinc (v := x_53) (lv' := [(5, .int x_53), (9, .int x_52), (10, .int 0), (8, .int 0), (7, .int y_42), (6, .int y_43), (0, .ref o0), (1, .ref o1), (2, .int p2), (3, .int p3), (4, .int p4)]) hx hb dX3_layRow_54 hl (k := 5) rfl ex_53 (by decide) rfl (fun ls hl => ?_)
          refine lv_iload hx hb dX3_layRow_57 (lv_at hl 3 rfl) ?_
          refine lv_if_eq (tgt := 66) hx hb dX3_layRow_59 (by decide) (fun _ => ?_) (fun c9 => absurd (by decide) c9)
          refine lv_aload_n hx hb dX3_layRow_66 rfl (lv_at hl 6 rfl) ?_
          refine tk_getP (D := (dC, dI)) (ci := 3) (v := .ref a_6) (C := RX3) (T := TX3) (N := 18) hx hb hU inlX3 hown hK hP mo0 hfo_47 rfl 4 (by decide) (hU _ wd_61) (fun _ h9 => h9) rfl dX3_layRow_67 ?_
          refine lv_iload hx hb dX3_layRow_70 (lv_at hl 5 rfl) ?_
          obtain ⟨g_55, hfo_54, hbg_55⟩ := un_507 (hG _ ma_6) ka_6
          refine tk_ildP hx hb hK hP 0 ma_6 hfo_54 rfl (vp_in_iff.mpr (by constructor <;> omega)) dX3_layRow_72 ?_
          refine lv_topi (fun x_56 ex_56 => ?_)
          have bx_56 : (0 ≤ x_56.toInt ∧ x_56.toInt ≤ 8) := by rw [ex_56]; exact hbg_55 _
          refine lv_istore (lv' := [(10, .int x_56), (5, .int x_53), (9, .int x_52), (8, .int 0), (7, .int y_42), (6, .int y_43), (0, .ref o0), (1, .ref o1), (2, .int p2), (3, .int p3), (4, .int p4)]) hx hb dX3_layRow_73 hl (by decide) rfl (fun ls hl => ?_)
          obtain ⟨x_57, ex_57⟩ : ∃ y : Int32, y_43 + 1 = y := ⟨_, rfl⟩
          have hx_57 : x_57.toInt = y_43.toInt + 1 := by rw [← ex_57, ad_I (by rw [ti_1]; omega) (by rw [ti_1]; omega), ti_1]
          have bx_57 : (1 ≤ x_57.toInt ∧ x_57.toInt ≤ 10) := by constructor <;> omega
          refine lv_iinc (v := x_57) (lv' := [(6, .int x_57), (10, .int x_56), (5, .int x_53), (9, .int x_52), (8, .int 0), (7, .int y_42), (0, .ref o0), (1, .ref o1), (2, .int p2), (3, .int p3), (4, .int p4)]) hx hb dX3_layRow_75 hl (k := 5) rfl ex_57 (by decide) rfl (fun ls hl => ?_)
          refine lv_aload_n hx hb dX3_layRow_78 rfl (lv_at hl 6 rfl) ?_
          refine tk_getP (D := (dC, dI)) (ci := 3) (v := .ref a_14) (C := RX3) (T := TX3) (N := 18) hx hb hU inlX3 hown hK hP mo0 hfo_47 rfl 12 (by decide) (hU _ wd_63) (fun _ h9 => h9) rfl dX3_layRow_79 ?_
          refine lv_iload hx hb dX3_layRow_82 (lv_at hl 5 rfl) ?_
          refine lv_aload_n hx hb dX3_layRow_84 rfl (lv_at hl 6 rfl) ?_
          refine tk_getP (D := (dC, dI)) (ci := 3) (v := .ref a_2) (C := RX3) (T := TX3) (N := 18) hx hb hU inlX3 hown hK hP mo0 hfo_47 rfl 0 (by decide) (hU _ wd_48) (fun _ h9 => h9) rfl dX3_layRow_85 ?_
          refine lv_iload hx hb dX3_layRow_88 (lv_at hl 3 rfl) ?_
          refine lv_iload hx hb dX3_layRow_90 (lv_at hl 1 rfl) ?_
          obtain ⟨a_59, v_60, a_61, a_62, a_63, a_64, v_65, a_66, a_67, a_68, a_69, a_70, v_71, a_72, a_73, a_74, hfo_58, ⟨ma_59, ka_59⟩, bv_60, ⟨ma_61, ka_61⟩, ⟨ma_62, ka_62⟩, ⟨ma_63, ka_63⟩, ⟨ma_64, ka_64⟩, bv_65, ⟨ma_66, ka_66⟩, ⟨ma_67, ka_67⟩, ⟨ma_68, ka_68⟩, ⟨ma_69, ka_69⟩, ⟨ma_70, ka_70⟩, bv_71, ⟨ma_72, ka_72⟩, ⟨ma_73, ka_73⟩, ⟨ma_74, ka_74⟩⟩ := un_7 (hG _ ma_2) ka_2
          refine tk_ViP (As := [.int x_52, .int x_56]) (rest := [.int y_42, .ref a_14]) (n := 2) hx hb hml hown hU hN hZ (s_X7_pairOf_k7 l (dC, dI) cI cL cZ cR cG cH Z kd L f_46 hG a_2 ma_2 ka_2 x_52 x_56) wd_1029 wd_393 wd_394 wd_28 wd_395 (by decide +kernel) ⟨Nat.le_of_ble_eq_true rfl, Nat.le_of_ble_eq_true rfl⟩ hK hP hD hS ma_2 hfo_58 7 rfl rfl rfl hl.1 rfl (Nat.le_of_ble_eq_true rfl) dX3_layRow_92 ⟨Nat.le_of_ble_eq_true rfl, Nat.le_of_ble_eq_true rfl⟩ (fun x_75 f_76 H locs hw hP hD hS => ?_)
          obtain ⟨rfl, bx_75⟩ := hw
          obtain ⟨g_79, hfo_78, hbg_79⟩ := un_525 (hG _ ma_14) ka_14
          refine tk_istP hx hb hK hP hD hS 0 ma_14 hfo_78 rfl (vp_in_iff.mpr (by constructor <;> omega)) dX3_layRow_95 (fun H locs hP hD hS => ?_)
          obtain ⟨g_80, eqg_80⟩ : ∃ y : Nat → Int32, y = upd g_79 (Int32.toNatClampNeg y_42) x_75 := ⟨_, rfl⟩
          rw [← eqg_80] at hP hD
          have hbg_80 : ∀ j, (-1) ≤ (g_80 j).toInt ∧ (g_80 j).toInt ≤ 19 := by rw [eqg_80]; exact okI_up hbg_79 (by constructor <;> omega) _
          obtain ⟨f_82, ef_82⟩ : ∃ y : Nat → va_E, y = va_up f_46 a_14 (.inl (cI, 9, .inl g_80)) := ⟨_, rfl⟩
          have hP : va_P (dC, dI) vwCl (va_pl L f_82) H := by rw [ef_82]; exact hP
          have hD : va_D (fun q => q ∈ L) (va_pl L f_82) := by rw [ef_82]; exact hD
          have hG : GI (okc cI cL cZ cR cG cH L kd) kd L f_82 := by rw [ef_82]; exact hG.set a_14 (mk_525 ka_14 ⟨_, rfl, hbg_80⟩)
          have hfo_83 : f_82 o0 = .inr (3, [.ref a_2, .ref a_3, .ref a_4, .ref a_5, .ref a_6, .int v_7, .int v_8, .int v_9, .int v_10, .int v_11, .int v_12, .int v_13, .ref a_14, .ref a_15, .ref a_16, .int v_17, .ref a_18, .ref a_19]) := by rw [ef_82, up_ne (kd_ne ka_14 ko0 (by decide))]; exact hfo_47
          have hfo_84 : f_82 o1 = .inl (cI, 12, .inl g_51) := by rw [ef_82, up_ne (kd_ne ka_14 ko1 (by decide))]; exact hfo_50
          have hfo_85 : f_82 a_6 = .inl (cI, 8, .inl g_55) := by rw [ef_82, up_ne (kd_ne ka_14 ka_6 (by decide))]; exact hfo_54
          have hfo_86 : f_82 a_2 = .inr (7, [.ref a_59, .int v_60, .ref a_61, .ref a_62, .ref a_63, .ref a_64, .int v_65, .ref a_66, .ref a_67, .ref a_68, .ref a_69, .ref a_70, .int v_71, .ref a_72, .ref a_73, .ref a_74]) := by rw [ef_82, up_ne (kd_ne ka_14 ka_2 (by decide))]; exact hfo_58
          have hfr0 : ∀ b, kd b ≠ 525 → f_82 b = f b := fun b q525 => (congrFun ef_82 b).trans ((up_ne (fun e9 => q525 (by rw [e9]; exact ka_14))).trans (hfr0 b q525))
          have hfo_87 : f_82 a_14 = .inl (cI, 9, .inl g_80) := by rw [ef_82]; exact up_self
          refine lv_aload_n hx hb dX3_layRow_96 rfl (lv_at hl 6 rfl) ?_
          refine tk_getP (D := (dC, dI)) (ci := 3) (v := .ref a_14) (C := RX3) (T := TX3) (N := 18) hx hb hU inlX3 hown hK hP mo0 hfo_83 rfl 12 (by decide) (hU _ wd_63) (fun _ h9 => h9) rfl dX3_layRow_97 ?_
          refine lv_iload hx hb dX3_layRow_100 (lv_at hl 5 rfl) ?_
          have ez_88 : x_75 = g_80 (Int32.toNatClampNeg y_42) := by rw [eqg_80, pk_us]
          have ex_75 := ez_88
          refine tk_ildP hx hb hK hP 0 ma_14 hfo_87 rfl (vp_in_iff.mpr (by constructor <;> omega)) dX3_layRow_102 ?_
          refine tk_topi (y := x_75) ex_75.symm ?_
          refine lv_iconst (v := (-1)) hx hb dX3_layRow_103 (by decide) ?_
          refine lv_icmp_ne (tgt := 109) hx hb dX3_layRow_104 (by decide) (fun c_89 => ?_) (fun c_89 => ?_)
          · skip
            rw [← Int32.toInt_inj, ti_m1] at c_89
            obtain ⟨x_90, ex_90⟩ : ∃ y : Int32, y_42 + 1 = y := ⟨_, rfl⟩
            have hx_90 : x_90.toInt = y_42.toInt + 1 := by rw [← ex_90, ad_I (by rw [ti_1]; omega) (by rw [ti_1]; omega), ti_1]
            have bx_90 : (1 ≤ x_90.toInt ∧ x_90.toInt ≤ 9) := by constructor <;> omega
            refine lv_iinc (v := x_90) (lv' := [(7, .int x_90), (6, .int x_57), (10, .int x_56), (5, .int x_53), (9, .int x_52), (8, .int 0), (0, .ref o0), (1, .ref o1), (2, .int p2), (3, .int p3), (4, .int p4)]) hx hb dX3_layRow_109 hl (k := 5) rfl ex_90 (by decide) rfl (fun ls hl => ?_)
            refine lv_goto (tgt := 9) hx hb dX3_layRow_112 (by decide) ?_
            exact ih_hloop_41 x_90 (by constructor <;> omega) x_57 (by constructor <;> omega) x_53 (by constructor <;> omega) f_82 hG _ _ hP hS hD hfr0 hfo_83 (by (try rw [ti_0]) <;> omega) (fun g9 h9 j hj => by rw [hfo_87] at h9; cases h9; have hc9 := cl_I (i := y_42) (by omega); by_cases hji : j = Int32.toNatClampNeg y_42; (· rw [eqg_80, hji, pk_us]; omega); (· rw [eqg_80, pk_un hji]; exact hxl g_79 hfo_78 j (by omega))) (by (try rw [ti_0]) <;> omega) ls (lv_sub hl [0, 1, 3, 6, 7, 8, 9, 10] rfl)
          · skip
            rw [← Int32.toInt_inj, ti_m1] at c_89
            refine lv_iconst (v := 0) hx hb dX3_layRow_107 (by decide) ?_
            exact W.zret (v := 0) (ty := .boolean) hx hb hr rfl (fun t ht hW => ⟨⟨0, f_82, rfl, ⟨hG, (by decide), hfr0, (fun _ _ _ _ => Or.inl (by decide))⟩, by rw [ht]; exact hP, va_K.moved hW.alike hK, pl_in hD⟩, hS.F ht⟩) hS.2.2 dX3_layRow_108
        · skip
          rw [← Int32.toInt_inj, ti_0] at c_49
          refine lv_iload hx hb dX3_layRow_20 (lv_at hl 0 rfl) ?_
          refine lv_iload_n hx hb dX3_layRow_22 rfl (lv_at hl 6 rfl) ?_
          refine lv_icmp_ne (tgt := 30) hx hb dX3_layRow_23 (by decide) (fun c_91 => ?_) (fun c_91 => ?_)
          · skip
            rw [← Int32.toInt_inj] at c_91
            refine lv_iconst (v := 0) hx hb dX3_layRow_30 (by decide) ?_
            refine lv_istore (lv' := [(8, .int 0), (7, .int y_42), (6, .int y_43), (5, .int y_44), (0, .ref o0), (1, .ref o1), (2, .int p2), (3, .int p3), (4, .int p4)]) hx hb dX3_layRow_31 hl (by decide) rfl (fun ls hl => ?_)
            refine lv_iconst (v := 0) hx hb dX3_layRow_33 (by decide) ?_
            refine lv_istore (lv' := [(9, .int 0), (8, .int 0), (7, .int y_42), (6, .int y_43), (5, .int y_44), (0, .ref o0), (1, .ref o1), (2, .int p2), (3, .int p3), (4, .int p4)]) hx hb dX3_layRow_34 hl (by decide) rfl (fun ls hl => ?_)
            refine lv_iconst (v := 0) hx hb dX3_layRow_36 (by decide) ?_
            refine lv_istore (lv' := [(10, .int 0), (9, .int 0), (8, .int 0), (7, .int y_42), (6, .int y_43), (5, .int y_44), (0, .ref o0), (1, .ref o1), (2, .int p2), (3, .int p3), (4, .int p4)]) hx hb dX3_layRow_37 hl (by decide) rfl (fun ls hl => ?_)
            refine lv_iload hx hb dX3_layRow_39 (lv_at hl 2 rfl) ?_
            refine lv_if_eq (tgt := 48) hx hb dX3_layRow_41 (by decide) (fun _ => ?_) (fun c9 => absurd (by decide) c9)
            refine lv_aload_n hx hb dX3_layRow_48 rfl (lv_at hl 7 rfl) ?_
            refine lv_iload hx hb dX3_layRow_49 (lv_at hl 5 rfl) ?_
            obtain ⟨g_93, hfo_92, hbg_93⟩ := un_505 (hG _ mo1) ko1
            refine tk_ildP hx hb hK hP 0 mo1 hfo_92 rfl (vp_in_iff.mpr (by constructor <;> omega)) dX3_layRow_51 ?_
            refine lv_topi (fun x_94 ex_94 => ?_)
            have bx_94 : (0 ≤ x_94.toInt ∧ x_94.toInt ≤ 8) := by rw [ex_94]; exact hbg_93 _
            refine lv_istore (lv' := [(9, .int x_94), (10, .int 0), (8, .int 0), (7, .int y_42), (6, .int y_43), (5, .int y_44), (0, .ref o0), (1, .ref o1), (2, .int p2), (3, .int p3), (4, .int p4)]) hx hb dX3_layRow_52 hl (by decide) rfl (fun ls hl => ?_)
            obtain ⟨x_95, ex_95⟩ : ∃ y : Int32, y_44 + 1 = y := ⟨_, rfl⟩
            have hx_95 : x_95.toInt = y_44.toInt + 1 := by rw [← ex_95, ad_I (by rw [ti_1]; omega) (by rw [ti_1]; omega), ti_1]
            have bx_95 : (1 ≤ x_95.toInt ∧ x_95.toInt ≤ 10) := by constructor <;> omega
            refine lv_iinc (v := x_95) (lv' := [(5, .int x_95), (9, .int x_94), (10, .int 0), (8, .int 0), (7, .int y_42), (6, .int y_43), (0, .ref o0), (1, .ref o1), (2, .int p2), (3, .int p3), (4, .int p4)]) hx hb dX3_layRow_54 hl (k := 5) rfl ex_95 (by decide) rfl (fun ls hl => ?_)
            refine lv_iload hx hb dX3_layRow_57 (lv_at hl 3 rfl) ?_
            refine lv_if_eq (tgt := 66) hx hb dX3_layRow_59 (by decide) (fun _ => ?_) (fun c9 => absurd (by decide) c9)
            refine lv_aload_n hx hb dX3_layRow_66 rfl (lv_at hl 6 rfl) ?_
            refine tk_getP (D := (dC, dI)) (ci := 3) (v := .ref a_6) (C := RX3) (T := TX3) (N := 18) hx hb hU inlX3 hown hK hP mo0 hfo_47 rfl 4 (by decide) (hU _ wd_61) (fun _ h9 => h9) rfl dX3_layRow_67 ?_
            refine lv_iload hx hb dX3_layRow_70 (lv_at hl 5 rfl) ?_
            obtain ⟨g_97, hfo_96, hbg_97⟩ := un_507 (hG _ ma_6) ka_6
            refine tk_ildP hx hb hK hP 0 ma_6 hfo_96 rfl (vp_in_iff.mpr (by constructor <;> omega)) dX3_layRow_72 ?_
            refine lv_topi (fun x_98 ex_98 => ?_)
            have bx_98 : (0 ≤ x_98.toInt ∧ x_98.toInt ≤ 8) := by rw [ex_98]; exact hbg_97 _
            refine lv_istore (lv' := [(10, .int x_98), (5, .int x_95), (9, .int x_94), (8, .int 0), (7, .int y_42), (6, .int y_43), (0, .ref o0), (1, .ref o1), (2, .int p2), (3, .int p3), (4, .int p4)]) hx hb dX3_layRow_73 hl (by decide) rfl (fun ls hl => ?_)
            obtain ⟨x_99, ex_99⟩ : ∃ y : Int32, y_43 + 1 = y := ⟨_, rfl⟩
            have hx_99 : x_99.toInt = y_43.toInt + 1 := by rw [← ex_99, ad_I (by rw [ti_1]; omega) (by rw [ti_1]; omega), ti_1]
            have bx_99 : (1 ≤ x_99.toInt ∧ x_99.toInt ≤ 10) := by constructor <;> omega
            refine lv_iinc (v := x_99) (lv' := [(6, .int x_99), (10, .int x_98), (5, .int x_95), (9, .int x_94), (8, .int 0), (7, .int y_42), (0, .ref o0), (1, .ref o1), (2, .int p2), (3, .int p3), (4, .int p4)]) hx hb dX3_layRow_75 hl (k := 5) rfl ex_99 (by decide) rfl (fun ls hl => ?_)
            refine lv_aload_n hx hb dX3_layRow_78 rfl (lv_at hl 6 rfl) ?_
            refine tk_getP (D := (dC, dI)) (ci := 3) (v := .ref a_14) (C := RX3) (T := TX3) (N := 18) hx hb hU inlX3 hown hK hP mo0 hfo_47 rfl 12 (by decide) (hU _ wd_63) (fun _ h9 => h9) rfl dX3_layRow_79 ?_
            refine lv_iload hx hb dX3_layRow_82 (lv_at hl 5 rfl) ?_
            refine lv_aload_n hx hb dX3_layRow_84 rfl (lv_at hl 6 rfl) ?_
            refine tk_getP (D := (dC, dI)) (ci := 3) (v := .ref a_2) (C := RX3) (T := TX3) (N := 18) hx hb hU inlX3 hown hK hP mo0 hfo_47 rfl 0 (by decide) (hU _ wd_48) (fun _ h9 => h9) rfl dX3_layRow_85 ?_
            refine lv_iload hx hb dX3_layRow_88 (lv_at hl 3 rfl) ?_
            refine lv_iload hx hb dX3_layRow_90 (lv_at hl 1 rfl) ?_
            obtain ⟨a_101, v_102, a_103, a_104, a_105, a_106, v_107, a_108, a_109, a_110, a_111, a_112, v_113, a_114, a_115, a_116, hfo_100, ⟨ma_101, ka_101⟩, bv_102, ⟨ma_103, ka_103⟩, ⟨ma_104, ka_104⟩, ⟨ma_105, ka_105⟩, ⟨ma_106, ka_106⟩, bv_107, ⟨ma_108, ka_108⟩, ⟨ma_109, ka_109⟩, ⟨ma_110, ka_110⟩, ⟨ma_111, ka_111⟩, ⟨ma_112, ka_112⟩, bv_113, ⟨ma_114, ka_114⟩, ⟨ma_115, ka_115⟩, ⟨ma_116, ka_116⟩⟩ := un_7 (hG _ ma_2) ka_2
            refine tk_ViP (As := [.int x_94, .int x_98]) (rest := [.int y_42, .ref a_14]) (n := 2) hx hb hml hown hU hN hZ (s_X7_pairOf_k7 l (dC, dI) cI cL cZ cR cG cH Z kd L f_46 hG a_2 ma_2 ka_2 x_94 x_98) wd_1029 wd_393 wd_394 wd_28 wd_395 (by decide +kernel) ⟨Nat.le_of_ble_eq_true rfl, Nat.le_of_ble_eq_true rfl⟩ hK hP hD hS ma_2 hfo_100 7 rfl rfl rfl hl.1 rfl (Nat.le_of_ble_eq_true rfl) dX3_layRow_92 ⟨Nat.le_of_ble_eq_true rfl, Nat.le_of_ble_eq_true rfl⟩ (fun x_117 f_118 H locs hw hP hD hS => ?_)
            obtain ⟨rfl, bx_117⟩ := hw
            obtain ⟨g_121, hfo_120, hbg_121⟩ := un_525 (hG _ ma_14) ka_14
            refine tk_istP hx hb hK hP hD hS 0 ma_14 hfo_120 rfl (vp_in_iff.mpr (by constructor <;> omega)) dX3_layRow_95 (fun H locs hP hD hS => ?_)
            obtain ⟨g_122, eqg_122⟩ : ∃ y : Nat → Int32, y = upd g_121 (Int32.toNatClampNeg y_42) x_117 := ⟨_, rfl⟩
            rw [← eqg_122] at hP hD
            have hbg_122 : ∀ j, (-1) ≤ (g_122 j).toInt ∧ (g_122 j).toInt ≤ 19 := by rw [eqg_122]; exact okI_up hbg_121 (by constructor <;> omega) _
            obtain ⟨f_124, ef_124⟩ : ∃ y : Nat → va_E, y = va_up f_46 a_14 (.inl (cI, 9, .inl g_122)) := ⟨_, rfl⟩
            have hP : va_P (dC, dI) vwCl (va_pl L f_124) H := by rw [ef_124]; exact hP
            have hD : va_D (fun q => q ∈ L) (va_pl L f_124) := by rw [ef_124]; exact hD
            have hG : GI (okc cI cL cZ cR cG cH L kd) kd L f_124 := by rw [ef_124]; exact hG.set a_14 (mk_525 ka_14 ⟨_, rfl, hbg_122⟩)
            have hfo_125 : f_124 o0 = .inr (3, [.ref a_2, .ref a_3, .ref a_4, .ref a_5, .ref a_6, .int v_7, .int v_8, .int v_9, .int v_10, .int v_11, .int v_12, .int v_13, .ref a_14, .ref a_15, .ref a_16, .int v_17, .ref a_18, .ref a_19]) := by rw [ef_124, up_ne (kd_ne ka_14 ko0 (by decide))]; exact hfo_47
            have hfo_126 : f_124 o1 = .inl (cI, 12, .inl g_93) := by rw [ef_124, up_ne (kd_ne ka_14 ko1 (by decide))]; exact hfo_92
            have hfo_127 : f_124 a_6 = .inl (cI, 8, .inl g_97) := by rw [ef_124, up_ne (kd_ne ka_14 ka_6 (by decide))]; exact hfo_96
            have hfo_128 : f_124 a_2 = .inr (7, [.ref a_101, .int v_102, .ref a_103, .ref a_104, .ref a_105, .ref a_106, .int v_107, .ref a_108, .ref a_109, .ref a_110, .ref a_111, .ref a_112, .int v_113, .ref a_114, .ref a_115, .ref a_116]) := by rw [ef_124, up_ne (kd_ne ka_14 ka_2 (by decide))]; exact hfo_100
            have hfr0 : ∀ b, kd b ≠ 525 → f_124 b = f b := fun b q525 => (congrFun ef_124 b).trans ((up_ne (fun e9 => q525 (by rw [e9]; exact ka_14))).trans (hfr0 b q525))
            have hfo_129 : f_124 a_14 = .inl (cI, 9, .inl g_122) := by rw [ef_124]; exact up_self
            refine lv_aload_n hx hb dX3_layRow_96 rfl (lv_at hl 6 rfl) ?_
            refine tk_getP (D := (dC, dI)) (ci := 3) (v := .ref a_14) (C := RX3) (T := TX3) (N := 18) hx hb hU inlX3 hown hK hP mo0 hfo_125 rfl 12 (by decide) (hU _ wd_63) (fun _ h9 => h9) rfl dX3_layRow_97 ?_
            refine lv_iload hx hb dX3_layRow_100 (lv_at hl 5 rfl) ?_
            have ez_130 : x_117 = g_122 (Int32.toNatClampNeg y_42) := by rw [eqg_122, pk_us]
            have ex_117 := ez_130
            refine tk_ildP hx hb hK hP 0 ma_14 hfo_129 rfl (vp_in_iff.mpr (by constructor <;> omega)) dX3_layRow_102 ?_
            refine tk_topi (y := x_117) ex_117.symm ?_
            refine lv_iconst (v := (-1)) hx hb dX3_layRow_103 (by decide) ?_
            refine lv_icmp_ne (tgt := 109) hx hb dX3_layRow_104 (by decide) (fun c_131 => ?_) (fun c_131 => ?_)
            · skip
              rw [← Int32.toInt_inj, ti_m1] at c_131
              obtain ⟨x_132, ex_132⟩ : ∃ y : Int32, y_42 + 1 = y := ⟨_, rfl⟩
              have hx_132 : x_132.toInt = y_42.toInt + 1 := by rw [← ex_132, ad_I (by rw [ti_1]; omega) (by rw [ti_1]; omega), ti_1]
              have bx_132 : (1 ≤ x_132.toInt ∧ x_132.toInt ≤ 9) := by constructor <;> omega
              refine lv_iinc (v := x_132) (lv' := [(7, .int x_132), (6, .int x_99), (10, .int x_98), (5, .int x_95), (9, .int x_94), (8, .int 0), (0, .ref o0), (1, .ref o1), (2, .int p2), (3, .int p3), (4, .int p4)]) hx hb dX3_layRow_109 hl (k := 5) rfl ex_132 (by decide) rfl (fun ls hl => ?_)
              refine lv_goto (tgt := 9) hx hb dX3_layRow_112 (by decide) ?_
              exact ih_hloop_41 x_132 (by constructor <;> omega) x_99 (by constructor <;> omega) x_95 (by constructor <;> omega) f_124 hG _ _ hP hS hD hfr0 hfo_125 (by (try rw [ti_0]) <;> omega) (fun g9 h9 j hj => by rw [hfo_129] at h9; cases h9; have hc9 := cl_I (i := y_42) (by omega); by_cases hji : j = Int32.toNatClampNeg y_42; (· rw [eqg_122, hji, pk_us]; omega); (· rw [eqg_122, pk_un hji]; exact hxl g_121 hfo_120 j (by omega))) (by (try rw [ti_0]) <;> omega) ls (lv_sub hl [0, 1, 3, 6, 7, 8, 9, 10] rfl)
            · skip
              rw [← Int32.toInt_inj, ti_m1] at c_131
              refine lv_iconst (v := 0) hx hb dX3_layRow_107 (by decide) ?_
              exact W.zret (v := 0) (ty := .boolean) hx hb hr rfl (fun t ht hW => ⟨⟨0, f_124, rfl, ⟨hG, (by decide), hfr0, (fun _ _ _ _ => Or.inl (by decide))⟩, by rw [ht]; exact hP, va_K.moved hW.alike hK, pl_in hD⟩, hS.F ht⟩) hS.2.2 dX3_layRow_108
          · skip
            rw [← Int32.toInt_inj] at c_91
            refine lv_iconst (v := 1) hx hb dX3_layRow_26 (by decide) ?_
            refine lv_goto (tgt := 31) hx hb dX3_layRow_27 (by decide) ?_
            refine lv_istore (lv' := [(8, .int 1), (7, .int y_42), (6, .int y_43), (5, .int y_44), (0, .ref o0), (1, .ref o1), (2, .int p2), (3, .int p3), (4, .int p4)]) hx hb dX3_layRow_31 hl (by decide) rfl (fun ls hl => ?_)
            refine lv_iconst (v := 0) hx hb dX3_layRow_33 (by decide) ?_
            refine lv_istore (lv' := [(9, .int 0), (8, .int 1), (7, .int y_42), (6, .int y_43), (5, .int y_44), (0, .ref o0), (1, .ref o1), (2, .int p2), (3, .int p3), (4, .int p4)]) hx hb dX3_layRow_34 hl (by decide) rfl (fun ls hl => ?_)
            refine lv_iconst (v := 0) hx hb dX3_layRow_36 (by decide) ?_
            refine lv_istore (lv' := [(10, .int 0), (9, .int 0), (8, .int 1), (7, .int y_42), (6, .int y_43), (5, .int y_44), (0, .ref o0), (1, .ref o1), (2, .int p2), (3, .int p3), (4, .int p4)]) hx hb dX3_layRow_37 hl (by decide) rfl (fun ls hl => ?_)
            refine lv_iload hx hb dX3_layRow_39 (lv_at hl 2 rfl) ?_
            refine lv_if_eq (tgt := 48) hx hb dX3_layRow_41 (by decide) (fun c9 => absurd c9 (by decide)) (fun _ => ?_)
            refine lv_iload_n hx hb dX3_layRow_44 rfl (lv_at hl 8 rfl) ?_
            refine lv_if_le (tgt := 57) hx hb dX3_layRow_45 (by decide) (fun c_133 => ?_) (fun c_133 => ?_)
            · skip
              rw [Int32.le_iff_toInt_le, ti_0] at c_133
              refine lv_iload hx hb dX3_layRow_57 (lv_at hl 2 rfl) ?_
              refine lv_if_eq (tgt := 66) hx hb dX3_layRow_59 (by decide) (fun c9 => absurd c9 (by decide)) (fun _ => ?_)
              refine lv_iload_n hx hb dX3_layRow_62 rfl (lv_at hl 8 rfl) ?_
              refine lv_if_ge (tgt := 78) hx hb dX3_layRow_63 (by decide) (fun c_134 => ?_) (fun c_134 => ?_)
              · skip
                rw [Int32.le_iff_toInt_le, ti_0] at c_134
                refine lv_aload_n hx hb dX3_layRow_78 rfl (lv_at hl 6 rfl) ?_
                refine tk_getP (D := (dC, dI)) (ci := 3) (v := .ref a_14) (C := RX3) (T := TX3) (N := 18) hx hb hU inlX3 hown hK hP mo0 hfo_47 rfl 12 (by decide) (hU _ wd_63) (fun _ h9 => h9) rfl dX3_layRow_79 ?_
                refine lv_iload hx hb dX3_layRow_82 (lv_at hl 3 rfl) ?_
                refine lv_aload_n hx hb dX3_layRow_84 rfl (lv_at hl 6 rfl) ?_
                refine tk_getP (D := (dC, dI)) (ci := 3) (v := .ref a_2) (C := RX3) (T := TX3) (N := 18) hx hb hU inlX3 hown hK hP mo0 hfo_47 rfl 0 (by decide) (hU _ wd_48) (fun _ h9 => h9) rfl dX3_layRow_85 ?_
                refine lv_iload hx hb dX3_layRow_88 (lv_at hl 1 rfl) ?_
                refine lv_iload hx hb dX3_layRow_90 (lv_at hl 0 rfl) ?_
                obtain ⟨a_136, v_137, a_138, a_139, a_140, a_141, v_142, a_143, a_144, a_145, a_146, a_147, v_148, a_149, a_150, a_151, hfo_135, ⟨ma_136, ka_136⟩, bv_137, ⟨ma_138, ka_138⟩, ⟨ma_139, ka_139⟩, ⟨ma_140, ka_140⟩, ⟨ma_141, ka_141⟩, bv_142, ⟨ma_143, ka_143⟩, ⟨ma_144, ka_144⟩, ⟨ma_145, ka_145⟩, ⟨ma_146, ka_146⟩, ⟨ma_147, ka_147⟩, bv_148, ⟨ma_149, ka_149⟩, ⟨ma_150, ka_150⟩, ⟨ma_151, ka_151⟩⟩ := un_7 (hG _ ma_2) ka_2
                refine tk_ViP (As := [.int 0, .int 0]) (rest := [.int y_42, .ref a_14]) (n := 2) hx hb hml hown hU hN hZ (s_X7_pairOf_k7 l (dC, dI) cI cL cZ cR cG cH Z kd L f_46 hG a_2 ma_2 ka_2 0 0) wd_1029 wd_393 wd_394 wd_28 wd_395 (by decide +kernel) ⟨Nat.le_of_ble_eq_true rfl, Nat.le_of_ble_eq_true rfl⟩ hK hP hD hS ma_2 hfo_135 7 rfl rfl rfl hl.1 rfl (Nat.le_of_ble_eq_true rfl) dX3_layRow_92 ⟨Nat.le_of_ble_eq_true rfl, Nat.le_of_ble_eq_true rfl⟩ (fun x_152 f_153 H locs hw hP hD hS => ?_)
                obtain ⟨rfl, bx_152⟩ := hw
                obtain ⟨g_156, hfo_155, hbg_156⟩ := un_525 (hG _ ma_14) ka_14
                refine tk_istP hx hb hK hP hD hS 0 ma_14 hfo_155 rfl (vp_in_iff.mpr (by constructor <;> omega)) dX3_layRow_95 (fun H locs hP hD hS => ?_)
                obtain ⟨g_157, eqg_157⟩ : ∃ y : Nat → Int32, y = upd g_156 (Int32.toNatClampNeg y_42) x_152 := ⟨_, rfl⟩
                rw [← eqg_157] at hP hD
                have hbg_157 : ∀ j, (-1) ≤ (g_157 j).toInt ∧ (g_157 j).toInt ≤ 19 := by rw [eqg_157]; exact okI_up hbg_156 (by constructor <;> omega) _
                obtain ⟨f_159, ef_159⟩ : ∃ y : Nat → va_E, y = va_up f_46 a_14 (.inl (cI, 9, .inl g_157)) := ⟨_, rfl⟩
                have hP : va_P (dC, dI) vwCl (va_pl L f_159) H := by rw [ef_159]; exact hP
                have hD : va_D (fun q => q ∈ L) (va_pl L f_159) := by rw [ef_159]; exact hD
                have hG : GI (okc cI cL cZ cR cG cH L kd) kd L f_159 := by rw [ef_159]; exact hG.set a_14 (mk_525 ka_14 ⟨_, rfl, hbg_157⟩)
                have hfo_160 : f_159 o0 = .inr (3, [.ref a_2, .ref a_3, .ref a_4, .ref a_5, .ref a_6, .int v_7, .int v_8, .int v_9, .int v_10, .int v_11, .int v_12, .int v_13, .ref a_14, .ref a_15, .ref a_16, .int v_17, .ref a_18, .ref a_19]) := by rw [ef_159, up_ne (kd_ne ka_14 ko0 (by decide))]; exact hfo_47
                have hfo_161 : f_159 a_2 = .inr (7, [.ref a_136, .int v_137, .ref a_138, .ref a_139, .ref a_140, .ref a_141, .int v_142, .ref a_143, .ref a_144, .ref a_145, .ref a_146, .ref a_147, .int v_148, .ref a_149, .ref a_150, .ref a_151]) := by rw [ef_159, up_ne (kd_ne ka_14 ka_2 (by decide))]; exact hfo_135
                have hfr0 : ∀ b, kd b ≠ 525 → f_159 b = f b := fun b q525 => (congrFun ef_159 b).trans ((up_ne (fun e9 => q525 (by rw [e9]; exact ka_14))).trans (hfr0 b q525))
                have hfo_162 : f_159 a_14 = .inl (cI, 9, .inl g_157) := by rw [ef_159]; exact up_self
                refine lv_aload_n hx hb dX3_layRow_96 rfl (lv_at hl 6 rfl) ?_
                refine tk_getP (D := (dC, dI)) (ci := 3) (v := .ref a_14) (C := RX3) (T := TX3) (N := 18) hx hb hU inlX3 hown hK hP mo0 hfo_160 rfl 12 (by decide) (hU _ wd_63) (fun _ h9 => h9) rfl dX3_layRow_97 ?_
                refine lv_iload hx hb dX3_layRow_100 (lv_at hl 3 rfl) ?_
                have ez_163 : x_152 = g_157 (Int32.toNatClampNeg y_42) := by rw [eqg_157, pk_us]
                have ex_152 := ez_163
                refine tk_ildP hx hb hK hP 0 ma_14 hfo_162 rfl (vp_in_iff.mpr (by constructor <;> omega)) dX3_layRow_102 ?_
                refine tk_topi (y := x_152) ex_152.symm ?_
                refine lv_iconst (v := (-1)) hx hb dX3_layRow_103 (by decide) ?_
                refine lv_icmp_ne (tgt := 109) hx hb dX3_layRow_104 (by decide) (fun c_164 => ?_) (fun c_164 => ?_)
                · skip
                  rw [← Int32.toInt_inj, ti_m1] at c_164
                  obtain ⟨x_165, ex_165⟩ : ∃ y : Int32, y_42 + 1 = y := ⟨_, rfl⟩
                  have hx_165 : x_165.toInt = y_42.toInt + 1 := by rw [← ex_165, ad_I (by rw [ti_1]; omega) (by rw [ti_1]; omega), ti_1]
                  have bx_165 : (1 ≤ x_165.toInt ∧ x_165.toInt ≤ 9) := by constructor <;> omega
                  refine lv_iinc (v := x_165) (lv' := [(7, .int x_165), (10, .int 0), (9, .int 0), (8, .int 1), (6, .int y_43), (5, .int y_44), (0, .ref o0), (1, .ref o1), (2, .int p2), (3, .int p3), (4, .int p4)]) hx hb dX3_layRow_109 hl (k := 3) rfl ex_165 (by decide) rfl (fun ls hl => ?_)
                  refine lv_goto (tgt := 9) hx hb dX3_layRow_112 (by decide) ?_
                  exact ih_hloop_41 x_165 (by constructor <;> omega) y_43 (by constructor <;> omega) y_44 (by constructor <;> omega) f_159 hG _ _ hP hS hD hfr0 hfo_160 (by (try rw [ti_0]) <;> (try rw [ti_1]) <;> omega) (fun g9 h9 j hj => by rw [hfo_162] at h9; cases h9; have hc9 := cl_I (i := y_42) (by omega); by_cases hji : j = Int32.toNatClampNeg y_42; (· rw [eqg_157, hji, pk_us]; omega); (· rw [eqg_157, pk_un hji]; exact hxl g_156 hfo_155 j (by omega))) (by (try rw [ti_0]) <;> (try rw [ti_1]) <;> omega) ls (lv_sub hl [0, 4, 5, 6, 7, 8, 9, 10] rfl)
                · skip
                  rw [← Int32.toInt_inj, ti_m1] at c_164
                  refine lv_iconst (v := 0) hx hb dX3_layRow_107 (by decide) ?_
                  exact W.zret (v := 0) (ty := .boolean) hx hb hr rfl (fun t ht hW => ⟨⟨0, f_159, rfl, ⟨hG, (by decide), hfr0, (fun _ _ _ _ => Or.inl (by decide))⟩, by rw [ht]; exact hP, va_K.moved hW.alike hK, pl_in hD⟩, hS.F ht⟩) hS.2.2 dX3_layRow_108
              · skip
                rw [Int32.le_iff_toInt_le, ti_0] at c_134
                refine lv_aload_n hx hb dX3_layRow_66 rfl (lv_at hl 6 rfl) ?_
                refine tk_getP (D := (dC, dI)) (ci := 3) (v := .ref a_6) (C := RX3) (T := TX3) (N := 18) hx hb hU inlX3 hown hK hP mo0 hfo_47 rfl 4 (by decide) (hU _ wd_61) (fun _ h9 => h9) rfl dX3_layRow_67 ?_
                refine lv_iload hx hb dX3_layRow_70 (lv_at hl 4 rfl) ?_
                obtain ⟨g_167, hfo_166, hbg_167⟩ := un_507 (hG _ ma_6) ka_6
                refine tk_ildP hx hb hK hP 0 ma_6 hfo_166 rfl (vp_in_iff.mpr (by constructor <;> omega)) dX3_layRow_72 ?_
                refine lv_topi (fun x_168 ex_168 => ?_)
                have bx_168 : (0 ≤ x_168.toInt ∧ x_168.toInt ≤ 8) := by rw [ex_168]; exact hbg_167 _
                refine lv_istore (lv' := [(10, .int x_168), (9, .int 0), (8, .int 1), (7, .int y_42), (6, .int y_43), (5, .int y_44), (0, .ref o0), (1, .ref o1), (2, .int p2), (3, .int p3), (4, .int p4)]) hx hb dX3_layRow_73 hl (by decide) rfl (fun ls hl => ?_)
                obtain ⟨x_169, ex_169⟩ : ∃ y : Int32, y_43 + 1 = y := ⟨_, rfl⟩
                have hx_169 : x_169.toInt = y_43.toInt + 1 := by rw [← ex_169, ad_I (by rw [ti_1]; omega) (by rw [ti_1]; omega), ti_1]
                have bx_169 : (1 ≤ x_169.toInt ∧ x_169.toInt ≤ 10) := by constructor <;> omega
                refine lv_iinc (v := x_169) (lv' := [(6, .int x_169), (10, .int x_168), (9, .int 0), (8, .int 1), (7, .int y_42), (5, .int y_44), (0, .ref o0), (1, .ref o1), (2, .int p2), (3, .int p3), (4, .int p4)]) hx hb dX3_layRow_75 hl (k := 4) rfl ex_169 (by decide) rfl (fun ls hl => ?_)
                refine lv_aload_n hx hb dX3_layRow_78 rfl (lv_at hl 6 rfl) ?_
                refine tk_getP (D := (dC, dI)) (ci := 3) (v := .ref a_14) (C := RX3) (T := TX3) (N := 18) hx hb hU inlX3 hown hK hP mo0 hfo_47 rfl 12 (by decide) (hU _ wd_63) (fun _ h9 => h9) rfl dX3_layRow_79 ?_
                refine lv_iload hx hb dX3_layRow_82 (lv_at hl 4 rfl) ?_
                refine lv_aload_n hx hb dX3_layRow_84 rfl (lv_at hl 6 rfl) ?_
                refine tk_getP (D := (dC, dI)) (ci := 3) (v := .ref a_2) (C := RX3) (T := TX3) (N := 18) hx hb hU inlX3 hown hK hP mo0 hfo_47 rfl 0 (by decide) (hU _ wd_48) (fun _ h9 => h9) rfl dX3_layRow_85 ?_
                refine lv_iload hx hb dX3_layRow_88 (lv_at hl 2 rfl) ?_
                refine lv_iload hx hb dX3_layRow_90 (lv_at hl 1 rfl) ?_
                obtain ⟨a_171, v_172, a_173, a_174, a_175, a_176, v_177, a_178, a_179, a_180, a_181, a_182, v_183, a_184, a_185, a_186, hfo_170, ⟨ma_171, ka_171⟩, bv_172, ⟨ma_173, ka_173⟩, ⟨ma_174, ka_174⟩, ⟨ma_175, ka_175⟩, ⟨ma_176, ka_176⟩, bv_177, ⟨ma_178, ka_178⟩, ⟨ma_179, ka_179⟩, ⟨ma_180, ka_180⟩, ⟨ma_181, ka_181⟩, ⟨ma_182, ka_182⟩, bv_183, ⟨ma_184, ka_184⟩, ⟨ma_185, ka_185⟩, ⟨ma_186, ka_186⟩⟩ := un_7 (hG _ ma_2) ka_2
                refine tk_ViP (As := [.int 0, .int x_168]) (rest := [.int y_42, .ref a_14]) (n := 2) hx hb hml hown hU hN hZ (s_X7_pairOf_k7 l (dC, dI) cI cL cZ cR cG cH Z kd L f_46 hG a_2 ma_2 ka_2 0 x_168) wd_1029 wd_393 wd_394 wd_28 wd_395 (by decide +kernel) ⟨Nat.le_of_ble_eq_true rfl, Nat.le_of_ble_eq_true rfl⟩ hK hP hD hS ma_2 hfo_170 7 rfl rfl rfl hl.1 rfl (Nat.le_of_ble_eq_true rfl) dX3_layRow_92 ⟨Nat.le_of_ble_eq_true rfl, Nat.le_of_ble_eq_true rfl⟩ (fun x_187 f_188 H locs hw hP hD hS => ?_)
                obtain ⟨rfl, bx_187⟩ := hw
                obtain ⟨g_191, hfo_190, hbg_191⟩ := un_525 (hG _ ma_14) ka_14
                refine tk_istP hx hb hK hP hD hS 0 ma_14 hfo_190 rfl (vp_in_iff.mpr (by constructor <;> omega)) dX3_layRow_95 (fun H locs hP hD hS => ?_)
                obtain ⟨g_192, eqg_192⟩ : ∃ y : Nat → Int32, y = upd g_191 (Int32.toNatClampNeg y_42) x_187 := ⟨_, rfl⟩
                rw [← eqg_192] at hP hD
                have hbg_192 : ∀ j, (-1) ≤ (g_192 j).toInt ∧ (g_192 j).toInt ≤ 19 := by rw [eqg_192]; exact okI_up hbg_191 (by constructor <;> omega) _
                obtain ⟨f_194, ef_194⟩ : ∃ y : Nat → va_E, y = va_up f_46 a_14 (.inl (cI, 9, .inl g_192)) := ⟨_, rfl⟩
                have hP : va_P (dC, dI) vwCl (va_pl L f_194) H := by rw [ef_194]; exact hP
                have hD : va_D (fun q => q ∈ L) (va_pl L f_194) := by rw [ef_194]; exact hD
                have hG : GI (okc cI cL cZ cR cG cH L kd) kd L f_194 := by rw [ef_194]; exact hG.set a_14 (mk_525 ka_14 ⟨_, rfl, hbg_192⟩)
                have hfo_195 : f_194 o0 = .inr (3, [.ref a_2, .ref a_3, .ref a_4, .ref a_5, .ref a_6, .int v_7, .int v_8, .int v_9, .int v_10, .int v_11, .int v_12, .int v_13, .ref a_14, .ref a_15, .ref a_16, .int v_17, .ref a_18, .ref a_19]) := by rw [ef_194, up_ne (kd_ne ka_14 ko0 (by decide))]; exact hfo_47
                have hfo_196 : f_194 a_6 = .inl (cI, 8, .inl g_167) := by rw [ef_194, up_ne (kd_ne ka_14 ka_6 (by decide))]; exact hfo_166
                have hfo_197 : f_194 a_2 = .inr (7, [.ref a_171, .int v_172, .ref a_173, .ref a_174, .ref a_175, .ref a_176, .int v_177, .ref a_178, .ref a_179, .ref a_180, .ref a_181, .ref a_182, .int v_183, .ref a_184, .ref a_185, .ref a_186]) := by rw [ef_194, up_ne (kd_ne ka_14 ka_2 (by decide))]; exact hfo_170
                have hfr0 : ∀ b, kd b ≠ 525 → f_194 b = f b := fun b q525 => (congrFun ef_194 b).trans ((up_ne (fun e9 => q525 (by rw [e9]; exact ka_14))).trans (hfr0 b q525))
                have hfo_198 : f_194 a_14 = .inl (cI, 9, .inl g_192) := by rw [ef_194]; exact up_self
                refine lv_aload_n hx hb dX3_layRow_96 rfl (lv_at hl 6 rfl) ?_
                refine tk_getP (D := (dC, dI)) (ci := 3) (v := .ref a_14) (C := RX3) (T := TX3) (N := 18) hx hb hU inlX3 hown hK hP mo0 hfo_195 rfl 12 (by decide) (hU _ wd_63) (fun _ h9 => h9) rfl dX3_layRow_97 ?_
                refine lv_iload hx hb dX3_layRow_100 (lv_at hl 4 rfl) ?_
                have ez_199 : x_187 = g_192 (Int32.toNatClampNeg y_42) := by rw [eqg_192, pk_us]
                have ex_187 := ez_199
                refine tk_ildP hx hb hK hP 0 ma_14 hfo_198 rfl (vp_in_iff.mpr (by constructor <;> omega)) dX3_layRow_102 ?_
                refine tk_topi (y := x_187) ex_187.symm ?_
                refine lv_iconst (v := (-1)) hx hb dX3_layRow_103 (by decide) ?_
                refine lv_icmp_ne (tgt := 109) hx hb dX3_layRow_104 (by decide) (fun c_200 => ?_) (fun c_200 => ?_)
                · skip
                  rw [← Int32.toInt_inj, ti_m1] at c_200
                  obtain ⟨x_201, ex_201⟩ : ∃ y : Int32, y_42 + 1 = y := ⟨_, rfl⟩
                  have hx_201 : x_201.toInt = y_42.toInt + 1 := by rw [← ex_201, ad_I (by rw [ti_1]; omega) (by rw [ti_1]; omega), ti_1]
                  have bx_201 : (1 ≤ x_201.toInt ∧ x_201.toInt ≤ 9) := by constructor <;> omega
                  refine lv_iinc (v := x_201) (lv' := [(7, .int x_201), (6, .int x_169), (10, .int x_168), (9, .int 0), (8, .int 1), (5, .int y_44), (0, .ref o0), (1, .ref o1), (2, .int p2), (3, .int p3), (4, .int p4)]) hx hb dX3_layRow_109 hl (k := 4) rfl ex_201 (by decide) rfl (fun ls hl => ?_)
                  refine lv_goto (tgt := 9) hx hb dX3_layRow_112 (by decide) ?_
                  exact ih_hloop_41 x_201 (by constructor <;> omega) x_169 (by constructor <;> omega) y_44 (by constructor <;> omega) f_194 hG _ _ hP hS hD hfr0 hfo_195 (by (try rw [ti_0]) <;> (try rw [ti_1]) <;> omega) (fun g9 h9 j hj => by rw [hfo_198] at h9; cases h9; have hc9 := cl_I (i := y_42) (by omega); by_cases hji : j = Int32.toNatClampNeg y_42; (· rw [eqg_192, hji, pk_us]; omega); (· rw [eqg_192, pk_un hji]; exact hxl g_191 hfo_190 j (by omega))) (by (try rw [ti_0]) <;> (try rw [ti_1]) <;> omega) ls (lv_sub hl [0, 1, 5, 6, 7, 8, 9, 10] rfl)
                · skip
                  rw [← Int32.toInt_inj, ti_m1] at c_200
                  refine lv_iconst (v := 0) hx hb dX3_layRow_107 (by decide) ?_
                  exact W.zret (v := 0) (ty := .boolean) hx hb hr rfl (fun t ht hW => ⟨⟨0, f_194, rfl, ⟨hG, (by decide), hfr0, (fun _ _ _ _ => Or.inl (by decide))⟩, by rw [ht]; exact hP, va_K.moved hW.alike hK, pl_in hD⟩, hS.F ht⟩) hS.2.2 dX3_layRow_108
            · skip
              rw [Int32.le_iff_toInt_le, ti_0] at c_133
              refine lv_aload_n hx hb dX3_layRow_48 rfl (lv_at hl 7 rfl) ?_
              refine lv_iload hx hb dX3_layRow_49 (lv_at hl 5 rfl) ?_
              obtain ⟨g_203, hfo_202, hbg_203⟩ := un_505 (hG _ mo1) ko1
              refine tk_ildP hx hb hK hP 0 mo1 hfo_202 rfl (vp_in_iff.mpr (by constructor <;> omega)) dX3_layRow_51 ?_
              refine lv_topi (fun x_204 ex_204 => ?_)
              have bx_204 : (0 ≤ x_204.toInt ∧ x_204.toInt ≤ 8) := by rw [ex_204]; exact hbg_203 _
              refine lv_istore (lv' := [(9, .int x_204), (10, .int 0), (8, .int 1), (7, .int y_42), (6, .int y_43), (5, .int y_44), (0, .ref o0), (1, .ref o1), (2, .int p2), (3, .int p3), (4, .int p4)]) hx hb dX3_layRow_52 hl (by decide) rfl (fun ls hl => ?_)
              obtain ⟨x_205, ex_205⟩ : ∃ y : Int32, y_44 + 1 = y := ⟨_, rfl⟩
              have hx_205 : x_205.toInt = y_44.toInt + 1 := by rw [← ex_205, ad_I (by rw [ti_1]; omega) (by rw [ti_1]; omega), ti_1]
              have bx_205 : (1 ≤ x_205.toInt ∧ x_205.toInt ≤ 10) := by constructor <;> omega
              refine lv_iinc (v := x_205) (lv' := [(5, .int x_205), (9, .int x_204), (10, .int 0), (8, .int 1), (7, .int y_42), (6, .int y_43), (0, .ref o0), (1, .ref o1), (2, .int p2), (3, .int p3), (4, .int p4)]) hx hb dX3_layRow_54 hl (k := 5) rfl ex_205 (by decide) rfl (fun ls hl => ?_)
              refine lv_iload hx hb dX3_layRow_57 (lv_at hl 3 rfl) ?_
              refine lv_if_eq (tgt := 66) hx hb dX3_layRow_59 (by decide) (fun c9 => absurd c9 (by decide)) (fun _ => ?_)
              refine lv_iload_n hx hb dX3_layRow_62 rfl (lv_at hl 8 rfl) ?_
              refine lv_if_ge (tgt := 78) hx hb dX3_layRow_63 (by decide) (fun c_206 => ?_) (fun c_206 => ?_)
              · skip
                rw [Int32.le_iff_toInt_le, ti_0] at c_206
                refine lv_aload_n hx hb dX3_layRow_78 rfl (lv_at hl 6 rfl) ?_
                refine tk_getP (D := (dC, dI)) (ci := 3) (v := .ref a_14) (C := RX3) (T := TX3) (N := 18) hx hb hU inlX3 hown hK hP mo0 hfo_47 rfl 12 (by decide) (hU _ wd_63) (fun _ h9 => h9) rfl dX3_layRow_79 ?_
                refine lv_iload hx hb dX3_layRow_82 (lv_at hl 4 rfl) ?_
                refine lv_aload_n hx hb dX3_layRow_84 rfl (lv_at hl 6 rfl) ?_
                refine tk_getP (D := (dC, dI)) (ci := 3) (v := .ref a_2) (C := RX3) (T := TX3) (N := 18) hx hb hU inlX3 hown hK hP mo0 hfo_47 rfl 0 (by decide) (hU _ wd_48) (fun _ h9 => h9) rfl dX3_layRow_85 ?_
                refine lv_iload hx hb dX3_layRow_88 (lv_at hl 1 rfl) ?_
                refine lv_iload hx hb dX3_layRow_90 (lv_at hl 2 rfl) ?_
                obtain ⟨a_208, v_209, a_210, a_211, a_212, a_213, v_214, a_215, a_216, a_217, a_218, a_219, v_220, a_221, a_222, a_223, hfo_207, ⟨ma_208, ka_208⟩, bv_209, ⟨ma_210, ka_210⟩, ⟨ma_211, ka_211⟩, ⟨ma_212, ka_212⟩, ⟨ma_213, ka_213⟩, bv_214, ⟨ma_215, ka_215⟩, ⟨ma_216, ka_216⟩, ⟨ma_217, ka_217⟩, ⟨ma_218, ka_218⟩, ⟨ma_219, ka_219⟩, bv_220, ⟨ma_221, ka_221⟩, ⟨ma_222, ka_222⟩, ⟨ma_223, ka_223⟩⟩ := un_7 (hG _ ma_2) ka_2
                refine tk_ViP (As := [.int x_204, .int 0]) (rest := [.int y_42, .ref a_14]) (n := 2) hx hb hml hown hU hN hZ (s_X7_pairOf_k7 l (dC, dI) cI cL cZ cR cG cH Z kd L f_46 hG a_2 ma_2 ka_2 x_204 0) wd_1029 wd_393 wd_394 wd_28 wd_395 (by decide +kernel) ⟨Nat.le_of_ble_eq_true rfl, Nat.le_of_ble_eq_true rfl⟩ hK hP hD hS ma_2 hfo_207 7 rfl rfl rfl hl.1 rfl (Nat.le_of_ble_eq_true rfl) dX3_layRow_92 ⟨Nat.le_of_ble_eq_true rfl, Nat.le_of_ble_eq_true rfl⟩ (fun x_224 f_225 H locs hw hP hD hS => ?_)
                obtain ⟨rfl, bx_224⟩ := hw
                obtain ⟨g_228, hfo_227, hbg_228⟩ := un_525 (hG _ ma_14) ka_14
                refine tk_istP hx hb hK hP hD hS 0 ma_14 hfo_227 rfl (vp_in_iff.mpr (by constructor <;> omega)) dX3_layRow_95 (fun H locs hP hD hS => ?_)
                obtain ⟨g_229, eqg_229⟩ : ∃ y : Nat → Int32, y = upd g_228 (Int32.toNatClampNeg y_42) x_224 := ⟨_, rfl⟩
                rw [← eqg_229] at hP hD
                have hbg_229 : ∀ j, (-1) ≤ (g_229 j).toInt ∧ (g_229 j).toInt ≤ 19 := by rw [eqg_229]; exact okI_up hbg_228 (by constructor <;> omega) _
                obtain ⟨f_231, ef_231⟩ : ∃ y : Nat → va_E, y = va_up f_46 a_14 (.inl (cI, 9, .inl g_229)) := ⟨_, rfl⟩
                have hP : va_P (dC, dI) vwCl (va_pl L f_231) H := by rw [ef_231]; exact hP
                have hD : va_D (fun q => q ∈ L) (va_pl L f_231) := by rw [ef_231]; exact hD
                have hG : GI (okc cI cL cZ cR cG cH L kd) kd L f_231 := by rw [ef_231]; exact hG.set a_14 (mk_525 ka_14 ⟨_, rfl, hbg_229⟩)
                have hfo_232 : f_231 o0 = .inr (3, [.ref a_2, .ref a_3, .ref a_4, .ref a_5, .ref a_6, .int v_7, .int v_8, .int v_9, .int v_10, .int v_11, .int v_12, .int v_13, .ref a_14, .ref a_15, .ref a_16, .int v_17, .ref a_18, .ref a_19]) := by rw [ef_231, up_ne (kd_ne ka_14 ko0 (by decide))]; exact hfo_47
                have hfo_233 : f_231 o1 = .inl (cI, 12, .inl g_203) := by rw [ef_231, up_ne (kd_ne ka_14 ko1 (by decide))]; exact hfo_202
                have hfo_234 : f_231 a_2 = .inr (7, [.ref a_208, .int v_209, .ref a_210, .ref a_211, .ref a_212, .ref a_213, .int v_214, .ref a_215, .ref a_216, .ref a_217, .ref a_218, .ref a_219, .int v_220, .ref a_221, .ref a_222, .ref a_223]) := by rw [ef_231, up_ne (kd_ne ka_14 ka_2 (by decide))]; exact hfo_207
                have hfr0 : ∀ b, kd b ≠ 525 → f_231 b = f b := fun b q525 => (congrFun ef_231 b).trans ((up_ne (fun e9 => q525 (by rw [e9]; exact ka_14))).trans (hfr0 b q525))
                have hfo_235 : f_231 a_14 = .inl (cI, 9, .inl g_229) := by rw [ef_231]; exact up_self
                refine lv_aload_n hx hb dX3_layRow_96 rfl (lv_at hl 6 rfl) ?_
                refine tk_getP (D := (dC, dI)) (ci := 3) (v := .ref a_14) (C := RX3) (T := TX3) (N := 18) hx hb hU inlX3 hown hK hP mo0 hfo_232 rfl 12 (by decide) (hU _ wd_63) (fun _ h9 => h9) rfl dX3_layRow_97 ?_
                refine lv_iload hx hb dX3_layRow_100 (lv_at hl 4 rfl) ?_
                have ez_236 : x_224 = g_229 (Int32.toNatClampNeg y_42) := by rw [eqg_229, pk_us]
                have ex_224 := ez_236
                refine tk_ildP hx hb hK hP 0 ma_14 hfo_235 rfl (vp_in_iff.mpr (by constructor <;> omega)) dX3_layRow_102 ?_
                refine tk_topi (y := x_224) ex_224.symm ?_
                refine lv_iconst (v := (-1)) hx hb dX3_layRow_103 (by decide) ?_
                refine lv_icmp_ne (tgt := 109) hx hb dX3_layRow_104 (by decide) (fun c_237 => ?_) (fun c_237 => ?_)
                · skip
                  rw [← Int32.toInt_inj, ti_m1] at c_237
                  obtain ⟨x_238, ex_238⟩ : ∃ y : Int32, y_42 + 1 = y := ⟨_, rfl⟩
                  have hx_238 : x_238.toInt = y_42.toInt + 1 := by rw [← ex_238, ad_I (by rw [ti_1]; omega) (by rw [ti_1]; omega), ti_1]
                  have bx_238 : (1 ≤ x_238.toInt ∧ x_238.toInt ≤ 9) := by constructor <;> omega
                  refine lv_iinc (v := x_238) (lv' := [(7, .int x_238), (5, .int x_205), (9, .int x_204), (10, .int 0), (8, .int 1), (6, .int y_43), (0, .ref o0), (1, .ref o1), (2, .int p2), (3, .int p3), (4, .int p4)]) hx hb dX3_layRow_109 hl (k := 4) rfl ex_238 (by decide) rfl (fun ls hl => ?_)
                  refine lv_goto (tgt := 9) hx hb dX3_layRow_112 (by decide) ?_
                  exact ih_hloop_41 x_238 (by constructor <;> omega) y_43 (by constructor <;> omega) x_205 (by constructor <;> omega) f_231 hG _ _ hP hS hD hfr0 hfo_232 (by (try rw [ti_0]) <;> (try rw [ti_1]) <;> omega) (fun g9 h9 j hj => by rw [hfo_235] at h9; cases h9; have hc9 := cl_I (i := y_42) (by omega); by_cases hji : j = Int32.toNatClampNeg y_42; (· rw [eqg_229, hji, pk_us]; omega); (· rw [eqg_229, pk_un hji]; exact hxl g_228 hfo_227 j (by omega))) (by (try rw [ti_0]) <;> (try rw [ti_1]) <;> omega) ls (lv_sub hl [0, 5, 1, 6, 7, 8, 9, 10] rfl)
                · skip
                  rw [← Int32.toInt_inj, ti_m1] at c_237
                  refine lv_iconst (v := 0) hx hb dX3_layRow_107 (by decide) ?_
                  exact W.zret (v := 0) (ty := .boolean) hx hb hr rfl (fun t ht hW => ⟨⟨0, f_231, rfl, ⟨hG, (by decide), hfr0, (fun _ _ _ _ => Or.inl (by decide))⟩, by rw [ht]; exact hP, va_K.moved hW.alike hK, pl_in hD⟩, hS.F ht⟩) hS.2.2 dX3_layRow_108
              · skip
                rw [Int32.le_iff_toInt_le, ti_0] at c_206
                exfalso
                omega
  exact hloop_41 10 0 (by decide) 0 (by decide) 0 (by decide) f hG _ _ hP hS hD hfr0 hfo_1 (by (try rw [ti_0]) <;> omega) (fun g9 _ j hj => by exfalso; have h3 : ((0 : Int32)).toInt = 0 := rfl; omega) (by (try rw [ti_0]) <;> omega) ls hl
set_option maxHeartbeats 8000000 in
set_option maxRecDepth 100000 in
theorem s_X3_layRow_k3_a507 (l : Launch) (D : va_G) (cI cL cZ cR cG cH : ClassId) (Z : zT) (kd : Nat → Nat) (L : List Nat) (f : Nat → va_E) (hG : GI (okc cI cL cZ cR cG cH L kd) kd L f) (o0 : Nat) (mo0 : o0 ∈ L) (ko0 : kd o0 = 3) (o1 : Nat) (mo1 : o1 ∈ L) (ko1 : kd o1 = 507) (p2 : Int32) (bp2 : ((-1) ≤ p2.toInt ∧ p2.toInt ≤ 1)) (p3 : Int32) (bp3 : (0 ≤ p3.toInt ∧ p3.toInt ≤ 8)) (p4 : Int32) (bp4 : (0 ≤ p4.toInt ∧ p4.toInt ≤ 9)) (hxrel : (p2.toInt = 0 ∧ p4.toInt ≤ 8) ∨ (p2.toInt = 1 ∧ p4.toInt ≤ 8 ∧ p3.toInt < p4.toInt) ∨ (p2.toInt = -1 ∧ p4.toInt ≤ 8 ∧ p3.toInt < p4.toInt)) : mPI l D cI cL cZ cR cG cH Z yX3_layRow cX3_layRow 11 (some .boolean) 1 22 [.ref o0, .ref o1, .int p2, .int p3, .int p4] L f (fun (r : Int32) (f9 : Nat → va_E) => GI (okc cI cL cZ cR cG cH L kd) kd L f9 ∧ (0 ≤ r.toInt ∧ r.toInt ≤ 1) ∧ (∀ b, kd b ≠ 525 → f9 b = f b) ∧ (∀ b9 g9, fldR (f9 o0) 12 = some b9 → f9 b9 = .inl (cI, 9, .inl g9) → r.toInt = 0 ∨ ∀ j : Nat, (j : Int) < p4.toInt → 0 ≤ (g9 j).toInt)) := by
  obtain ⟨dC, dI⟩ := D
  refine Met.ofW (cc := cX3_layRow) (maxL := 11) (ret := (some .boolean)) (by decide) rfl ?_
  intro p e s m args below meth c s₁ B hml hv
  obtain ⟨rfl, hP, hK, hD0, hN, hZ⟩ := hv
  have hx := B.exec
  have hb := B.bytes
  have hr := B.returns
  have hU : ∀ w ∈ wsU, w.before _ s = true := fun w h => atoms_spec (ws := wU yX3_layRow cX3_layRow 11 (some .boolean)) B.pre w (List.mem_cons_of_mem _ h)
  have hown : s.vm.findClass RX3 = some m.cls := findClass_of_methodNamed B.named
  have hlocks := B.notSynchronized
  have hD := pl_in hD0
  have hS : va_S (fun q => q ∈ L) s.heap s.heap [] := va_S.rf
  have hl := lv_entry ([.ref o0, .ref o1, .int p2, .int p3, .int p4]) (n := 11) (Nat.le_of_ble_eq_true rfl)
  rw [lg_entry_eq]
  generalize (lg_sl ([.ref o0, .ref o1, .int p2, .int p3, .int p4]) ++ List.replicate (11 - (lg_sl ([.ref o0, .ref o1, .int p2, .int p3, .int p4])).length) Slot.unset).toArray = ls at hl ⊢
  have hl : lv_has ls 11 [(0, .ref o0), (1, .ref o1), (2, .int p2), (3, .int p3), (4, .int p4)] := hl
  have hfr0 : ∀ b, kd b ≠ 525 → f b = f b := fun _ _ => rfl
  obtain ⟨a_2, a_3, a_4, a_5, a_6, v_7, v_8, v_9, v_10, v_11, v_12, v_13, a_14, a_15, a_16, v_17, a_18, a_19, hfo_1, ⟨ma_2, ka_2⟩, ⟨ma_3, ka_3⟩, ⟨ma_4, ka_4⟩, ⟨ma_5, ka_5⟩, ⟨ma_6, ka_6⟩, bv_7, bv_8, bv_9, ⟨ma_14, ka_14⟩, ⟨ma_15, ka_15⟩, ⟨ma_16, ka_16⟩, bv_17, ⟨ma_18, ka_18⟩, ⟨ma_19, ka_19⟩⟩ := un_3 (hG _ mo0) ko0
  have bv_10 : ((-2147483648) ≤ v_10.toInt ∧ v_10.toInt ≤ 2147483647) := ⟨i32_lo _, i32_hi _⟩
  have bv_11 : ((-2147483648) ≤ v_11.toInt ∧ v_11.toInt ≤ 2147483647) := ⟨i32_lo _, i32_hi _⟩
  have bv_12 : ((-2147483648) ≤ v_12.toInt ∧ v_12.toInt ≤ 2147483647) := ⟨i32_lo _, i32_hi _⟩
  have bv_13 : ((-2147483648) ≤ v_13.toInt ∧ v_13.toInt ≤ 2147483647) := ⟨i32_lo _, i32_hi _⟩
  refine lv_iconst (v := 0) hx hb dX3_layRow_0 (by decide) ?_
  refine lv_istore (lv' := [(5, .int 0), (0, .ref o0), (1, .ref o1), (2, .int p2), (3, .int p3), (4, .int p4)]) hx hb dX3_layRow_1 hl (by decide) rfl (fun ls hl => ?_)
  refine lv_iconst (v := 0) hx hb dX3_layRow_3 (by decide) ?_
  refine lv_istore (lv' := [(6, .int 0), (5, .int 0), (0, .ref o0), (1, .ref o1), (2, .int p2), (3, .int p3), (4, .int p4)]) hx hb dX3_layRow_4 hl (by decide) rfl (fun ls hl => ?_)
  refine lv_iconst (v := 0) hx hb dX3_layRow_6 (by decide) ?_
  refine lv_istore (lv' := [(7, .int 0), (6, .int 0), (5, .int 0), (0, .ref o0), (1, .ref o1), (2, .int p2), (3, .int p3), (4, .int p4)]) hx hb dX3_layRow_7 hl (by decide) rfl (fun ls hl => ?_)
  have hloop_41 : ∀ (n : Nat), ∀ (y_42 : Int32), (0 ≤ y_42.toInt ∧ y_42.toInt ≤ 9) → ∀ (y_43 : Int32), (0 ≤ y_43.toInt ∧ y_43.toInt ≤ 9) → ∀ (y_44 : Int32), (0 ≤ y_44.toInt ∧ y_44.toInt ≤ 9) → ∀ (f_46 : Nat → va_E), GI (okc cI cL cZ cR cG cH L kd) kd L f_46 → ∀ (H : Heap) (locs : List Loc), va_P (dC, dI) vwCl (va_pl L f_46) H → va_S (fun q => q ∈ L) s.heap H locs → va_D (fun q => q ∈ L) (va_pl L f_46) → (∀ b, kd b ≠ 525 → f_46 b = f b) → (f_46 o0 = .inr (3, [.ref a_2, .ref a_3, .ref a_4, .ref a_5, .ref a_6, .int v_7, .int v_8, .int v_9, .int v_10, .int v_11, .int v_12, .int v_13, .ref a_14, .ref a_15, .ref a_16, .int v_17, .ref a_18, .ref a_19])) → ((p2.toInt = 0 ∧ y_44.toInt = y_42.toInt ∧ y_43.toInt = y_42.toInt) ∨ (p2.toInt = 1 ∧ y_44.toInt = y_42.toInt ∧ ((y_42.toInt ≤ p3.toInt ∧ y_43.toInt = y_42.toInt) ∨ (p3.toInt < y_42.toInt ∧ y_43.toInt = y_42.toInt - 1))) ∨ (p2.toInt = -1 ∧ y_43.toInt = y_42.toInt ∧ ((y_42.toInt ≤ p3.toInt ∧ y_44.toInt = y_42.toInt) ∨ (p3.toInt < y_42.toInt ∧ y_44.toInt = y_42.toInt - 1)))) → (∀ g9, f_46 a_14 = .inl (cI, 9, .inl g9) → ∀ j : Nat, (j : Int) < y_42.toInt → 0 ≤ (g9 j).toInt) → 9 - y_42.toInt < (n : Int) → ∀ (ls : Array Slot), lv_has ls 11 [(7, .int y_42), (6, .int y_43), (5, .int y_44), (0, .ref o0), (1, .ref o1), (2, .int p2), (3, .int p3), (4, .int p4)] → W p l e (headSpec (wU yX3_layRow cX3_layRow 11 (some .boolean)) { frames := 1, cells := 0, slots := 0, locals := 22 }).room s m [.ref o0, .ref o1, .int p2, .int p3, .int p4].toArray below meth c H locs 0 0 (MQ below (va_Qi (fun (r : Int32) (f9 : Nat → va_E) => GI (okc cI cL cZ cR cG cH L kd) kd L f9 ∧ (0 ≤ r.toInt ∧ r.toInt ≤ 1) ∧ (∀ b, kd b ≠ 525 → f9 b = f b) ∧ (∀ b9 g9, fldR (f9 o0) 12 = some b9 → f9 b9 = .inl (cI, 9, .inl g9) → r.toInt = 0 ∨ ∀ j : Nat, (j : Int) < p4.toInt → 0 ≤ (g9 j).toInt)) (qP (dC, dI) cI cL cZ cR cG cH L) (fun q => q ∈ L)) [.ref o0, .ref o1, .int p2, .int p3, .int p4].toArray s 0 0 (fun q => q ∈ L)) (F0 m 9 ls []) := by
    intro n
    induction n with
    | zero => intro y_42 by_42 y_43 by_43 y_44 by_44 f_46 hG H locs hP hS hD hfr0 hfo_47 hrelhloop_41_0 hxl hmuhloop_41 ls hl; exfalso; omega
    | succ n ih_hloop_41 =>
      intro y_42 by_42 y_43 by_43 y_44 by_44 f_46 hG H locs hP hS hD hfr0 hfo_47 hrelhloop_41_0 hxl hmuhloop_41 ls hl
      refine lv_iload hx hb dX3_layRow_9 (lv_at hl 0 rfl) ?_
      refine lv_iload hx hb dX3_layRow_11 (lv_at hl 7 rfl) ?_
      refine lv_icmp_ge (tgt := 115) hx hb dX3_layRow_13 (by decide) (fun c_48 => ?_) (fun c_48 => ?_)
      · skip
        rw [Int32.le_iff_toInt_le] at c_48
        refine lv_iconst (v := 1) hx hb dX3_layRow_115 (by decide) ?_
        exact W.zret (v := 1) (ty := .boolean) hx hb hr rfl (fun t ht hW => ⟨⟨1, f_46, rfl, ⟨hG, (by decide), hfr0, (fun b9 g9 h1 h2 => Or.inr (by rw [hfo_47] at h1; obtain rfl := Option.some.inj h1; exact fun j hj => hxl g9 h2 j (by omega)))⟩, by rw [ht]; exact hP, va_K.moved hW.alike hK, pl_in hD⟩, hS.F ht⟩) hS.2.2 dX3_layRow_116
      · skip
        rw [Int32.le_iff_toInt_le] at c_48
        refine lv_iload_n hx hb dX3_layRow_16 rfl (lv_at hl 5 rfl) ?_
        refine lv_if_eq (tgt := 30) hx hb dX3_layRow_17 (by decide) (fun c_49 => ?_) (fun c_49 => ?_)
        · skip
          rw [← Int32.toInt_inj, ti_0] at c_49
          refine lv_iconst (v := 0) hx hb dX3_layRow_30 (by decide) ?_
          refine lv_istore (lv' := [(8, .int 0), (7, .int y_42), (6, .int y_43), (5, .int y_44), (0, .ref o0), (1, .ref o1), (2, .int p2), (3, .int p3), (4, .int p4)]) hx hb dX3_layRow_31 hl (by decide) rfl (fun ls hl => ?_)
          refine lv_iconst (v := 0) hx hb dX3_layRow_33 (by decide) ?_
          refine lv_istore (lv' := [(9, .int 0), (8, .int 0), (7, .int y_42), (6, .int y_43), (5, .int y_44), (0, .ref o0), (1, .ref o1), (2, .int p2), (3, .int p3), (4, .int p4)]) hx hb dX3_layRow_34 hl (by decide) rfl (fun ls hl => ?_)
          refine lv_iconst (v := 0) hx hb dX3_layRow_36 (by decide) ?_
          refine lv_istore (lv' := [(10, .int 0), (9, .int 0), (8, .int 0), (7, .int y_42), (6, .int y_43), (5, .int y_44), (0, .ref o0), (1, .ref o1), (2, .int p2), (3, .int p3), (4, .int p4)]) hx hb dX3_layRow_37 hl (by decide) rfl (fun ls hl => ?_)
          refine lv_iload hx hb dX3_layRow_39 (lv_at hl 2 rfl) ?_
          refine lv_if_eq (tgt := 48) hx hb dX3_layRow_41 (by decide) (fun _ => ?_) (fun c9 => absurd (by decide) c9)
          refine lv_aload_n hx hb dX3_layRow_48 rfl (lv_at hl 7 rfl) ?_
          refine lv_iload hx hb dX3_layRow_49 (lv_at hl 5 rfl) ?_
          obtain ⟨g_51, hfo_50, hbg_51⟩ := un_507 (hG _ mo1) ko1
          refine tk_ildP hx hb hK hP 0 mo1 hfo_50 rfl (vp_in_iff.mpr (by constructor <;> omega)) dX3_layRow_51 ?_
          refine lv_topi (fun x_52 ex_52 => ?_)
          have bx_52 : (0 ≤ x_52.toInt ∧ x_52.toInt ≤ 8) := by rw [ex_52]; exact hbg_51 _
          refine lv_istore (lv' := [(9, .int x_52), (10, .int 0), (8, .int 0), (7, .int y_42), (6, .int y_43), (5, .int y_44), (0, .ref o0), (1, .ref o1), (2, .int p2), (3, .int p3), (4, .int p4)]) hx hb dX3_layRow_52 hl (by decide) rfl (fun ls hl => ?_)
          obtain ⟨x_53, ex_53⟩ : ∃ y : Int32, y_44 + 1 = y := ⟨_, rfl⟩
          have hx_53 : x_53.toInt = y_44.toInt + 1 := by rw [← ex_53, ad_I (by rw [ti_1]; omega) (by rw [ti_1]; omega), ti_1]
          have bx_53 : (1 ≤ x_53.toInt ∧ x_53.toInt ≤ 10) := by constructor <;> omega
          refine lv_iinc (v := x_53) (lv' := [(5, .int x_53), (9, .int x_52), (10, .int 0), (8, .int 0), (7, .int y_42), (6, .int y_43), (0, .ref o0), (1, .ref o1), (2, .int p2), (3, .int p3), (4, .int p4)]) hx hb dX3_layRow_54 hl (k := 5) rfl ex_53 (by decide) rfl (fun ls hl => ?_)
          refine lv_iload hx hb dX3_layRow_57 (lv_at hl 3 rfl) ?_
          refine lv_if_eq (tgt := 66) hx hb dX3_layRow_59 (by decide) (fun _ => ?_) (fun c9 => absurd (by decide) c9)
          refine lv_aload_n hx hb dX3_layRow_66 rfl (lv_at hl 6 rfl) ?_
          refine tk_getP (D := (dC, dI)) (ci := 3) (v := .ref a_6) (C := RX3) (T := TX3) (N := 18) hx hb hU inlX3 hown hK hP mo0 hfo_47 rfl 4 (by decide) (hU _ wd_61) (fun _ h9 => h9) rfl dX3_layRow_67 ?_
          refine lv_iload hx hb dX3_layRow_70 (lv_at hl 5 rfl) ?_
          obtain ⟨g_55, hfo_54, hbg_55⟩ := un_507 (hG _ ma_6) ka_6
          refine tk_ildP hx hb hK hP 0 ma_6 hfo_54 rfl (vp_in_iff.mpr (by constructor <;> omega)) dX3_layRow_72 ?_
          refine lv_topi (fun x_56 ex_56 => ?_)
          have bx_56 : (0 ≤ x_56.toInt ∧ x_56.toInt ≤ 8) := by rw [ex_56]; exact hbg_55 _
          refine lv_istore (lv' := [(10, .int x_56), (5, .int x_53), (9, .int x_52), (8, .int 0), (7, .int y_42), (6, .int y_43), (0, .ref o0), (1, .ref o1), (2, .int p2), (3, .int p3), (4, .int p4)]) hx hb dX3_layRow_73 hl (by decide) rfl (fun ls hl => ?_)
          obtain ⟨x_57, ex_57⟩ : ∃ y : Int32, y_43 + 1 = y := ⟨_, rfl⟩
          have hx_57 : x_57.toInt = y_43.toInt + 1 := by rw [← ex_57, ad_I (by rw [ti_1]; omega) (by rw [ti_1]; omega), ti_1]
          have bx_57 : (1 ≤ x_57.toInt ∧ x_57.toInt ≤ 10) := by constructor <;> omega
          refine lv_iinc (v := x_57) (lv' := [(6, .int x_57), (10, .int x_56), (5, .int x_53), (9, .int x_52), (8, .int 0), (7, .int y_42), (0, .ref o0), (1, .ref o1), (2, .int p2), (3, .int p3), (4, .int p4)]) hx hb dX3_layRow_75 hl (k := 5) rfl ex_57 (by decide) rfl (fun ls hl => ?_)
          refine lv_aload_n hx hb dX3_layRow_78 rfl (lv_at hl 6 rfl) ?_
          refine tk_getP (D := (dC, dI)) (ci := 3) (v := .ref a_14) (C := RX3) (T := TX3) (N := 18) hx hb hU inlX3 hown hK hP mo0 hfo_47 rfl 12 (by decide) (hU _ wd_63) (fun _ h9 => h9) rfl dX3_layRow_79 ?_
          refine lv_iload hx hb dX3_layRow_82 (lv_at hl 5 rfl) ?_
          refine lv_aload_n hx hb dX3_layRow_84 rfl (lv_at hl 6 rfl) ?_
          refine tk_getP (D := (dC, dI)) (ci := 3) (v := .ref a_2) (C := RX3) (T := TX3) (N := 18) hx hb hU inlX3 hown hK hP mo0 hfo_47 rfl 0 (by decide) (hU _ wd_48) (fun _ h9 => h9) rfl dX3_layRow_85 ?_
          refine lv_iload hx hb dX3_layRow_88 (lv_at hl 3 rfl) ?_
          refine lv_iload hx hb dX3_layRow_90 (lv_at hl 1 rfl) ?_
          obtain ⟨a_59, v_60, a_61, a_62, a_63, a_64, v_65, a_66, a_67, a_68, a_69, a_70, v_71, a_72, a_73, a_74, hfo_58, ⟨ma_59, ka_59⟩, bv_60, ⟨ma_61, ka_61⟩, ⟨ma_62, ka_62⟩, ⟨ma_63, ka_63⟩, ⟨ma_64, ka_64⟩, bv_65, ⟨ma_66, ka_66⟩, ⟨ma_67, ka_67⟩, ⟨ma_68, ka_68⟩, ⟨ma_69, ka_69⟩, ⟨ma_70, ka_70⟩, bv_71, ⟨ma_72, ka_72⟩, ⟨ma_73, ka_73⟩, ⟨ma_74, ka_74⟩⟩ := un_7 (hG _ ma_2) ka_2
          refine tk_ViP (As := [.int x_52, .int x_56]) (rest := [.int y_42, .ref a_14]) (n := 2) hx hb hml hown hU hN hZ (s_X7_pairOf_k7 l (dC, dI) cI cL cZ cR cG cH Z kd L f_46 hG a_2 ma_2 ka_2 x_52 x_56) wd_1029 wd_393 wd_394 wd_28 wd_395 (by decide +kernel) ⟨Nat.le_of_ble_eq_true rfl, Nat.le_of_ble_eq_true rfl⟩ hK hP hD hS ma_2 hfo_58 7 rfl rfl rfl hl.1 rfl (Nat.le_of_ble_eq_true rfl) dX3_layRow_92 ⟨Nat.le_of_ble_eq_true rfl, Nat.le_of_ble_eq_true rfl⟩ (fun x_75 f_76 H locs hw hP hD hS => ?_)
          obtain ⟨rfl, bx_75⟩ := hw
          obtain ⟨g_79, hfo_78, hbg_79⟩ := un_525 (hG _ ma_14) ka_14
          refine tk_istP hx hb hK hP hD hS 0 ma_14 hfo_78 rfl (vp_in_iff.mpr (by constructor <;> omega)) dX3_layRow_95 (fun H locs hP hD hS => ?_)
          obtain ⟨g_80, eqg_80⟩ : ∃ y : Nat → Int32, y = upd g_79 (Int32.toNatClampNeg y_42) x_75 := ⟨_, rfl⟩
          rw [← eqg_80] at hP hD
          have hbg_80 : ∀ j, (-1) ≤ (g_80 j).toInt ∧ (g_80 j).toInt ≤ 19 := by rw [eqg_80]; exact okI_up hbg_79 (by constructor <;> omega) _
          obtain ⟨f_82, ef_82⟩ : ∃ y : Nat → va_E, y = va_up f_46 a_14 (.inl (cI, 9, .inl g_80)) := ⟨_, rfl⟩
          have hP : va_P (dC, dI) vwCl (va_pl L f_82) H := by rw [ef_82]; exact hP
          have hD : va_D (fun q => q ∈ L) (va_pl L f_82) := by rw [ef_82]; exact hD
          have hG : GI (okc cI cL cZ cR cG cH L kd) kd L f_82 := by rw [ef_82]; exact hG.set a_14 (mk_525 ka_14 ⟨_, rfl, hbg_80⟩)
          have hfo_83 : f_82 o0 = .inr (3, [.ref a_2, .ref a_3, .ref a_4, .ref a_5, .ref a_6, .int v_7, .int v_8, .int v_9, .int v_10, .int v_11, .int v_12, .int v_13, .ref a_14, .ref a_15, .ref a_16, .int v_17, .ref a_18, .ref a_19]) := by rw [ef_82, up_ne (kd_ne ka_14 ko0 (by decide))]; exact hfo_47
          have hfo_84 : f_82 o1 = .inl (cI, 8, .inl g_51) := by rw [ef_82, up_ne (kd_ne ka_14 ko1 (by decide))]; exact hfo_50
          have hfo_85 : f_82 a_6 = .inl (cI, 8, .inl g_55) := by rw [ef_82, up_ne (kd_ne ka_14 ka_6 (by decide))]; exact hfo_54
          have hfo_86 : f_82 a_2 = .inr (7, [.ref a_59, .int v_60, .ref a_61, .ref a_62, .ref a_63, .ref a_64, .int v_65, .ref a_66, .ref a_67, .ref a_68, .ref a_69, .ref a_70, .int v_71, .ref a_72, .ref a_73, .ref a_74]) := by rw [ef_82, up_ne (kd_ne ka_14 ka_2 (by decide))]; exact hfo_58
          have hfr0 : ∀ b, kd b ≠ 525 → f_82 b = f b := fun b q525 => (congrFun ef_82 b).trans ((up_ne (fun e9 => q525 (by rw [e9]; exact ka_14))).trans (hfr0 b q525))
          have hfo_87 : f_82 a_14 = .inl (cI, 9, .inl g_80) := by rw [ef_82]; exact up_self
          refine lv_aload_n hx hb dX3_layRow_96 rfl (lv_at hl 6 rfl) ?_
          refine tk_getP (D := (dC, dI)) (ci := 3) (v := .ref a_14) (C := RX3) (T := TX3) (N := 18) hx hb hU inlX3 hown hK hP mo0 hfo_83 rfl 12 (by decide) (hU _ wd_63) (fun _ h9 => h9) rfl dX3_layRow_97 ?_
          refine lv_iload hx hb dX3_layRow_100 (lv_at hl 5 rfl) ?_
          have ez_88 : x_75 = g_80 (Int32.toNatClampNeg y_42) := by rw [eqg_80, pk_us]
          have ex_75 := ez_88
          refine tk_ildP hx hb hK hP 0 ma_14 hfo_87 rfl (vp_in_iff.mpr (by constructor <;> omega)) dX3_layRow_102 ?_
          refine tk_topi (y := x_75) ex_75.symm ?_
          refine lv_iconst (v := (-1)) hx hb dX3_layRow_103 (by decide) ?_
          refine lv_icmp_ne (tgt := 109) hx hb dX3_layRow_104 (by decide) (fun c_89 => ?_) (fun c_89 => ?_)
          · skip
            rw [← Int32.toInt_inj, ti_m1] at c_89
            obtain ⟨x_90, ex_90⟩ : ∃ y : Int32, y_42 + 1 = y := ⟨_, rfl⟩
            have hx_90 : x_90.toInt = y_42.toInt + 1 := by rw [← ex_90, ad_I (by rw [ti_1]; omega) (by rw [ti_1]; omega), ti_1]
            have bx_90 : (1 ≤ x_90.toInt ∧ x_90.toInt ≤ 9) := by constructor <;> omega
            refine lv_iinc (v := x_90) (lv' := [(7, .int x_90), (6, .int x_57), (10, .int x_56), (5, .int x_53), (9, .int x_52), (8, .int 0), (0, .ref o0), (1, .ref o1), (2, .int p2), (3, .int p3), (4, .int p4)]) hx hb dX3_layRow_109 hl (k := 5) rfl ex_90 (by decide) rfl (fun ls hl => ?_)
            refine lv_goto (tgt := 9) hx hb dX3_layRow_112 (by decide) ?_
            exact ih_hloop_41 x_90 (by constructor <;> omega) x_57 (by constructor <;> omega) x_53 (by constructor <;> omega) f_82 hG _ _ hP hS hD hfr0 hfo_83 (by (try rw [ti_0]) <;> omega) (fun g9 h9 j hj => by rw [hfo_87] at h9; cases h9; have hc9 := cl_I (i := y_42) (by omega); by_cases hji : j = Int32.toNatClampNeg y_42; (· rw [eqg_80, hji, pk_us]; omega); (· rw [eqg_80, pk_un hji]; exact hxl g_79 hfo_78 j (by omega))) (by (try rw [ti_0]) <;> omega) ls (lv_sub hl [0, 1, 3, 6, 7, 8, 9, 10] rfl)
          · skip
            rw [← Int32.toInt_inj, ti_m1] at c_89
            refine lv_iconst (v := 0) hx hb dX3_layRow_107 (by decide) ?_
            exact W.zret (v := 0) (ty := .boolean) hx hb hr rfl (fun t ht hW => ⟨⟨0, f_82, rfl, ⟨hG, (by decide), hfr0, (fun _ _ _ _ => Or.inl (by decide))⟩, by rw [ht]; exact hP, va_K.moved hW.alike hK, pl_in hD⟩, hS.F ht⟩) hS.2.2 dX3_layRow_108
        · skip
          rw [← Int32.toInt_inj, ti_0] at c_49
          refine lv_iload hx hb dX3_layRow_20 (lv_at hl 0 rfl) ?_
          refine lv_iload_n hx hb dX3_layRow_22 rfl (lv_at hl 6 rfl) ?_
          refine lv_icmp_ne (tgt := 30) hx hb dX3_layRow_23 (by decide) (fun c_91 => ?_) (fun c_91 => ?_)
          · skip
            rw [← Int32.toInt_inj] at c_91
            refine lv_iconst (v := 0) hx hb dX3_layRow_30 (by decide) ?_
            refine lv_istore (lv' := [(8, .int 0), (7, .int y_42), (6, .int y_43), (5, .int y_44), (0, .ref o0), (1, .ref o1), (2, .int p2), (3, .int p3), (4, .int p4)]) hx hb dX3_layRow_31 hl (by decide) rfl (fun ls hl => ?_)
            refine lv_iconst (v := 0) hx hb dX3_layRow_33 (by decide) ?_
            refine lv_istore (lv' := [(9, .int 0), (8, .int 0), (7, .int y_42), (6, .int y_43), (5, .int y_44), (0, .ref o0), (1, .ref o1), (2, .int p2), (3, .int p3), (4, .int p4)]) hx hb dX3_layRow_34 hl (by decide) rfl (fun ls hl => ?_)
            refine lv_iconst (v := 0) hx hb dX3_layRow_36 (by decide) ?_
            refine lv_istore (lv' := [(10, .int 0), (9, .int 0), (8, .int 0), (7, .int y_42), (6, .int y_43), (5, .int y_44), (0, .ref o0), (1, .ref o1), (2, .int p2), (3, .int p3), (4, .int p4)]) hx hb dX3_layRow_37 hl (by decide) rfl (fun ls hl => ?_)
            refine lv_iload hx hb dX3_layRow_39 (lv_at hl 2 rfl) ?_
            refine lv_if_eq (tgt := 48) hx hb dX3_layRow_41 (by decide) (fun _ => ?_) (fun c9 => absurd (by decide) c9)
            refine lv_aload_n hx hb dX3_layRow_48 rfl (lv_at hl 7 rfl) ?_
            refine lv_iload hx hb dX3_layRow_49 (lv_at hl 5 rfl) ?_
            obtain ⟨g_93, hfo_92, hbg_93⟩ := un_507 (hG _ mo1) ko1
            refine tk_ildP hx hb hK hP 0 mo1 hfo_92 rfl (vp_in_iff.mpr (by constructor <;> omega)) dX3_layRow_51 ?_
            refine lv_topi (fun x_94 ex_94 => ?_)
            have bx_94 : (0 ≤ x_94.toInt ∧ x_94.toInt ≤ 8) := by rw [ex_94]; exact hbg_93 _
            refine lv_istore (lv' := [(9, .int x_94), (10, .int 0), (8, .int 0), (7, .int y_42), (6, .int y_43), (5, .int y_44), (0, .ref o0), (1, .ref o1), (2, .int p2), (3, .int p3), (4, .int p4)]) hx hb dX3_layRow_52 hl (by decide) rfl (fun ls hl => ?_)
            obtain ⟨x_95, ex_95⟩ : ∃ y : Int32, y_44 + 1 = y := ⟨_, rfl⟩
            have hx_95 : x_95.toInt = y_44.toInt + 1 := by rw [← ex_95, ad_I (by rw [ti_1]; omega) (by rw [ti_1]; omega), ti_1]
            have bx_95 : (1 ≤ x_95.toInt ∧ x_95.toInt ≤ 10) := by constructor <;> omega
            refine lv_iinc (v := x_95) (lv' := [(5, .int x_95), (9, .int x_94), (10, .int 0), (8, .int 0), (7, .int y_42), (6, .int y_43), (0, .ref o0), (1, .ref o1), (2, .int p2), (3, .int p3), (4, .int p4)]) hx hb dX3_layRow_54 hl (k := 5) rfl ex_95 (by decide) rfl (fun ls hl => ?_)
            refine lv_iload hx hb dX3_layRow_57 (lv_at hl 3 rfl) ?_
            refine lv_if_eq (tgt := 66) hx hb dX3_layRow_59 (by decide) (fun _ => ?_) (fun c9 => absurd (by decide) c9)
            refine lv_aload_n hx hb dX3_layRow_66 rfl (lv_at hl 6 rfl) ?_
            refine tk_getP (D := (dC, dI)) (ci := 3) (v := .ref a_6) (C := RX3) (T := TX3) (N := 18) hx hb hU inlX3 hown hK hP mo0 hfo_47 rfl 4 (by decide) (hU _ wd_61) (fun _ h9 => h9) rfl dX3_layRow_67 ?_
            refine lv_iload hx hb dX3_layRow_70 (lv_at hl 5 rfl) ?_
            obtain ⟨g_97, hfo_96, hbg_97⟩ := un_507 (hG _ ma_6) ka_6
            refine tk_ildP hx hb hK hP 0 ma_6 hfo_96 rfl (vp_in_iff.mpr (by constructor <;> omega)) dX3_layRow_72 ?_
            refine lv_topi (fun x_98 ex_98 => ?_)
            have bx_98 : (0 ≤ x_98.toInt ∧ x_98.toInt ≤ 8) := by rw [ex_98]; exact hbg_97 _
            refine lv_istore (lv' := [(10, .int x_98), (5, .int x_95), (9, .int x_94), (8, .int 0), (7, .int y_42), (6, .int y_43), (0, .ref o0), (1, .ref o1), (2, .int p2), (3, .int p3), (4, .int p4)]) hx hb dX3_layRow_73 hl (by decide) rfl (fun ls hl => ?_)
            obtain ⟨x_99, ex_99⟩ : ∃ y : Int32, y_43 + 1 = y := ⟨_, rfl⟩
            have hx_99 : x_99.toInt = y_43.toInt + 1 := by rw [← ex_99, ad_I (by rw [ti_1]; omega) (by rw [ti_1]; omega), ti_1]
            have bx_99 : (1 ≤ x_99.toInt ∧ x_99.toInt ≤ 10) := by constructor <;> omega
            refine lv_iinc (v := x_99) (lv' := [(6, .int x_99), (10, .int x_98), (5, .int x_95), (9, .int x_94), (8, .int 0), (7, .int y_42), (0, .ref o0), (1, .ref o1), (2, .int p2), (3, .int p3), (4, .int p4)]) hx hb dX3_layRow_75 hl (k := 5) rfl ex_99 (by decide) rfl (fun ls hl => ?_)
            refine lv_aload_n hx hb dX3_layRow_78 rfl (lv_at hl 6 rfl) ?_
            refine tk_getP (D := (dC, dI)) (ci := 3) (v := .ref a_14) (C := RX3) (T := TX3) (N := 18) hx hb hU inlX3 hown hK hP mo0 hfo_47 rfl 12 (by decide) (hU _ wd_63) (fun _ h9 => h9) rfl dX3_layRow_79 ?_
            refine lv_iload hx hb dX3_layRow_82 (lv_at hl 5 rfl) ?_
            refine lv_aload_n hx hb dX3_layRow_84 rfl (lv_at hl 6 rfl) ?_
            refine tk_getP (D := (dC, dI)) (ci := 3) (v := .ref a_2) (C := RX3) (T := TX3) (N := 18) hx hb hU inlX3 hown hK hP mo0 hfo_47 rfl 0 (by decide) (hU _ wd_48) (fun _ h9 => h9) rfl dX3_layRow_85 ?_
            refine lv_iload hx hb dX3_layRow_88 (lv_at hl 3 rfl) ?_
            refine lv_iload hx hb dX3_layRow_90 (lv_at hl 1 rfl) ?_
            obtain ⟨a_101, v_102, a_103, a_104, a_105, a_106, v_107, a_108, a_109, a_110, a_111, a_112, v_113, a_114, a_115, a_116, hfo_100, ⟨ma_101, ka_101⟩, bv_102, ⟨ma_103, ka_103⟩, ⟨ma_104, ka_104⟩, ⟨ma_105, ka_105⟩, ⟨ma_106, ka_106⟩, bv_107, ⟨ma_108, ka_108⟩, ⟨ma_109, ka_109⟩, ⟨ma_110, ka_110⟩, ⟨ma_111, ka_111⟩, ⟨ma_112, ka_112⟩, bv_113, ⟨ma_114, ka_114⟩, ⟨ma_115, ka_115⟩, ⟨ma_116, ka_116⟩⟩ := un_7 (hG _ ma_2) ka_2
            refine tk_ViP (As := [.int x_94, .int x_98]) (rest := [.int y_42, .ref a_14]) (n := 2) hx hb hml hown hU hN hZ (s_X7_pairOf_k7 l (dC, dI) cI cL cZ cR cG cH Z kd L f_46 hG a_2 ma_2 ka_2 x_94 x_98) wd_1029 wd_393 wd_394 wd_28 wd_395 (by decide +kernel) ⟨Nat.le_of_ble_eq_true rfl, Nat.le_of_ble_eq_true rfl⟩ hK hP hD hS ma_2 hfo_100 7 rfl rfl rfl hl.1 rfl (Nat.le_of_ble_eq_true rfl) dX3_layRow_92 ⟨Nat.le_of_ble_eq_true rfl, Nat.le_of_ble_eq_true rfl⟩ (fun x_117 f_118 H locs hw hP hD hS => ?_)
            obtain ⟨rfl, bx_117⟩ := hw
            obtain ⟨g_121, hfo_120, hbg_121⟩ := un_525 (hG _ ma_14) ka_14
            refine tk_istP hx hb hK hP hD hS 0 ma_14 hfo_120 rfl (vp_in_iff.mpr (by constructor <;> omega)) dX3_layRow_95 (fun H locs hP hD hS => ?_)
            obtain ⟨g_122, eqg_122⟩ : ∃ y : Nat → Int32, y = upd g_121 (Int32.toNatClampNeg y_42) x_117 := ⟨_, rfl⟩
            rw [← eqg_122] at hP hD
            have hbg_122 : ∀ j, (-1) ≤ (g_122 j).toInt ∧ (g_122 j).toInt ≤ 19 := by rw [eqg_122]; exact okI_up hbg_121 (by constructor <;> omega) _
            obtain ⟨f_124, ef_124⟩ : ∃ y : Nat → va_E, y = va_up f_46 a_14 (.inl (cI, 9, .inl g_122)) := ⟨_, rfl⟩
            have hP : va_P (dC, dI) vwCl (va_pl L f_124) H := by rw [ef_124]; exact hP
            have hD : va_D (fun q => q ∈ L) (va_pl L f_124) := by rw [ef_124]; exact hD
            have hG : GI (okc cI cL cZ cR cG cH L kd) kd L f_124 := by rw [ef_124]; exact hG.set a_14 (mk_525 ka_14 ⟨_, rfl, hbg_122⟩)
            have hfo_125 : f_124 o0 = .inr (3, [.ref a_2, .ref a_3, .ref a_4, .ref a_5, .ref a_6, .int v_7, .int v_8, .int v_9, .int v_10, .int v_11, .int v_12, .int v_13, .ref a_14, .ref a_15, .ref a_16, .int v_17, .ref a_18, .ref a_19]) := by rw [ef_124, up_ne (kd_ne ka_14 ko0 (by decide))]; exact hfo_47
            have hfo_126 : f_124 o1 = .inl (cI, 8, .inl g_93) := by rw [ef_124, up_ne (kd_ne ka_14 ko1 (by decide))]; exact hfo_92
            have hfo_127 : f_124 a_6 = .inl (cI, 8, .inl g_97) := by rw [ef_124, up_ne (kd_ne ka_14 ka_6 (by decide))]; exact hfo_96
            have hfo_128 : f_124 a_2 = .inr (7, [.ref a_101, .int v_102, .ref a_103, .ref a_104, .ref a_105, .ref a_106, .int v_107, .ref a_108, .ref a_109, .ref a_110, .ref a_111, .ref a_112, .int v_113, .ref a_114, .ref a_115, .ref a_116]) := by rw [ef_124, up_ne (kd_ne ka_14 ka_2 (by decide))]; exact hfo_100
            have hfr0 : ∀ b, kd b ≠ 525 → f_124 b = f b := fun b q525 => (congrFun ef_124 b).trans ((up_ne (fun e9 => q525 (by rw [e9]; exact ka_14))).trans (hfr0 b q525))
            have hfo_129 : f_124 a_14 = .inl (cI, 9, .inl g_122) := by rw [ef_124]; exact up_self
            refine lv_aload_n hx hb dX3_layRow_96 rfl (lv_at hl 6 rfl) ?_
            refine tk_getP (D := (dC, dI)) (ci := 3) (v := .ref a_14) (C := RX3) (T := TX3) (N := 18) hx hb hU inlX3 hown hK hP mo0 hfo_125 rfl 12 (by decide) (hU _ wd_63) (fun _ h9 => h9) rfl dX3_layRow_97 ?_
            refine lv_iload hx hb dX3_layRow_100 (lv_at hl 5 rfl) ?_
            have ez_130 : x_117 = g_122 (Int32.toNatClampNeg y_42) := by rw [eqg_122, pk_us]
            have ex_117 := ez_130
            refine tk_ildP hx hb hK hP 0 ma_14 hfo_129 rfl (vp_in_iff.mpr (by constructor <;> omega)) dX3_layRow_102 ?_
            refine tk_topi (y := x_117) ex_117.symm ?_
            refine lv_iconst (v := (-1)) hx hb dX3_layRow_103 (by decide) ?_
            refine lv_icmp_ne (tgt := 109) hx hb dX3_layRow_104 (by decide) (fun c_131 => ?_) (fun c_131 => ?_)
            · skip
              rw [← Int32.toInt_inj, ti_m1] at c_131
              obtain ⟨x_132, ex_132⟩ : ∃ y : Int32, y_42 + 1 = y := ⟨_, rfl⟩
              have hx_132 : x_132.toInt = y_42.toInt + 1 := by rw [← ex_132, ad_I (by rw [ti_1]; omega) (by rw [ti_1]; omega), ti_1]
              have bx_132 : (1 ≤ x_132.toInt ∧ x_132.toInt ≤ 9) := by constructor <;> omega
              refine lv_iinc (v := x_132) (lv' := [(7, .int x_132), (6, .int x_99), (10, .int x_98), (5, .int x_95), (9, .int x_94), (8, .int 0), (0, .ref o0), (1, .ref o1), (2, .int p2), (3, .int p3), (4, .int p4)]) hx hb dX3_layRow_109 hl (k := 5) rfl ex_132 (by decide) rfl (fun ls hl => ?_)
              refine lv_goto (tgt := 9) hx hb dX3_layRow_112 (by decide) ?_
              exact ih_hloop_41 x_132 (by constructor <;> omega) x_99 (by constructor <;> omega) x_95 (by constructor <;> omega) f_124 hG _ _ hP hS hD hfr0 hfo_125 (by (try rw [ti_0]) <;> omega) (fun g9 h9 j hj => by rw [hfo_129] at h9; cases h9; have hc9 := cl_I (i := y_42) (by omega); by_cases hji : j = Int32.toNatClampNeg y_42; (· rw [eqg_122, hji, pk_us]; omega); (· rw [eqg_122, pk_un hji]; exact hxl g_121 hfo_120 j (by omega))) (by (try rw [ti_0]) <;> omega) ls (lv_sub hl [0, 1, 3, 6, 7, 8, 9, 10] rfl)
            · skip
              rw [← Int32.toInt_inj, ti_m1] at c_131
              refine lv_iconst (v := 0) hx hb dX3_layRow_107 (by decide) ?_
              exact W.zret (v := 0) (ty := .boolean) hx hb hr rfl (fun t ht hW => ⟨⟨0, f_124, rfl, ⟨hG, (by decide), hfr0, (fun _ _ _ _ => Or.inl (by decide))⟩, by rw [ht]; exact hP, va_K.moved hW.alike hK, pl_in hD⟩, hS.F ht⟩) hS.2.2 dX3_layRow_108
          · skip
            rw [← Int32.toInt_inj] at c_91
            refine lv_iconst (v := 1) hx hb dX3_layRow_26 (by decide) ?_
            refine lv_goto (tgt := 31) hx hb dX3_layRow_27 (by decide) ?_
            refine lv_istore (lv' := [(8, .int 1), (7, .int y_42), (6, .int y_43), (5, .int y_44), (0, .ref o0), (1, .ref o1), (2, .int p2), (3, .int p3), (4, .int p4)]) hx hb dX3_layRow_31 hl (by decide) rfl (fun ls hl => ?_)
            refine lv_iconst (v := 0) hx hb dX3_layRow_33 (by decide) ?_
            refine lv_istore (lv' := [(9, .int 0), (8, .int 1), (7, .int y_42), (6, .int y_43), (5, .int y_44), (0, .ref o0), (1, .ref o1), (2, .int p2), (3, .int p3), (4, .int p4)]) hx hb dX3_layRow_34 hl (by decide) rfl (fun ls hl => ?_)
            refine lv_iconst (v := 0) hx hb dX3_layRow_36 (by decide) ?_
            refine lv_istore (lv' := [(10, .int 0), (9, .int 0), (8, .int 1), (7, .int y_42), (6, .int y_43), (5, .int y_44), (0, .ref o0), (1, .ref o1), (2, .int p2), (3, .int p3), (4, .int p4)]) hx hb dX3_layRow_37 hl (by decide) rfl (fun ls hl => ?_)
            refine lv_iload hx hb dX3_layRow_39 (lv_at hl 2 rfl) ?_
            refine lv_if_eq (tgt := 48) hx hb dX3_layRow_41 (by decide) (fun c9 => absurd c9 (by decide)) (fun _ => ?_)
            refine lv_iload_n hx hb dX3_layRow_44 rfl (lv_at hl 8 rfl) ?_
            refine lv_if_le (tgt := 57) hx hb dX3_layRow_45 (by decide) (fun c_133 => ?_) (fun c_133 => ?_)
            · skip
              rw [Int32.le_iff_toInt_le, ti_0] at c_133
              refine lv_iload hx hb dX3_layRow_57 (lv_at hl 2 rfl) ?_
              refine lv_if_eq (tgt := 66) hx hb dX3_layRow_59 (by decide) (fun c9 => absurd c9 (by decide)) (fun _ => ?_)
              refine lv_iload_n hx hb dX3_layRow_62 rfl (lv_at hl 8 rfl) ?_
              refine lv_if_ge (tgt := 78) hx hb dX3_layRow_63 (by decide) (fun c_134 => ?_) (fun c_134 => ?_)
              · skip
                rw [Int32.le_iff_toInt_le, ti_0] at c_134
                refine lv_aload_n hx hb dX3_layRow_78 rfl (lv_at hl 6 rfl) ?_
                refine tk_getP (D := (dC, dI)) (ci := 3) (v := .ref a_14) (C := RX3) (T := TX3) (N := 18) hx hb hU inlX3 hown hK hP mo0 hfo_47 rfl 12 (by decide) (hU _ wd_63) (fun _ h9 => h9) rfl dX3_layRow_79 ?_
                refine lv_iload hx hb dX3_layRow_82 (lv_at hl 3 rfl) ?_
                refine lv_aload_n hx hb dX3_layRow_84 rfl (lv_at hl 6 rfl) ?_
                refine tk_getP (D := (dC, dI)) (ci := 3) (v := .ref a_2) (C := RX3) (T := TX3) (N := 18) hx hb hU inlX3 hown hK hP mo0 hfo_47 rfl 0 (by decide) (hU _ wd_48) (fun _ h9 => h9) rfl dX3_layRow_85 ?_
                refine lv_iload hx hb dX3_layRow_88 (lv_at hl 1 rfl) ?_
                refine lv_iload hx hb dX3_layRow_90 (lv_at hl 0 rfl) ?_
                obtain ⟨a_136, v_137, a_138, a_139, a_140, a_141, v_142, a_143, a_144, a_145, a_146, a_147, v_148, a_149, a_150, a_151, hfo_135, ⟨ma_136, ka_136⟩, bv_137, ⟨ma_138, ka_138⟩, ⟨ma_139, ka_139⟩, ⟨ma_140, ka_140⟩, ⟨ma_141, ka_141⟩, bv_142, ⟨ma_143, ka_143⟩, ⟨ma_144, ka_144⟩, ⟨ma_145, ka_145⟩, ⟨ma_146, ka_146⟩, ⟨ma_147, ka_147⟩, bv_148, ⟨ma_149, ka_149⟩, ⟨ma_150, ka_150⟩, ⟨ma_151, ka_151⟩⟩ := un_7 (hG _ ma_2) ka_2
                refine tk_ViP (As := [.int 0, .int 0]) (rest := [.int y_42, .ref a_14]) (n := 2) hx hb hml hown hU hN hZ (s_X7_pairOf_k7 l (dC, dI) cI cL cZ cR cG cH Z kd L f_46 hG a_2 ma_2 ka_2 0 0) wd_1029 wd_393 wd_394 wd_28 wd_395 (by decide +kernel) ⟨Nat.le_of_ble_eq_true rfl, Nat.le_of_ble_eq_true rfl⟩ hK hP hD hS ma_2 hfo_135 7 rfl rfl rfl hl.1 rfl (Nat.le_of_ble_eq_true rfl) dX3_layRow_92 ⟨Nat.le_of_ble_eq_true rfl, Nat.le_of_ble_eq_true rfl⟩ (fun x_152 f_153 H locs hw hP hD hS => ?_)
                obtain ⟨rfl, bx_152⟩ := hw
                obtain ⟨g_156, hfo_155, hbg_156⟩ := un_525 (hG _ ma_14) ka_14
                refine tk_istP hx hb hK hP hD hS 0 ma_14 hfo_155 rfl (vp_in_iff.mpr (by constructor <;> omega)) dX3_layRow_95 (fun H locs hP hD hS => ?_)
                obtain ⟨g_157, eqg_157⟩ : ∃ y : Nat → Int32, y = upd g_156 (Int32.toNatClampNeg y_42) x_152 := ⟨_, rfl⟩
                rw [← eqg_157] at hP hD
                have hbg_157 : ∀ j, (-1) ≤ (g_157 j).toInt ∧ (g_157 j).toInt ≤ 19 := by rw [eqg_157]; exact okI_up hbg_156 (by constructor <;> omega) _
                obtain ⟨f_159, ef_159⟩ : ∃ y : Nat → va_E, y = va_up f_46 a_14 (.inl (cI, 9, .inl g_157)) := ⟨_, rfl⟩
                have hP : va_P (dC, dI) vwCl (va_pl L f_159) H := by rw [ef_159]; exact hP
                have hD : va_D (fun q => q ∈ L) (va_pl L f_159) := by rw [ef_159]; exact hD
                have hG : GI (okc cI cL cZ cR cG cH L kd) kd L f_159 := by rw [ef_159]; exact hG.set a_14 (mk_525 ka_14 ⟨_, rfl, hbg_157⟩)
                have hfo_160 : f_159 o0 = .inr (3, [.ref a_2, .ref a_3, .ref a_4, .ref a_5, .ref a_6, .int v_7, .int v_8, .int v_9, .int v_10, .int v_11, .int v_12, .int v_13, .ref a_14, .ref a_15, .ref a_16, .int v_17, .ref a_18, .ref a_19]) := by rw [ef_159, up_ne (kd_ne ka_14 ko0 (by decide))]; exact hfo_47
                have hfo_161 : f_159 a_2 = .inr (7, [.ref a_136, .int v_137, .ref a_138, .ref a_139, .ref a_140, .ref a_141, .int v_142, .ref a_143, .ref a_144, .ref a_145, .ref a_146, .ref a_147, .int v_148, .ref a_149, .ref a_150, .ref a_151]) := by rw [ef_159, up_ne (kd_ne ka_14 ka_2 (by decide))]; exact hfo_135
                have hfr0 : ∀ b, kd b ≠ 525 → f_159 b = f b := fun b q525 => (congrFun ef_159 b).trans ((up_ne (fun e9 => q525 (by rw [e9]; exact ka_14))).trans (hfr0 b q525))
                have hfo_162 : f_159 a_14 = .inl (cI, 9, .inl g_157) := by rw [ef_159]; exact up_self
                refine lv_aload_n hx hb dX3_layRow_96 rfl (lv_at hl 6 rfl) ?_
                refine tk_getP (D := (dC, dI)) (ci := 3) (v := .ref a_14) (C := RX3) (T := TX3) (N := 18) hx hb hU inlX3 hown hK hP mo0 hfo_160 rfl 12 (by decide) (hU _ wd_63) (fun _ h9 => h9) rfl dX3_layRow_97 ?_
                refine lv_iload hx hb dX3_layRow_100 (lv_at hl 3 rfl) ?_
                have ez_163 : x_152 = g_157 (Int32.toNatClampNeg y_42) := by rw [eqg_157, pk_us]
                have ex_152 := ez_163
                refine tk_ildP hx hb hK hP 0 ma_14 hfo_162 rfl (vp_in_iff.mpr (by constructor <;> omega)) dX3_layRow_102 ?_
                refine tk_topi (y := x_152) ex_152.symm ?_
                refine lv_iconst (v := (-1)) hx hb dX3_layRow_103 (by decide) ?_
                refine lv_icmp_ne (tgt := 109) hx hb dX3_layRow_104 (by decide) (fun c_164 => ?_) (fun c_164 => ?_)
                · skip
                  rw [← Int32.toInt_inj, ti_m1] at c_164
                  obtain ⟨x_165, ex_165⟩ : ∃ y : Int32, y_42 + 1 = y := ⟨_, rfl⟩
                  have hx_165 : x_165.toInt = y_42.toInt + 1 := by rw [← ex_165, ad_I (by rw [ti_1]; omega) (by rw [ti_1]; omega), ti_1]
                  have bx_165 : (1 ≤ x_165.toInt ∧ x_165.toInt ≤ 9) := by constructor <;> omega
                  refine lv_iinc (v := x_165) (lv' := [(7, .int x_165), (10, .int 0), (9, .int 0), (8, .int 1), (6, .int y_43), (5, .int y_44), (0, .ref o0), (1, .ref o1), (2, .int p2), (3, .int p3), (4, .int p4)]) hx hb dX3_layRow_109 hl (k := 3) rfl ex_165 (by decide) rfl (fun ls hl => ?_)
                  refine lv_goto (tgt := 9) hx hb dX3_layRow_112 (by decide) ?_
                  exact ih_hloop_41 x_165 (by constructor <;> omega) y_43 (by constructor <;> omega) y_44 (by constructor <;> omega) f_159 hG _ _ hP hS hD hfr0 hfo_160 (by (try rw [ti_0]) <;> (try rw [ti_1]) <;> omega) (fun g9 h9 j hj => by rw [hfo_162] at h9; cases h9; have hc9 := cl_I (i := y_42) (by omega); by_cases hji : j = Int32.toNatClampNeg y_42; (· rw [eqg_157, hji, pk_us]; omega); (· rw [eqg_157, pk_un hji]; exact hxl g_156 hfo_155 j (by omega))) (by (try rw [ti_0]) <;> (try rw [ti_1]) <;> omega) ls (lv_sub hl [0, 4, 5, 6, 7, 8, 9, 10] rfl)
                · skip
                  rw [← Int32.toInt_inj, ti_m1] at c_164
                  refine lv_iconst (v := 0) hx hb dX3_layRow_107 (by decide) ?_
                  exact W.zret (v := 0) (ty := .boolean) hx hb hr rfl (fun t ht hW => ⟨⟨0, f_159, rfl, ⟨hG, (by decide), hfr0, (fun _ _ _ _ => Or.inl (by decide))⟩, by rw [ht]; exact hP, va_K.moved hW.alike hK, pl_in hD⟩, hS.F ht⟩) hS.2.2 dX3_layRow_108
              · skip
                rw [Int32.le_iff_toInt_le, ti_0] at c_134
                refine lv_aload_n hx hb dX3_layRow_66 rfl (lv_at hl 6 rfl) ?_
                refine tk_getP (D := (dC, dI)) (ci := 3) (v := .ref a_6) (C := RX3) (T := TX3) (N := 18) hx hb hU inlX3 hown hK hP mo0 hfo_47 rfl 4 (by decide) (hU _ wd_61) (fun _ h9 => h9) rfl dX3_layRow_67 ?_
                refine lv_iload hx hb dX3_layRow_70 (lv_at hl 4 rfl) ?_
                obtain ⟨g_167, hfo_166, hbg_167⟩ := un_507 (hG _ ma_6) ka_6
                refine tk_ildP hx hb hK hP 0 ma_6 hfo_166 rfl (vp_in_iff.mpr (by constructor <;> omega)) dX3_layRow_72 ?_
                refine lv_topi (fun x_168 ex_168 => ?_)
                have bx_168 : (0 ≤ x_168.toInt ∧ x_168.toInt ≤ 8) := by rw [ex_168]; exact hbg_167 _
                refine lv_istore (lv' := [(10, .int x_168), (9, .int 0), (8, .int 1), (7, .int y_42), (6, .int y_43), (5, .int y_44), (0, .ref o0), (1, .ref o1), (2, .int p2), (3, .int p3), (4, .int p4)]) hx hb dX3_layRow_73 hl (by decide) rfl (fun ls hl => ?_)
                obtain ⟨x_169, ex_169⟩ : ∃ y : Int32, y_43 + 1 = y := ⟨_, rfl⟩
                have hx_169 : x_169.toInt = y_43.toInt + 1 := by rw [← ex_169, ad_I (by rw [ti_1]; omega) (by rw [ti_1]; omega), ti_1]
                have bx_169 : (1 ≤ x_169.toInt ∧ x_169.toInt ≤ 10) := by constructor <;> omega
                refine lv_iinc (v := x_169) (lv' := [(6, .int x_169), (10, .int x_168), (9, .int 0), (8, .int 1), (7, .int y_42), (5, .int y_44), (0, .ref o0), (1, .ref o1), (2, .int p2), (3, .int p3), (4, .int p4)]) hx hb dX3_layRow_75 hl (k := 4) rfl ex_169 (by decide) rfl (fun ls hl => ?_)
                refine lv_aload_n hx hb dX3_layRow_78 rfl (lv_at hl 6 rfl) ?_
                refine tk_getP (D := (dC, dI)) (ci := 3) (v := .ref a_14) (C := RX3) (T := TX3) (N := 18) hx hb hU inlX3 hown hK hP mo0 hfo_47 rfl 12 (by decide) (hU _ wd_63) (fun _ h9 => h9) rfl dX3_layRow_79 ?_
                refine lv_iload hx hb dX3_layRow_82 (lv_at hl 4 rfl) ?_
                refine lv_aload_n hx hb dX3_layRow_84 rfl (lv_at hl 6 rfl) ?_
                refine tk_getP (D := (dC, dI)) (ci := 3) (v := .ref a_2) (C := RX3) (T := TX3) (N := 18) hx hb hU inlX3 hown hK hP mo0 hfo_47 rfl 0 (by decide) (hU _ wd_48) (fun _ h9 => h9) rfl dX3_layRow_85 ?_
                refine lv_iload hx hb dX3_layRow_88 (lv_at hl 2 rfl) ?_
                refine lv_iload hx hb dX3_layRow_90 (lv_at hl 1 rfl) ?_
                obtain ⟨a_171, v_172, a_173, a_174, a_175, a_176, v_177, a_178, a_179, a_180, a_181, a_182, v_183, a_184, a_185, a_186, hfo_170, ⟨ma_171, ka_171⟩, bv_172, ⟨ma_173, ka_173⟩, ⟨ma_174, ka_174⟩, ⟨ma_175, ka_175⟩, ⟨ma_176, ka_176⟩, bv_177, ⟨ma_178, ka_178⟩, ⟨ma_179, ka_179⟩, ⟨ma_180, ka_180⟩, ⟨ma_181, ka_181⟩, ⟨ma_182, ka_182⟩, bv_183, ⟨ma_184, ka_184⟩, ⟨ma_185, ka_185⟩, ⟨ma_186, ka_186⟩⟩ := un_7 (hG _ ma_2) ka_2
                refine tk_ViP (As := [.int 0, .int x_168]) (rest := [.int y_42, .ref a_14]) (n := 2) hx hb hml hown hU hN hZ (s_X7_pairOf_k7 l (dC, dI) cI cL cZ cR cG cH Z kd L f_46 hG a_2 ma_2 ka_2 0 x_168) wd_1029 wd_393 wd_394 wd_28 wd_395 (by decide +kernel) ⟨Nat.le_of_ble_eq_true rfl, Nat.le_of_ble_eq_true rfl⟩ hK hP hD hS ma_2 hfo_170 7 rfl rfl rfl hl.1 rfl (Nat.le_of_ble_eq_true rfl) dX3_layRow_92 ⟨Nat.le_of_ble_eq_true rfl, Nat.le_of_ble_eq_true rfl⟩ (fun x_187 f_188 H locs hw hP hD hS => ?_)
                obtain ⟨rfl, bx_187⟩ := hw
                obtain ⟨g_191, hfo_190, hbg_191⟩ := un_525 (hG _ ma_14) ka_14
                refine tk_istP hx hb hK hP hD hS 0 ma_14 hfo_190 rfl (vp_in_iff.mpr (by constructor <;> omega)) dX3_layRow_95 (fun H locs hP hD hS => ?_)
                obtain ⟨g_192, eqg_192⟩ : ∃ y : Nat → Int32, y = upd g_191 (Int32.toNatClampNeg y_42) x_187 := ⟨_, rfl⟩
                rw [← eqg_192] at hP hD
                have hbg_192 : ∀ j, (-1) ≤ (g_192 j).toInt ∧ (g_192 j).toInt ≤ 19 := by rw [eqg_192]; exact okI_up hbg_191 (by constructor <;> omega) _
                obtain ⟨f_194, ef_194⟩ : ∃ y : Nat → va_E, y = va_up f_46 a_14 (.inl (cI, 9, .inl g_192)) := ⟨_, rfl⟩
                have hP : va_P (dC, dI) vwCl (va_pl L f_194) H := by rw [ef_194]; exact hP
                have hD : va_D (fun q => q ∈ L) (va_pl L f_194) := by rw [ef_194]; exact hD
                have hG : GI (okc cI cL cZ cR cG cH L kd) kd L f_194 := by rw [ef_194]; exact hG.set a_14 (mk_525 ka_14 ⟨_, rfl, hbg_192⟩)
                have hfo_195 : f_194 o0 = .inr (3, [.ref a_2, .ref a_3, .ref a_4, .ref a_5, .ref a_6, .int v_7, .int v_8, .int v_9, .int v_10, .int v_11, .int v_12, .int v_13, .ref a_14, .ref a_15, .ref a_16, .int v_17, .ref a_18, .ref a_19]) := by rw [ef_194, up_ne (kd_ne ka_14 ko0 (by decide))]; exact hfo_47
                have hfo_196 : f_194 a_6 = .inl (cI, 8, .inl g_167) := by rw [ef_194, up_ne (kd_ne ka_14 ka_6 (by decide))]; exact hfo_166
                have hfo_197 : f_194 a_2 = .inr (7, [.ref a_171, .int v_172, .ref a_173, .ref a_174, .ref a_175, .ref a_176, .int v_177, .ref a_178, .ref a_179, .ref a_180, .ref a_181, .ref a_182, .int v_183, .ref a_184, .ref a_185, .ref a_186]) := by rw [ef_194, up_ne (kd_ne ka_14 ka_2 (by decide))]; exact hfo_170
                have hfr0 : ∀ b, kd b ≠ 525 → f_194 b = f b := fun b q525 => (congrFun ef_194 b).trans ((up_ne (fun e9 => q525 (by rw [e9]; exact ka_14))).trans (hfr0 b q525))
                have hfo_198 : f_194 a_14 = .inl (cI, 9, .inl g_192) := by rw [ef_194]; exact up_self
                refine lv_aload_n hx hb dX3_layRow_96 rfl (lv_at hl 6 rfl) ?_
                refine tk_getP (D := (dC, dI)) (ci := 3) (v := .ref a_14) (C := RX3) (T := TX3) (N := 18) hx hb hU inlX3 hown hK hP mo0 hfo_195 rfl 12 (by decide) (hU _ wd_63) (fun _ h9 => h9) rfl dX3_layRow_97 ?_
                refine lv_iload hx hb dX3_layRow_100 (lv_at hl 4 rfl) ?_
                have ez_199 : x_187 = g_192 (Int32.toNatClampNeg y_42) := by rw [eqg_192, pk_us]
                have ex_187 := ez_199
                refine tk_ildP hx hb hK hP 0 ma_14 hfo_198 rfl (vp_in_iff.mpr (by constructor <;> omega)) dX3_layRow_102 ?_
                refine tk_topi (y := x_187) ex_187.symm ?_
                refine lv_iconst (v := (-1)) hx hb dX3_layRow_103 (by decide) ?_
                refine lv_icmp_ne (tgt := 109) hx hb dX3_layRow_104 (by decide) (fun c_200 => ?_) (fun c_200 => ?_)
                · skip
                  rw [← Int32.toInt_inj, ti_m1] at c_200
                  obtain ⟨x_201, ex_201⟩ : ∃ y : Int32, y_42 + 1 = y := ⟨_, rfl⟩
                  have hx_201 : x_201.toInt = y_42.toInt + 1 := by rw [← ex_201, ad_I (by rw [ti_1]; omega) (by rw [ti_1]; omega), ti_1]
                  have bx_201 : (1 ≤ x_201.toInt ∧ x_201.toInt ≤ 9) := by constructor <;> omega
                  refine lv_iinc (v := x_201) (lv' := [(7, .int x_201), (6, .int x_169), (10, .int x_168), (9, .int 0), (8, .int 1), (5, .int y_44), (0, .ref o0), (1, .ref o1), (2, .int p2), (3, .int p3), (4, .int p4)]) hx hb dX3_layRow_109 hl (k := 4) rfl ex_201 (by decide) rfl (fun ls hl => ?_)
                  refine lv_goto (tgt := 9) hx hb dX3_layRow_112 (by decide) ?_
                  exact ih_hloop_41 x_201 (by constructor <;> omega) x_169 (by constructor <;> omega) y_44 (by constructor <;> omega) f_194 hG _ _ hP hS hD hfr0 hfo_195 (by (try rw [ti_0]) <;> (try rw [ti_1]) <;> omega) (fun g9 h9 j hj => by rw [hfo_198] at h9; cases h9; have hc9 := cl_I (i := y_42) (by omega); by_cases hji : j = Int32.toNatClampNeg y_42; (· rw [eqg_192, hji, pk_us]; omega); (· rw [eqg_192, pk_un hji]; exact hxl g_191 hfo_190 j (by omega))) (by (try rw [ti_0]) <;> (try rw [ti_1]) <;> omega) ls (lv_sub hl [0, 1, 5, 6, 7, 8, 9, 10] rfl)
                · skip
                  rw [← Int32.toInt_inj, ti_m1] at c_200
                  refine lv_iconst (v := 0) hx hb dX3_layRow_107 (by decide) ?_
                  exact W.zret (v := 0) (ty := .boolean) hx hb hr rfl (fun t ht hW => ⟨⟨0, f_194, rfl, ⟨hG, (by decide), hfr0, (fun _ _ _ _ => Or.inl (by decide))⟩, by rw [ht]; exact hP, va_K.moved hW.alike hK, pl_in hD⟩, hS.F ht⟩) hS.2.2 dX3_layRow_108
            · skip
              rw [Int32.le_iff_toInt_le, ti_0] at c_133
              refine lv_aload_n hx hb dX3_layRow_48 rfl (lv_at hl 7 rfl) ?_
              refine lv_iload hx hb dX3_layRow_49 (lv_at hl 5 rfl) ?_
              obtain ⟨g_203, hfo_202, hbg_203⟩ := un_507 (hG _ mo1) ko1
              refine tk_ildP hx hb hK hP 0 mo1 hfo_202 rfl (vp_in_iff.mpr (by constructor <;> omega)) dX3_layRow_51 ?_
              refine lv_topi (fun x_204 ex_204 => ?_)
              have bx_204 : (0 ≤ x_204.toInt ∧ x_204.toInt ≤ 8) := by rw [ex_204]; exact hbg_203 _
              refine lv_istore (lv' := [(9, .int x_204), (10, .int 0), (8, .int 1), (7, .int y_42), (6, .int y_43), (5, .int y_44), (0, .ref o0), (1, .ref o1), (2, .int p2), (3, .int p3), (4, .int p4)]) hx hb dX3_layRow_52 hl (by decide) rfl (fun ls hl => ?_)
              obtain ⟨x_205, ex_205⟩ : ∃ y : Int32, y_44 + 1 = y := ⟨_, rfl⟩
              have hx_205 : x_205.toInt = y_44.toInt + 1 := by rw [← ex_205, ad_I (by rw [ti_1]; omega) (by rw [ti_1]; omega), ti_1]
              have bx_205 : (1 ≤ x_205.toInt ∧ x_205.toInt ≤ 10) := by constructor <;> omega
              refine lv_iinc (v := x_205) (lv' := [(5, .int x_205), (9, .int x_204), (10, .int 0), (8, .int 1), (7, .int y_42), (6, .int y_43), (0, .ref o0), (1, .ref o1), (2, .int p2), (3, .int p3), (4, .int p4)]) hx hb dX3_layRow_54 hl (k := 5) rfl ex_205 (by decide) rfl (fun ls hl => ?_)
              refine lv_iload hx hb dX3_layRow_57 (lv_at hl 3 rfl) ?_
              refine lv_if_eq (tgt := 66) hx hb dX3_layRow_59 (by decide) (fun c9 => absurd c9 (by decide)) (fun _ => ?_)
              refine lv_iload_n hx hb dX3_layRow_62 rfl (lv_at hl 8 rfl) ?_
              refine lv_if_ge (tgt := 78) hx hb dX3_layRow_63 (by decide) (fun c_206 => ?_) (fun c_206 => ?_)
              · skip
                rw [Int32.le_iff_toInt_le, ti_0] at c_206
                refine lv_aload_n hx hb dX3_layRow_78 rfl (lv_at hl 6 rfl) ?_
                refine tk_getP (D := (dC, dI)) (ci := 3) (v := .ref a_14) (C := RX3) (T := TX3) (N := 18) hx hb hU inlX3 hown hK hP mo0 hfo_47 rfl 12 (by decide) (hU _ wd_63) (fun _ h9 => h9) rfl dX3_layRow_79 ?_
                refine lv_iload hx hb dX3_layRow_82 (lv_at hl 4 rfl) ?_
                refine lv_aload_n hx hb dX3_layRow_84 rfl (lv_at hl 6 rfl) ?_
                refine tk_getP (D := (dC, dI)) (ci := 3) (v := .ref a_2) (C := RX3) (T := TX3) (N := 18) hx hb hU inlX3 hown hK hP mo0 hfo_47 rfl 0 (by decide) (hU _ wd_48) (fun _ h9 => h9) rfl dX3_layRow_85 ?_
                refine lv_iload hx hb dX3_layRow_88 (lv_at hl 1 rfl) ?_
                refine lv_iload hx hb dX3_layRow_90 (lv_at hl 2 rfl) ?_
                obtain ⟨a_208, v_209, a_210, a_211, a_212, a_213, v_214, a_215, a_216, a_217, a_218, a_219, v_220, a_221, a_222, a_223, hfo_207, ⟨ma_208, ka_208⟩, bv_209, ⟨ma_210, ka_210⟩, ⟨ma_211, ka_211⟩, ⟨ma_212, ka_212⟩, ⟨ma_213, ka_213⟩, bv_214, ⟨ma_215, ka_215⟩, ⟨ma_216, ka_216⟩, ⟨ma_217, ka_217⟩, ⟨ma_218, ka_218⟩, ⟨ma_219, ka_219⟩, bv_220, ⟨ma_221, ka_221⟩, ⟨ma_222, ka_222⟩, ⟨ma_223, ka_223⟩⟩ := un_7 (hG _ ma_2) ka_2
                refine tk_ViP (As := [.int x_204, .int 0]) (rest := [.int y_42, .ref a_14]) (n := 2) hx hb hml hown hU hN hZ (s_X7_pairOf_k7 l (dC, dI) cI cL cZ cR cG cH Z kd L f_46 hG a_2 ma_2 ka_2 x_204 0) wd_1029 wd_393 wd_394 wd_28 wd_395 (by decide +kernel) ⟨Nat.le_of_ble_eq_true rfl, Nat.le_of_ble_eq_true rfl⟩ hK hP hD hS ma_2 hfo_207 7 rfl rfl rfl hl.1 rfl (Nat.le_of_ble_eq_true rfl) dX3_layRow_92 ⟨Nat.le_of_ble_eq_true rfl, Nat.le_of_ble_eq_true rfl⟩ (fun x_224 f_225 H locs hw hP hD hS => ?_)
                obtain ⟨rfl, bx_224⟩ := hw
                obtain ⟨g_228, hfo_227, hbg_228⟩ := un_525 (hG _ ma_14) ka_14
                refine tk_istP hx hb hK hP hD hS 0 ma_14 hfo_227 rfl (vp_in_iff.mpr (by constructor <;> omega)) dX3_layRow_95 (fun H locs hP hD hS => ?_)
                obtain ⟨g_229, eqg_229⟩ : ∃ y : Nat → Int32, y = upd g_228 (Int32.toNatClampNeg y_42) x_224 := ⟨_, rfl⟩
                rw [← eqg_229] at hP hD
                have hbg_229 : ∀ j, (-1) ≤ (g_229 j).toInt ∧ (g_229 j).toInt ≤ 19 := by rw [eqg_229]; exact okI_up hbg_228 (by constructor <;> omega) _
                obtain ⟨f_231, ef_231⟩ : ∃ y : Nat → va_E, y = va_up f_46 a_14 (.inl (cI, 9, .inl g_229)) := ⟨_, rfl⟩
                have hP : va_P (dC, dI) vwCl (va_pl L f_231) H := by rw [ef_231]; exact hP
                have hD : va_D (fun q => q ∈ L) (va_pl L f_231) := by rw [ef_231]; exact hD
                have hG : GI (okc cI cL cZ cR cG cH L kd) kd L f_231 := by rw [ef_231]; exact hG.set a_14 (mk_525 ka_14 ⟨_, rfl, hbg_229⟩)
                have hfo_232 : f_231 o0 = .inr (3, [.ref a_2, .ref a_3, .ref a_4, .ref a_5, .ref a_6, .int v_7, .int v_8, .int v_9, .int v_10, .int v_11, .int v_12, .int v_13, .ref a_14, .ref a_15, .ref a_16, .int v_17, .ref a_18, .ref a_19]) := by rw [ef_231, up_ne (kd_ne ka_14 ko0 (by decide))]; exact hfo_47
                have hfo_233 : f_231 o1 = .inl (cI, 8, .inl g_203) := by rw [ef_231, up_ne (kd_ne ka_14 ko1 (by decide))]; exact hfo_202
                have hfo_234 : f_231 a_2 = .inr (7, [.ref a_208, .int v_209, .ref a_210, .ref a_211, .ref a_212, .ref a_213, .int v_214, .ref a_215, .ref a_216, .ref a_217, .ref a_218, .ref a_219, .int v_220, .ref a_221, .ref a_222, .ref a_223]) := by rw [ef_231, up_ne (kd_ne ka_14 ka_2 (by decide))]; exact hfo_207
                have hfr0 : ∀ b, kd b ≠ 525 → f_231 b = f b := fun b q525 => (congrFun ef_231 b).trans ((up_ne (fun e9 => q525 (by rw [e9]; exact ka_14))).trans (hfr0 b q525))
                have hfo_235 : f_231 a_14 = .inl (cI, 9, .inl g_229) := by rw [ef_231]; exact up_self
                refine lv_aload_n hx hb dX3_layRow_96 rfl (lv_at hl 6 rfl) ?_
                refine tk_getP (D := (dC, dI)) (ci := 3) (v := .ref a_14) (C := RX3) (T := TX3) (N := 18) hx hb hU inlX3 hown hK hP mo0 hfo_232 rfl 12 (by decide) (hU _ wd_63) (fun _ h9 => h9) rfl dX3_layRow_97 ?_
                refine lv_iload hx hb dX3_layRow_100 (lv_at hl 4 rfl) ?_
                have ez_236 : x_224 = g_229 (Int32.toNatClampNeg y_42) := by rw [eqg_229, pk_us]
                have ex_224 := ez_236
                refine tk_ildP hx hb hK hP 0 ma_14 hfo_235 rfl (vp_in_iff.mpr (by constructor <;> omega)) dX3_layRow_102 ?_
                refine tk_topi (y := x_224) ex_224.symm ?_
                refine lv_iconst (v := (-1)) hx hb dX3_layRow_103 (by decide) ?_
                refine lv_icmp_ne (tgt := 109) hx hb dX3_layRow_104 (by decide) (fun c_237 => ?_) (fun c_237 => ?_)
                · skip
                  rw [← Int32.toInt_inj, ti_m1] at c_237
                  obtain ⟨x_238, ex_238⟩ : ∃ y : Int32, y_42 + 1 = y := ⟨_, rfl⟩
                  have hx_238 : x_238.toInt = y_42.toInt + 1 := by rw [← ex_238, ad_I (by rw [ti_1]; omega) (by rw [ti_1]; omega), ti_1]
                  have bx_238 : (1 ≤ x_238.toInt ∧ x_238.toInt ≤ 9) := by constructor <;> omega
                  refine lv_iinc (v := x_238) (lv' := [(7, .int x_238), (5, .int x_205), (9, .int x_204), (10, .int 0), (8, .int 1), (6, .int y_43), (0, .ref o0), (1, .ref o1), (2, .int p2), (3, .int p3), (4, .int p4)]) hx hb dX3_layRow_109 hl (k := 4) rfl ex_238 (by decide) rfl (fun ls hl => ?_)
                  refine lv_goto (tgt := 9) hx hb dX3_layRow_112 (by decide) ?_
                  exact ih_hloop_41 x_238 (by constructor <;> omega) y_43 (by constructor <;> omega) x_205 (by constructor <;> omega) f_231 hG _ _ hP hS hD hfr0 hfo_232 (by (try rw [ti_0]) <;> (try rw [ti_1]) <;> omega) (fun g9 h9 j hj => by rw [hfo_235] at h9; cases h9; have hc9 := cl_I (i := y_42) (by omega); by_cases hji : j = Int32.toNatClampNeg y_42; (· rw [eqg_229, hji, pk_us]; omega); (· rw [eqg_229, pk_un hji]; exact hxl g_228 hfo_227 j (by omega))) (by (try rw [ti_0]) <;> (try rw [ti_1]) <;> omega) ls (lv_sub hl [0, 5, 1, 6, 7, 8, 9, 10] rfl)
                · skip
                  rw [← Int32.toInt_inj, ti_m1] at c_237
                  refine lv_iconst (v := 0) hx hb dX3_layRow_107 (by decide) ?_
                  exact W.zret (v := 0) (ty := .boolean) hx hb hr rfl (fun t ht hW => ⟨⟨0, f_231, rfl, ⟨hG, (by decide), hfr0, (fun _ _ _ _ => Or.inl (by decide))⟩, by rw [ht]; exact hP, va_K.moved hW.alike hK, pl_in hD⟩, hS.F ht⟩) hS.2.2 dX3_layRow_108
              · skip
                rw [Int32.le_iff_toInt_le, ti_0] at c_206
                exfalso
                omega
  exact hloop_41 10 0 (by decide) 0 (by decide) 0 (by decide) f hG _ _ hP hS hD hfr0 hfo_1 (by (try rw [ti_0]) <;> omega) (fun g9 _ j hj => by exfalso; have h3 : ((0 : Int32)).toInt = 0 := rfl; omega) (by (try rw [ti_0]) <;> omega) ls hl
