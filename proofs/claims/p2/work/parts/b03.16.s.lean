set_option maxHeartbeats 8000000 in
set_option maxRecDepth 100000 in
theorem s_X7_ageBy_k7_a538_t (l : Launch) (D : va_G) (cI cL cZ cR cG cH : ClassId) (Z : zT) (kd : Nat → Nat) (L : List Nat) (f : Nat → va_E) (hG : GI (okc cI cL cZ cR cG cH L kd) kd L f) (o0 : Nat) (mo0 : o0 ∈ L) (ko0 : kd o0 = 7) (p1 : Int32) (bp1 : (0 ≤ p1.toInt ∧ p1.toInt ≤ 7)) (o2 : Nat) (mo2 : o2 ∈ L) (ko2 : kd o2 = 538) (p3 : Int32) (bp3 : (0 ≤ p3.toInt ∧ p3.toInt ≤ 2)) (hxtr0 : trel kd 7 508 510 515 4 f o0) (hxpre0 : ∀ n9 g9, fldI (f o0) 1 = some n9 → f o2 = .inl (cI, 2, .inl g9) → ∀ j : Nat, (j : Int) < p3.toInt → 1 ≤ (g9 j).toInt ∧ (g9 j).toInt ≤ n9.toInt) (hxpre1 : ∀ c9, fldI (f o0) 12 = some c9 → p1.toInt < c9.toInt) : mPI l D cI cL cZ cR cG cH Z yX7_ageBy cX7_ageBy 9 (some .int) 2 50 [.ref o0, .int p1, .ref o2, .int p3] L f (fun (r : Int32) (f9 : Nat → va_E) => GI (okc cI cL cZ cR cG cH L kd) kd L f9 ∧ (0 ≤ r.toInt ∧ r.toInt ≤ 2) ∧ r.toInt ≤ p3.toInt ∧ (∀ b, kd b ≠ 516 → kd b ≠ 538 → f9 b = f b) ∧ (∀ n9 g9, fldI (f o0) 1 = some n9 → f9 o2 = .inl (cI, 2, .inl g9) → ∀ j : Nat, (j : Int) < r.toInt → 1 ≤ (g9 j).toInt ∧ (g9 j).toInt ≤ n9.toInt) ∧ (trel kd 7 508 510 515 4 f9 o0)) := by
  obtain ⟨dC, dI⟩ := D
  refine Met.ofW (cc := cX7_ageBy) (maxL := 9) (ret := (some .int)) (by decide) rfl ?_
  intro p e s m args below meth c s₁ B hml hv
  obtain ⟨rfl, hP, hK, hD0, hN, hZ⟩ := hv
  have hx := B.exec
  have hb := B.bytes
  have hr := B.returns
  have hU : ∀ w ∈ wsU, w.before _ s = true := fun w h => atoms_spec (ws := wU yX7_ageBy cX7_ageBy 9 (some .int)) B.pre w (List.mem_cons_of_mem _ h)
  have hown : s.vm.findClass RX7 = some m.cls := findClass_of_methodNamed B.named
  have hlocks := B.notSynchronized
  have hD := pl_in hD0
  have hS : va_S (fun q => q ∈ L) s.heap s.heap [] := va_S.rf
  have hl := lv_entry ([.ref o0, .int p1, .ref o2, .int p3]) (n := 9) (Nat.le_of_ble_eq_true rfl)
  rw [lg_entry_eq]
  generalize (lg_sl ([.ref o0, .int p1, .ref o2, .int p3]) ++ List.replicate (9 - (lg_sl ([.ref o0, .int p1, .ref o2, .int p3])).length) Slot.unset).toArray = ls at hl ⊢
  have hl : lv_has ls 9 [(0, .ref o0), (1, .int p1), (2, .ref o2), (3, .int p3)] := hl
  have hfr0 : ∀ b, kd b ≠ 516 → kd b ≠ 538 → f b = f b := fun _ _ _ => rfl
  have hT0 := hxtr0
  have hTq := hT0
  obtain ⟨a_2, v_3, a_4, a_5, a_6, a_7, v_8, a_9, a_10, a_11, a_12, a_13, v_14, a_15, a_16, a_17, hfo_1, ⟨ma_2, ka_2⟩, bv_3, ⟨ma_4, ka_4⟩, ⟨ma_5, ka_5⟩, ⟨ma_6, ka_6⟩, ⟨ma_7, ka_7⟩, bv_8, ⟨ma_9, ka_9⟩, ⟨ma_10, ka_10⟩, ⟨ma_11, ka_11⟩, ⟨ma_12, ka_12⟩, ⟨ma_13, ka_13⟩, bv_14, ⟨ma_15, ka_15⟩, ⟨ma_16, ka_16⟩, ⟨ma_17, ka_17⟩⟩ := un_7 (hG _ mo0) ko0
  obtain ⟨g_19, hfo_18, hbg_19⟩ := un_508 (hG _ ma_2) ka_2
  obtain ⟨g_21, hfo_20, hbg_21⟩ := un_510 (hG _ ma_5) ka_5
  obtain ⟨g_23, hfo_22, hbg_23⟩ := un_515 (hG _ ma_13) ka_13
  obtain ⟨tqn, tqp, tqc, tqs, tqa, tqr, tqg, tqh, tqq, ⟨-, -, -, -⟩, ⟨tqt1, tqt2, tqt3, tqt4, tqt5, tqt6⟩, ⟨tqw1, tqw2, tqw3⟩, tq4, tq5, tq6, tq7⟩ := hTq
  rw [hfo_1] at tqt1 tqt2 tqt3 tqt4 tqt5 tqt6
  obtain rfl := Option.some.inj tqt1
  obtain rfl := Option.some.inj tqt2
  obtain rfl := Option.some.inj tqt3
  obtain rfl := Option.some.inj tqt4
  obtain rfl := Option.some.inj tqt5
  obtain rfl := Option.some.inj tqt6
  rw [hfo_18] at tqw1
  obtain rfl := Option.some.inj tqw1
  rw [hfo_20] at tqw2
  obtain rfl := Option.some.inj tqw2
  rw [hfo_22] at tqw3
  obtain rfl := Option.some.inj tqw3
  obtain ⟨g_25, hfo_24, hbg_25⟩ := un_538 (hG _ mo2) ko2
  have hwd := hxpre0 v_3 g_25 (by rw [hfo_1]; rfl) hfo_24
  have hkr := hxpre1 v_14 (by rw [hfo_1]; rfl)
  refine lv_aload_n hx hb dX7_ageBy_0 rfl (lv_at hl 0 rfl) ?_
  refine tk_getP (D := (dC, dI)) (ci := 7) (v := .ref a_13) (C := RX7) (T := TX7) (N := 16) hx hb hU inlX7 hown hK hP mo0 hfo_1 rfl 11 (by decide) (hU _ wd_82) (fun _ h9 => h9) rfl dX7_ageBy_1 ?_
  refine lv_iload_n hx hb dX7_ageBy_4 rfl (lv_at hl 1 rfl) ?_
  obtain ⟨a_26, hga_26, ma_26, ka_26⟩ := hbg_23 (Int32.toNatClampNeg p1) (in_lt (vp_in_iff.mpr (by constructor <;> omega)))
  refine tk_aldP hx hb hK hP 3 ma_13 hfo_22 rfl (vp_in_iff.mpr (by constructor <;> omega)) hga_26 dX7_ageBy_5 ?_
  refine lv_astore (lv' := [(4, .ref a_26), (0, .ref o0), (1, .int p1), (2, .ref o2), (3, .int p3)]) hx hb dX7_ageBy_6 hl (by decide) rfl (fun ls hl => ?_)
  obtain ⟨v_28, v_29, v_30, v_31, a_32, a_33, a_34, a_35, v_36, v_37, v_38, hfo_27, bv_28, bv_29, bv_30, bv_31, ⟨ma_32, ka_32⟩, ⟨ma_33, ka_33⟩, ⟨ma_34, ka_34⟩, ⟨ma_35, ka_35⟩⟩ := un_4 (hG _ ma_26) ka_26
  have bv_36 : ((-2147483648) ≤ v_36.toInt ∧ v_36.toInt ≤ 2147483647) := ⟨i32_lo _, i32_hi _⟩
  have bv_37 : ((-2147483648) ≤ v_37.toInt ∧ v_37.toInt ≤ 2147483647) := ⟨i32_lo _, i32_hi _⟩
  have bv_38 : ((-2147483648) ≤ v_38.toInt ∧ v_38.toInt ≤ 2147483647) := ⟨i32_lo _, i32_hi _⟩
  have hsd : v_29.toInt ≤ v_3.toInt := by have hc9 := cl_I (i := p1) (by omega); obtain ⟨b9, w9, u1, u2, u3, u4⟩ := tq7 (Int32.toNatClampNeg p1) (by omega); rw [hga_26] at u1; obtain rfl := Option.some.inj u1; rw [hfo_27] at u3; obtain rfl := Option.some.inj u3; exact u4
  refine lv_aload hx hb dX7_ageBy_8 (lv_at hl 0 rfl) ?_
  refine tk_getP (D := (dC, dI)) (ci := 4) (v := .int v_30) (C := RX4) (T := TX4) (N := 11) hx hb hU inlX4 hown hK hP ma_26 hfo_27 rfl 2 (by decide) (hU _ wd_1107) (fun _ h9 => h9) rfl dX7_ageBy_10 ?_
  refine lv_iconst (v := 3) hx hb dX7_ageBy_13 (by decide) ?_
  refine lv_icmp_eq (tgt := 25) hx hb dX7_ageBy_14 (by decide) (fun c_39 => ?_) (fun c_39 => ?_)
  · skip
    rw [← Int32.toInt_inj, ti_3] at c_39
    refine lv_iload_n hx hb dX7_ageBy_25 rfl (lv_at hl 4 rfl) ?_
    exact W.iret (v := p3) hx hb hr (fun t ht hW => ⟨⟨p3, f, rfl, ⟨hG, (by constructor <;> omega), (by omega), hfr0, (fun n9 g9 h1 h2 j hj => hxpre0 n9 g9 h1 h2 j (by omega)), hT0⟩, by rw [ht]; exact hP, va_K.moved hW.alike hK, pl_in hD⟩, hS.F ht⟩) hS.2.2 dX7_ageBy_26
  · skip
    rw [← Int32.toInt_inj, ti_3] at c_39
    refine lv_aload hx hb dX7_ageBy_17 (lv_at hl 0 rfl) ?_
    refine tk_getP (D := (dC, dI)) (ci := 4) (v := .int v_28) (C := RX4) (T := TX4) (N := 11) hx hb hU inlX4 hown hK hP ma_26 hfo_27 rfl 0 (by decide) (hU _ wd_1108) (fun _ h9 => h9) rfl dX7_ageBy_19 ?_
    refine lv_if_ne (tgt := 27) hx hb dX7_ageBy_22 (by decide) (fun c_40 => ?_) (fun c_40 => ?_)
    · skip
      rw [← Int32.toInt_inj, ti_0] at c_40
      refine lv_iconst (v := 0) hx hb dX7_ageBy_27 (by decide) ?_
      refine lv_istore (lv' := [(5, .int 0), (4, .ref a_26), (0, .ref o0), (1, .int p1), (2, .ref o2), (3, .int p3)]) hx hb dX7_ageBy_28 hl (by decide) rfl (fun ls hl => ?_)
      have hloop_71 : ∀ (n : Nat), ∀ (y_72 : Int32), (0 ≤ y_72.toInt ∧ y_72.toInt ≤ 2) → ∀ (f_74 : Nat → va_E), GI (okc cI cL cZ cR cG cH L kd) kd L f_74 → ∀ (H : Heap) (locs : List Loc), va_P (dC, dI) vwCl (va_pl L f_74) H → va_S (fun q => q ∈ L) s.heap H locs → va_D (fun q => q ∈ L) (va_pl L f_74) → (∀ b, kd b ≠ 516 → kd b ≠ 538 → f_74 b = f b) → (f_74 o0 = .inr (7, [.ref a_2, .int v_3, .ref a_4, .ref a_5, .ref a_6, .ref a_7, .int v_8, .ref a_9, .ref a_10, .ref a_11, .ref a_12, .ref a_13, .int v_14, .ref a_15, .ref a_16, .ref a_17])) → (f_74 a_2 = .inl (cI, 26, .inl g_19)) → (f_74 a_5 = .inl (cI, 81, .inl g_21)) → (f_74 a_13 = .inl (cR, 8, .inr (.inr (.inr (.inr g_23))))) → (f_74 o2 = .inl (cI, 2, .inl g_25)) → (f_74 a_26 = .inr (4, [.int v_28, .int v_29, .int v_30, .int v_31, .ref a_32, .ref a_33, .ref a_34, .ref a_35, .int v_36, .int v_37, .int v_38])) → trel kd 7 508 510 515 4 f_74 o0 → (∀ g9, f_74 a_17 = .inl (cI, 8, .inl g9) → ∀ j : Nat, (j : Int) < y_72.toInt → 0 ≤ (g9 j).toInt) → 2 - y_72.toInt < (n : Int) → ∀ (ls : Array Slot), lv_has ls 9 [(5, .int y_72), (4, .ref a_26), (0, .ref o0), (1, .int p1), (2, .ref o2), (3, .int p3)] → W p l e (headSpec (wU yX7_ageBy cX7_ageBy 9 (some .int)) { frames := 2, cells := 0, slots := 0, locals := 50 }).room s m [.ref o0, .int p1, .ref o2, .int p3].toArray below meth c H locs 0 0 (MQ below (va_Qi (fun (r : Int32) (f9 : Nat → va_E) => GI (okc cI cL cZ cR cG cH L kd) kd L f9 ∧ (0 ≤ r.toInt ∧ r.toInt ≤ 2) ∧ r.toInt ≤ p3.toInt ∧ (∀ b, kd b ≠ 516 → kd b ≠ 538 → f9 b = f b) ∧ (∀ n9 g9, fldI (f o0) 1 = some n9 → f9 o2 = .inl (cI, 2, .inl g9) → ∀ j : Nat, (j : Int) < r.toInt → 1 ≤ (g9 j).toInt ∧ (g9 j).toInt ≤ n9.toInt) ∧ (trel kd 7 508 510 515 4 f9 o0)) (qP (dC, dI) cI cL cZ cR cG cH L) (fun q => q ∈ L)) [.ref o0, .int p1, .ref o2, .int p3].toArray s 0 0 (fun q => q ∈ L)) (F0 m 30 ls []) := by
        intro n
        induction n with
        | zero => intro y_72 by_72 f_74 hG H locs hP hS hD hfr0 hfo_75 hfo_76 hfo_77 hfo_78 hfo_79 hfo_80 hT0 hxr hmuhloop_71 ls hl; exfalso; omega
        | succ n ih_hloop_71 =>
          intro y_72 by_72 f_74 hG H locs hP hS hD hfr0 hfo_75 hfo_76 hfo_77 hfo_78 hfo_79 hfo_80 hT0 hxr hmuhloop_71 ls hl
          refine lv_iload hx hb dX7_ageBy_30 (lv_at hl 0 rfl) ?_
          refine lv_iload_n hx hb dX7_ageBy_32 rfl (lv_at hl 5 rfl) ?_
          refine lv_icmp_ge (tgt := 61) hx hb dX7_ageBy_33 (by decide) (fun c_81 => ?_) (fun c_81 => ?_)
          · skip
            rw [Int32.le_iff_toInt_le] at c_81
            obtain ⟨g_83, hfo_82, hbg_83⟩ := un_516 (hG _ ma_17) ka_17
            have hrowg_83 : ∀ j : Nat, (j : Int) < p3.toInt → 0 ≤ (g_83 j).toInt := fun j hj => hxr g_83 hfo_82 j (by omega)
            refine lv_aload hx hb dX7_ageBy_61 (lv_at hl 1 rfl) ?_
            refine tk_getP (D := (dC, dI)) (ci := 4) (v := .int v_36) (C := RX4) (T := TX4) (N := 11) hx hb hU inlX4 hown hK hP ma_26 hfo_80 rfl 8 (by decide) (hU _ wd_1109) (fun _ h9 => h9) rfl dX7_ageBy_63 ?_
            refine lv_istore (lv' := [(5, .int v_36), (4, .ref a_26), (0, .ref o0), (1, .int p1), (2, .ref o2), (3, .int p3)]) hx hb dX7_ageBy_66 hl (by decide) rfl (fun ls hl => ?_)
            refine lv_iconst (v := 0) hx hb dX7_ageBy_68 (by decide) ?_
            refine lv_istore (lv' := [(6, .int 0), (5, .int v_36), (4, .ref a_26), (0, .ref o0), (1, .int p1), (2, .ref o2), (3, .int p3)]) hx hb dX7_ageBy_69 hl (by decide) rfl (fun ls hl => ?_)
            refine lv_iconst (v := 0) hx hb dX7_ageBy_71 (by decide) ?_
            refine lv_istore (lv' := [(7, .int 0), (6, .int 0), (5, .int v_36), (4, .ref a_26), (0, .ref o0), (1, .int p1), (2, .ref o2), (3, .int p3)]) hx hb dX7_ageBy_72 hl (by decide) rfl (fun ls hl => ?_)
            have hloop_120 : ∀ (n : Nat), ∀ (y_121 : Int32), (0 ≤ y_121.toInt ∧ y_121.toInt ≤ 2) → ∀ (y_122 : Int32), (0 ≤ y_122.toInt ∧ y_122.toInt ≤ 2) → ∀ (y_123 : Int32), ((-2147483648) ≤ y_123.toInt ∧ y_123.toInt ≤ 2147483647) → ∀ (f_125 : Nat → va_E), GI (okc cI cL cZ cR cG cH L kd) kd L f_125 → ∀ (H : Heap) (locs : List Loc), va_P (dC, dI) vwCl (va_pl L f_125) H → va_S (fun q => q ∈ L) s.heap H locs → va_D (fun q => q ∈ L) (va_pl L f_125) → (∀ b, kd b ≠ 516 → kd b ≠ 538 → f_125 b = f b) → (f_125 o0 = .inr (7, [.ref a_2, .int v_3, .ref a_4, .ref a_5, .ref a_6, .ref a_7, .int v_8, .ref a_9, .ref a_10, .ref a_11, .ref a_12, .ref a_13, .int v_14, .ref a_15, .ref a_16, .ref a_17])) → (f_125 a_2 = .inl (cI, 26, .inl g_19)) → (f_125 a_5 = .inl (cI, 81, .inl g_21)) → (f_125 a_13 = .inl (cR, 8, .inr (.inr (.inr (.inr g_23))))) → (f_125 a_26 = .inr (4, [.int v_28, .int v_29, .int v_30, .int v_31, .ref a_32, .ref a_33, .ref a_34, .ref a_35, .int v_36, .int v_37, .int v_38])) → (f_125 a_17 = .inl (cI, 8, .inl g_83)) → trel kd 7 508 510 515 4 f_125 o0 → (y_122.toInt ≤ y_121.toInt) → (y_121.toInt ≤ p3.toInt) → (∀ g9, f_125 o2 = .inl (cI, 2, .inl g9) → ∀ j : Nat, (j : Int) < p3.toInt → 1 ≤ (g9 j).toInt ∧ (g9 j).toInt ≤ v_3.toInt) → 2 - y_121.toInt < (n : Int) → ∀ (ls : Array Slot), lv_has ls 9 [(7, .int y_121), (6, .int y_122), (5, .int y_123), (4, .ref a_26), (0, .ref o0), (1, .int p1), (2, .ref o2), (3, .int p3)] → W p l e (headSpec (wU yX7_ageBy cX7_ageBy 9 (some .int)) { frames := 2, cells := 0, slots := 0, locals := 50 }).room s m [.ref o0, .int p1, .ref o2, .int p3].toArray below meth c H locs 0 0 (MQ below (va_Qi (fun (r : Int32) (f9 : Nat → va_E) => GI (okc cI cL cZ cR cG cH L kd) kd L f9 ∧ (0 ≤ r.toInt ∧ r.toInt ≤ 2) ∧ r.toInt ≤ p3.toInt ∧ (∀ b, kd b ≠ 516 → kd b ≠ 538 → f9 b = f b) ∧ (∀ n9 g9, fldI (f o0) 1 = some n9 → f9 o2 = .inl (cI, 2, .inl g9) → ∀ j : Nat, (j : Int) < r.toInt → 1 ≤ (g9 j).toInt ∧ (g9 j).toInt ≤ n9.toInt) ∧ (trel kd 7 508 510 515 4 f9 o0)) (qP (dC, dI) cI cL cZ cR cG cH L) (fun q => q ∈ L)) [.ref o0, .int p1, .ref o2, .int p3].toArray s 0 0 (fun q => q ∈ L)) (F0 m 74 ls []) := by
              intro n
              induction n with
              | zero => intro y_121 by_121 y_122 by_122 y_123 by_123 f_125 hG H locs hP hS hD hfr0 hfo_126 hfo_127 hfo_128 hfo_129 hfo_130 hfo_131 hT0 hrelhloop_120_0 hrelhloop_120_1 hxw hmuhloop_120 ls hl; exfalso; omega
              | succ n ih_hloop_120 =>
                intro y_121 by_121 y_122 by_122 y_123 by_123 f_125 hG H locs hP hS hD hfr0 hfo_126 hfo_127 hfo_128 hfo_129 hfo_130 hfo_131 hT0 hrelhloop_120_0 hrelhloop_120_1 hxw hmuhloop_120 ls hl
                refine lv_iload hx hb dX7_ageBy_74 (lv_at hl 0 rfl) ?_
                refine lv_iload_n hx hb dX7_ageBy_76 rfl (lv_at hl 7 rfl) ?_
                refine lv_icmp_ge (tgt := 165) hx hb dX7_ageBy_77 (by decide) (fun c_132 => ?_) (fun c_132 => ?_)
                · skip
                  rw [Int32.le_iff_toInt_le] at c_132
                  refine lv_iload hx hb dX7_ageBy_165 (lv_at hl 1 rfl) ?_
                  exact W.iret (v := y_122) hx hb hr (fun t ht hW => ⟨⟨y_122, f_125, rfl, ⟨hG, (by constructor <;> omega), (by omega), hfr0, (fun n9 g9 h1 h2 j hj => by rw [hfo_1] at h1; obtain rfl := Option.some.inj h1; exact hxw g9 h2 j (by omega)), hT0⟩, by rw [ht]; exact hP, va_K.moved hW.alike hK, pl_in hD⟩, hS.F ht⟩) hS.2.2 dX7_ageBy_167
                · skip
                  rw [Int32.le_iff_toInt_le] at c_132
                  obtain ⟨g_134, hfo_133, hbg_134⟩ := un_538 (hG _ mo2) ko2
                  have hwwg_134 := hxw g_134 hfo_133
                  refine lv_aload_n hx hb dX7_ageBy_80 rfl (lv_at hl 6 rfl) ?_
                  refine lv_iload hx hb dX7_ageBy_81 (lv_at hl 0 rfl) ?_
                  refine tk_ildP hx hb hK hP 0 mo2 hfo_133 rfl (vp_in_iff.mpr (by constructor <;> omega)) dX7_ageBy_83 ?_
                  refine lv_topi (fun x_135 ex_135 => ?_)
                  have hx_135 := hwwg_134 (Int32.toNatClampNeg y_121) (by have hc9 := cl_I (i := y_121) (by omega); omega)
                  rw [← ex_135] at hx_135
                  have hdx_135 := hbg_134 (Int32.toNatClampNeg y_121)
                  rw [← ex_135] at hdx_135
                  have bx_135 : (1 ≤ x_135.toInt ∧ x_135.toInt ≤ 8) := by constructor <;> omega
                  refine lv_istore (lv' := [(8, .int x_135), (7, .int y_121), (6, .int y_122), (5, .int y_123), (4, .ref a_26), (0, .ref o0), (1, .int p1), (2, .ref o2), (3, .int p3)]) hx hb dX7_ageBy_84 hl (by decide) rfl (fun ls hl => ?_)
                  refine lv_iload hx hb dX7_ageBy_86 (lv_at hl 0 rfl) ?_
                  refine lv_aload hx hb dX7_ageBy_88 (lv_at hl 4 rfl) ?_
                  refine tk_getP (D := (dC, dI)) (ci := 4) (v := .int v_28) (C := RX4) (T := TX4) (N := 11) hx hb hU inlX4 hown hK hP ma_26 hfo_130 rfl 0 (by decide) (hU _ wd_1108) (fun _ h9 => h9) rfl dX7_ageBy_90 ?_
                  refine lv_icmp_ne (tgt := 120) hx hb dX7_ageBy_93 (by decide) (fun c_136 => ?_) (fun c_136 => ?_)
                  · skip
                    rw [← Int32.toInt_inj] at c_136
                    refine lv_iload hx hb dX7_ageBy_120 (lv_at hl 0 rfl) ?_
                    refine lv_if_eq (tgt := 134) hx hb dX7_ageBy_122 (by decide) (fun c_137 => ?_) (fun c_137 => ?_)
                    · skip
                      rw [← Int32.toInt_inj, ti_0] at c_137
                      exfalso
                      omega
                    · skip
                      rw [← Int32.toInt_inj, ti_0] at c_137
                      refine lv_aload_n hx hb dX7_ageBy_125 rfl (lv_at hl 7 rfl) ?_
                      refine lv_iload hx hb dX7_ageBy_126 (lv_at hl 2 rfl) ?_
                      refine lv_iload hx hb dX7_ageBy_128 (lv_at hl 0 rfl) ?_
                      refine tk_istP hx hb hK hP hD hS 0 mo2 hfo_133 rfl (vp_in_iff.mpr (by constructor <;> omega)) dX7_ageBy_130 (fun H locs hP hD hS => ?_)
                      obtain ⟨g_138, eqg_138⟩ : ∃ y : Nat → Int32, y = upd g_134 (Int32.toNatClampNeg y_122) x_135 := ⟨_, rfl⟩
                      rw [← eqg_138] at hP hD
                      have hbg_138 : ∀ j, 0 ≤ (g_138 j).toInt ∧ (g_138 j).toInt ≤ 8 := by rw [eqg_138]; exact okI_up hbg_134 (by constructor <;> omega) _
                      obtain ⟨f_140, ef_140⟩ : ∃ y : Nat → va_E, y = va_up f_125 o2 (.inl (cI, 2, .inl g_138)) := ⟨_, rfl⟩
                      have hP : va_P (dC, dI) vwCl (va_pl L f_140) H := by rw [ef_140]; exact hP
                      have hD : va_D (fun q => q ∈ L) (va_pl L f_140) := by rw [ef_140]; exact hD
                      have hG : GI (okc cI cL cZ cR cG cH L kd) kd L f_140 := by rw [ef_140]; exact hG.set o2 (mk_538 ko2 ⟨_, rfl, hbg_138⟩)
                      have hfo_141 : f_140 o0 = .inr (7, [.ref a_2, .int v_3, .ref a_4, .ref a_5, .ref a_6, .ref a_7, .int v_8, .ref a_9, .ref a_10, .ref a_11, .ref a_12, .ref a_13, .int v_14, .ref a_15, .ref a_16, .ref a_17]) := by rw [ef_140, up_ne (kd_ne ko2 ko0 (by decide))]; exact hfo_126
                      have hfo_142 : f_140 a_2 = .inl (cI, 26, .inl g_19) := by rw [ef_140, up_ne (kd_ne ko2 ka_2 (by decide))]; exact hfo_127
                      have hfo_143 : f_140 a_5 = .inl (cI, 81, .inl g_21) := by rw [ef_140, up_ne (kd_ne ko2 ka_5 (by decide))]; exact hfo_128
                      have hfo_144 : f_140 a_13 = .inl (cR, 8, .inr (.inr (.inr (.inr g_23)))) := by rw [ef_140, up_ne (kd_ne ko2 ka_13 (by decide))]; exact hfo_129
                      have hfo_145 : f_140 a_26 = .inr (4, [.int v_28, .int v_29, .int v_30, .int v_31, .ref a_32, .ref a_33, .ref a_34, .ref a_35, .int v_36, .int v_37, .int v_38]) := by rw [ef_140, up_ne (kd_ne ko2 ka_26 (by decide))]; exact hfo_130
                      have hfo_146 : f_140 a_17 = .inl (cI, 8, .inl g_83) := by rw [ef_140, up_ne (kd_ne ko2 ka_17 (by decide))]; exact hfo_131
                      have hfr0 : ∀ b, kd b ≠ 516 → kd b ≠ 538 → f_140 b = f b := fun b q516 q538 => (congrFun ef_140 b).trans ((up_ne (fun e9 => q538 (by rw [e9]; exact ko2))).trans (hfr0 b q516 q538))
                      have hT0 : trel kd 7 508 510 515 4 f_140 o0 := by rw [ef_140]; exact hT0.up ko2 (by decide) (by decide) (by decide) (by decide) (by decide)
                      have hfo_147 : f_140 o2 = .inl (cI, 2, .inl g_138) := by rw [ef_140]; exact up_self
                      obtain ⟨x_148, ex_148⟩ : ∃ y : Int32, y_122 + 1 = y := ⟨_, rfl⟩
                      have hx_148 : x_148.toInt = y_122.toInt + 1 := by rw [← ex_148, ad_I (by rw [ti_1]; omega) (by rw [ti_1]; omega), ti_1]
                      have bx_148 : (1 ≤ x_148.toInt ∧ x_148.toInt ≤ 3) := by constructor <;> omega
                      refine lv_iinc (v := x_148) (lv' := [(6, .int x_148), (8, .int x_135), (7, .int y_121), (5, .int y_123), (4, .ref a_26), (0, .ref o0), (1, .int p1), (2, .ref o2), (3, .int p3)]) hx hb dX7_ageBy_131 hl (k := 2) rfl ex_148 (by decide) rfl (fun ls hl => ?_)
                      refine lv_aload hx hb dX7_ageBy_134 (lv_at hl 4 rfl) ?_
                      refine tk_getP (D := (dC, dI)) (ci := 4) (v := .ref a_32) (C := RX4) (T := TX4) (N := 11) hx hb hU inlX4 hown hK hP ma_26 hfo_145 rfl 4 (by decide) (hU _ wd_1111) (fun _ h9 => h9) rfl dX7_ageBy_136 ?_
                      refine lv_iload hx hb dX7_ageBy_139 (lv_at hl 3 rfl) ?_
                      refine lv_aload_n hx hb dX7_ageBy_141 rfl (lv_at hl 5 rfl) ?_
                      refine tk_getP (D := (dC, dI)) (ci := 7) (v := .ref a_17) (C := RX7) (T := TX7) (N := 16) hx hb hU inlX7 hown hK hP mo0 hfo_141 rfl 15 (by decide) (hU _ wd_88) (fun _ h9 => h9) rfl dX7_ageBy_142 ?_
                      refine lv_iload hx hb dX7_ageBy_145 (lv_at hl 2 rfl) ?_
                      refine tk_ildP hx hb hK hP 0 ma_17 hfo_146 rfl (vp_in_iff.mpr (by constructor <;> omega)) dX7_ageBy_147 ?_
                      refine lv_topi (fun x_149 ex_149 => ?_)
                      have hx_149 := hrowg_83 (Int32.toNatClampNeg y_121) (by have hc9 := cl_I (i := y_121) (by omega); omega)
                      rw [← ex_149] at hx_149
                      have hdx_149 := hbg_83 (Int32.toNatClampNeg y_121)
                      rw [← ex_149] at hdx_149
                      have bx_149 : (0 ≤ x_149.toInt ∧ x_149.toInt ≤ 19) := by constructor <;> omega
                      obtain ⟨a_151, a_152, a_153, v_154, v_155, v_156, hfo_150, ⟨ma_151, ka_151⟩, ⟨ma_152, ka_152⟩, ⟨ma_153, ka_153⟩⟩ := un_5 (hG _ ma_32) ka_32
                      have bv_154 : ((-2147483648) ≤ v_154.toInt ∧ v_154.toInt ≤ 2147483647) := ⟨i32_lo _, i32_hi _⟩
                      have bv_155 : ((-2147483648) ≤ v_155.toInt ∧ v_155.toInt ≤ 2147483647) := ⟨i32_lo _, i32_hi _⟩
                      have bv_156 : ((-2147483648) ≤ v_156.toInt ∧ v_156.toInt ≤ 2147483647) := ⟨i32_lo _, i32_hi _⟩
                      refine tk_ViP (As := [.int y_123, .int x_149]) (rest := []) (n := 2) hx hb hml hown hU hN hZ (s_X5_step_k5 l (dC, dI) cI cL cZ cR cG cH Z kd L f_140 hG a_32 ma_32 ka_32 y_123 x_149 (by constructor <;> omega)) wd_1114 wd_833 wd_834 wd_102 wd_835 (by decide +kernel) ⟨Nat.le_of_ble_eq_true rfl, Nat.le_of_ble_eq_true rfl⟩ hK hP hD hS ma_32 hfo_150 5 rfl rfl rfl hl.1 rfl (Nat.le_of_ble_eq_true rfl) dX7_ageBy_148 ⟨Nat.le_of_ble_eq_true rfl, Nat.le_of_ble_eq_true rfl⟩ (fun x_157 f_158 H locs hw hP hD hS => ?_)
                      obtain ⟨rfl, bx_157⟩ := hw
                      refine lv_aload hx hb dX7_ageBy_151 (lv_at hl 4 rfl) ?_
                      refine tk_getP (D := (dC, dI)) (ci := 4) (v := .int v_37) (C := RX4) (T := TX4) (N := 11) hx hb hU inlX4 hown hK hP ma_26 hfo_145 rfl 9 (by decide) (hU _ wd_1112) (fun _ h9 => h9) rfl dX7_ageBy_153 ?_
                      refine lv_ior hx hb dX7_ageBy_156 ?_
                      refine lv_topi (fun x_160 ex_160 => ?_)
                      have bx_160 : ((-2147483648) ≤ x_160.toInt ∧ x_160.toInt ≤ 2147483647) := ⟨i32_lo _, i32_hi _⟩
                      refine lv_istore (lv' := [(5, .int x_160), (6, .int x_148), (8, .int x_135), (7, .int y_121), (4, .ref a_26), (0, .ref o0), (1, .int p1), (2, .ref o2), (3, .int p3)]) hx hb dX7_ageBy_157 hl (by decide) rfl (fun ls hl => ?_)
                      obtain ⟨x_161, ex_161⟩ : ∃ y : Int32, y_121 + 1 = y := ⟨_, rfl⟩
                      have hx_161 : x_161.toInt = y_121.toInt + 1 := by rw [← ex_161, ad_I (by rw [ti_1]; omega) (by rw [ti_1]; omega), ti_1]
                      have bx_161 : (1 ≤ x_161.toInt ∧ x_161.toInt ≤ 2) := by constructor <;> omega
                      refine lv_iinc (v := x_161) (lv' := [(7, .int x_161), (5, .int x_160), (6, .int x_148), (8, .int x_135), (4, .ref a_26), (0, .ref o0), (1, .int p1), (2, .ref o2), (3, .int p3)]) hx hb dX7_ageBy_159 hl (k := 3) rfl ex_161 (by decide) rfl (fun ls hl => ?_)
                      refine lv_goto (tgt := 74) hx hb dX7_ageBy_162 (by decide) ?_
                      exact ih_hloop_120 x_161 (by constructor <;> omega) x_148 (by constructor <;> omega) x_160 (by constructor <;> omega) f_140 hG _ _ hP hS hD hfr0 hfo_141 hfo_142 hfo_143 hfo_144 hfo_145 hfo_146 hT0 (by omega) (by omega) (fun g9 h9 j hj => by rw [hfo_147] at h9; cases h9; have hc9 := cl_I (i := y_122) (by omega); by_cases hji : j = Int32.toNatClampNeg y_122; (· rw [eqg_138, hji, pk_us]; constructor <;> omega); (· rw [eqg_138, pk_un hji]; exact hwwg_134 j hj)) (by omega) ls (lv_sub hl [0, 2, 1, 4, 5, 6, 7, 8] rfl)
                  · skip
                    rw [← Int32.toInt_inj] at c_136
                    refine lv_aload hx hb dX7_ageBy_96 (lv_at hl 4 rfl) ?_
                    refine lv_iload hx hb dX7_ageBy_98 (lv_at hl 3 rfl) ?_
                    refine lv_aload_n hx hb dX7_ageBy_100 rfl (lv_at hl 5 rfl) ?_
                    refine tk_getP (D := (dC, dI)) (ci := 7) (v := .ref a_17) (C := RX7) (T := TX7) (N := 16) hx hb hU inlX7 hown hK hP mo0 hfo_126 rfl 15 (by decide) (hU _ wd_88) (fun _ h9 => h9) rfl dX7_ageBy_101 ?_
                    refine lv_iload_n hx hb dX7_ageBy_104 rfl (lv_at hl 8 rfl) ?_
                    refine lv_iload hx hb dX7_ageBy_105 (lv_at hl 1 rfl) ?_
                    refine tk_ViP (As := [.int y_123, .ref a_17, .int p3, .int y_121]) (rest := []) (n := 4) hx hb hml hown hU hN hZ (s_X4_holdsAt_k4_a516_n l (dC, dI) cI cL cZ cR cG cH Z kd L f_125 hG a_26 ma_26 ka_26 y_123 a_17 ma_17 ka_17 p3 (by constructor <;> omega) y_121 (by constructor <;> omega) (fun g9 h9 j hj => by rw [hfo_131] at h9; cases h9; have h8 := hrowg_83 j (by omega); omega)) wd_1113 wd_1039 wd_1040 wd_90 wd_1041 (by decide +kernel) ⟨Nat.le_of_ble_eq_true rfl, Nat.le_of_ble_eq_true rfl⟩ hK hP hD hS ma_26 hfo_130 4 rfl rfl rfl hl.1 rfl (Nat.le_of_ble_eq_true rfl) dX7_ageBy_107 ⟨Nat.le_of_ble_eq_true rfl, Nat.le_of_ble_eq_true rfl⟩ (fun x_162 f_163 H locs hw hP hD hS => ?_)
                    obtain ⟨rfl, bx_162⟩ := hw
                    refine lv_if_eq (tgt := 120) hx hb dX7_ageBy_110 (by decide) (fun c_165 => ?_) (fun c_165 => ?_)
                    · skip
                      rw [← Int32.toInt_inj, ti_0] at c_165
                      refine lv_iload hx hb dX7_ageBy_120 (lv_at hl 0 rfl) ?_
                      refine lv_if_eq (tgt := 134) hx hb dX7_ageBy_122 (by decide) (fun c_166 => ?_) (fun c_166 => ?_)
                      · skip
                        rw [← Int32.toInt_inj, ti_0] at c_166
                        exfalso
                        omega
                      · skip
                        rw [← Int32.toInt_inj, ti_0] at c_166
                        refine lv_aload_n hx hb dX7_ageBy_125 rfl (lv_at hl 7 rfl) ?_
                        refine lv_iload hx hb dX7_ageBy_126 (lv_at hl 2 rfl) ?_
                        refine lv_iload hx hb dX7_ageBy_128 (lv_at hl 0 rfl) ?_
                        refine tk_istP hx hb hK hP hD hS 0 mo2 hfo_133 rfl (vp_in_iff.mpr (by constructor <;> omega)) dX7_ageBy_130 (fun H locs hP hD hS => ?_)
                        obtain ⟨g_167, eqg_167⟩ : ∃ y : Nat → Int32, y = upd g_134 (Int32.toNatClampNeg y_122) x_135 := ⟨_, rfl⟩
                        rw [← eqg_167] at hP hD
                        have hbg_167 : ∀ j, 0 ≤ (g_167 j).toInt ∧ (g_167 j).toInt ≤ 8 := by rw [eqg_167]; exact okI_up hbg_134 (by constructor <;> omega) _
                        obtain ⟨f_169, ef_169⟩ : ∃ y : Nat → va_E, y = va_up f_125 o2 (.inl (cI, 2, .inl g_167)) := ⟨_, rfl⟩
                        have hP : va_P (dC, dI) vwCl (va_pl L f_169) H := by rw [ef_169]; exact hP
                        have hD : va_D (fun q => q ∈ L) (va_pl L f_169) := by rw [ef_169]; exact hD
                        have hG : GI (okc cI cL cZ cR cG cH L kd) kd L f_169 := by rw [ef_169]; exact hG.set o2 (mk_538 ko2 ⟨_, rfl, hbg_167⟩)
                        have hfo_170 : f_169 o0 = .inr (7, [.ref a_2, .int v_3, .ref a_4, .ref a_5, .ref a_6, .ref a_7, .int v_8, .ref a_9, .ref a_10, .ref a_11, .ref a_12, .ref a_13, .int v_14, .ref a_15, .ref a_16, .ref a_17]) := by rw [ef_169, up_ne (kd_ne ko2 ko0 (by decide))]; exact hfo_126
                        have hfo_171 : f_169 a_2 = .inl (cI, 26, .inl g_19) := by rw [ef_169, up_ne (kd_ne ko2 ka_2 (by decide))]; exact hfo_127
                        have hfo_172 : f_169 a_5 = .inl (cI, 81, .inl g_21) := by rw [ef_169, up_ne (kd_ne ko2 ka_5 (by decide))]; exact hfo_128
                        have hfo_173 : f_169 a_13 = .inl (cR, 8, .inr (.inr (.inr (.inr g_23)))) := by rw [ef_169, up_ne (kd_ne ko2 ka_13 (by decide))]; exact hfo_129
                        have hfo_174 : f_169 a_26 = .inr (4, [.int v_28, .int v_29, .int v_30, .int v_31, .ref a_32, .ref a_33, .ref a_34, .ref a_35, .int v_36, .int v_37, .int v_38]) := by rw [ef_169, up_ne (kd_ne ko2 ka_26 (by decide))]; exact hfo_130
                        have hfo_175 : f_169 a_17 = .inl (cI, 8, .inl g_83) := by rw [ef_169, up_ne (kd_ne ko2 ka_17 (by decide))]; exact hfo_131
                        have hfr0 : ∀ b, kd b ≠ 516 → kd b ≠ 538 → f_169 b = f b := fun b q516 q538 => (congrFun ef_169 b).trans ((up_ne (fun e9 => q538 (by rw [e9]; exact ko2))).trans (hfr0 b q516 q538))
                        have hT0 : trel kd 7 508 510 515 4 f_169 o0 := by rw [ef_169]; exact hT0.up ko2 (by decide) (by decide) (by decide) (by decide) (by decide)
                        have hfo_176 : f_169 o2 = .inl (cI, 2, .inl g_167) := by rw [ef_169]; exact up_self
                        obtain ⟨x_177, ex_177⟩ : ∃ y : Int32, y_122 + 1 = y := ⟨_, rfl⟩
                        have hx_177 : x_177.toInt = y_122.toInt + 1 := by rw [← ex_177, ad_I (by rw [ti_1]; omega) (by rw [ti_1]; omega), ti_1]
                        have bx_177 : (1 ≤ x_177.toInt ∧ x_177.toInt ≤ 3) := by constructor <;> omega
                        refine lv_iinc (v := x_177) (lv' := [(6, .int x_177), (8, .int x_135), (7, .int y_121), (5, .int y_123), (4, .ref a_26), (0, .ref o0), (1, .int p1), (2, .ref o2), (3, .int p3)]) hx hb dX7_ageBy_131 hl (k := 2) rfl ex_177 (by decide) rfl (fun ls hl => ?_)
                        refine lv_aload hx hb dX7_ageBy_134 (lv_at hl 4 rfl) ?_
                        refine tk_getP (D := (dC, dI)) (ci := 4) (v := .ref a_32) (C := RX4) (T := TX4) (N := 11) hx hb hU inlX4 hown hK hP ma_26 hfo_174 rfl 4 (by decide) (hU _ wd_1111) (fun _ h9 => h9) rfl dX7_ageBy_136 ?_
                        refine lv_iload hx hb dX7_ageBy_139 (lv_at hl 3 rfl) ?_
                        refine lv_aload_n hx hb dX7_ageBy_141 rfl (lv_at hl 5 rfl) ?_
                        refine tk_getP (D := (dC, dI)) (ci := 7) (v := .ref a_17) (C := RX7) (T := TX7) (N := 16) hx hb hU inlX7 hown hK hP mo0 hfo_170 rfl 15 (by decide) (hU _ wd_88) (fun _ h9 => h9) rfl dX7_ageBy_142 ?_
                        refine lv_iload hx hb dX7_ageBy_145 (lv_at hl 2 rfl) ?_
                        refine tk_ildP hx hb hK hP 0 ma_17 hfo_175 rfl (vp_in_iff.mpr (by constructor <;> omega)) dX7_ageBy_147 ?_
                        refine lv_topi (fun x_178 ex_178 => ?_)
                        have hx_178 := hrowg_83 (Int32.toNatClampNeg y_121) (by have hc9 := cl_I (i := y_121) (by omega); omega)
                        rw [← ex_178] at hx_178
                        have hdx_178 := hbg_83 (Int32.toNatClampNeg y_121)
                        rw [← ex_178] at hdx_178
                        have bx_178 : (0 ≤ x_178.toInt ∧ x_178.toInt ≤ 19) := by constructor <;> omega
                        obtain ⟨a_180, a_181, a_182, v_183, v_184, v_185, hfo_179, ⟨ma_180, ka_180⟩, ⟨ma_181, ka_181⟩, ⟨ma_182, ka_182⟩⟩ := un_5 (hG _ ma_32) ka_32
                        have bv_183 : ((-2147483648) ≤ v_183.toInt ∧ v_183.toInt ≤ 2147483647) := ⟨i32_lo _, i32_hi _⟩
                        have bv_184 : ((-2147483648) ≤ v_184.toInt ∧ v_184.toInt ≤ 2147483647) := ⟨i32_lo _, i32_hi _⟩
                        have bv_185 : ((-2147483648) ≤ v_185.toInt ∧ v_185.toInt ≤ 2147483647) := ⟨i32_lo _, i32_hi _⟩
                        refine tk_ViP (As := [.int y_123, .int x_178]) (rest := []) (n := 2) hx hb hml hown hU hN hZ (s_X5_step_k5 l (dC, dI) cI cL cZ cR cG cH Z kd L f_169 hG a_32 ma_32 ka_32 y_123 x_178 (by constructor <;> omega)) wd_1114 wd_833 wd_834 wd_102 wd_835 (by decide +kernel) ⟨Nat.le_of_ble_eq_true rfl, Nat.le_of_ble_eq_true rfl⟩ hK hP hD hS ma_32 hfo_179 5 rfl rfl rfl hl.1 rfl (Nat.le_of_ble_eq_true rfl) dX7_ageBy_148 ⟨Nat.le_of_ble_eq_true rfl, Nat.le_of_ble_eq_true rfl⟩ (fun x_186 f_187 H locs hw hP hD hS => ?_)
                        obtain ⟨rfl, bx_186⟩ := hw
                        refine lv_aload hx hb dX7_ageBy_151 (lv_at hl 4 rfl) ?_
                        refine tk_getP (D := (dC, dI)) (ci := 4) (v := .int v_37) (C := RX4) (T := TX4) (N := 11) hx hb hU inlX4 hown hK hP ma_26 hfo_174 rfl 9 (by decide) (hU _ wd_1112) (fun _ h9 => h9) rfl dX7_ageBy_153 ?_
                        refine lv_ior hx hb dX7_ageBy_156 ?_
                        refine lv_topi (fun x_189 ex_189 => ?_)
                        have bx_189 : ((-2147483648) ≤ x_189.toInt ∧ x_189.toInt ≤ 2147483647) := ⟨i32_lo _, i32_hi _⟩
                        refine lv_istore (lv' := [(5, .int x_189), (6, .int x_177), (8, .int x_135), (7, .int y_121), (4, .ref a_26), (0, .ref o0), (1, .int p1), (2, .ref o2), (3, .int p3)]) hx hb dX7_ageBy_157 hl (by decide) rfl (fun ls hl => ?_)
                        obtain ⟨x_190, ex_190⟩ : ∃ y : Int32, y_121 + 1 = y := ⟨_, rfl⟩
                        have hx_190 : x_190.toInt = y_121.toInt + 1 := by rw [← ex_190, ad_I (by rw [ti_1]; omega) (by rw [ti_1]; omega), ti_1]
                        have bx_190 : (1 ≤ x_190.toInt ∧ x_190.toInt ≤ 2) := by constructor <;> omega
                        refine lv_iinc (v := x_190) (lv' := [(7, .int x_190), (5, .int x_189), (6, .int x_177), (8, .int x_135), (4, .ref a_26), (0, .ref o0), (1, .int p1), (2, .ref o2), (3, .int p3)]) hx hb dX7_ageBy_159 hl (k := 3) rfl ex_190 (by decide) rfl (fun ls hl => ?_)
                        refine lv_goto (tgt := 74) hx hb dX7_ageBy_162 (by decide) ?_
                        exact ih_hloop_120 x_190 (by constructor <;> omega) x_177 (by constructor <;> omega) x_189 (by constructor <;> omega) f_169 hG _ _ hP hS hD hfr0 hfo_170 hfo_171 hfo_172 hfo_173 hfo_174 hfo_175 hT0 (by omega) (by omega) (fun g9 h9 j hj => by rw [hfo_176] at h9; cases h9; have hc9 := cl_I (i := y_122) (by omega); by_cases hji : j = Int32.toNatClampNeg y_122; (· rw [eqg_167, hji, pk_us]; constructor <;> omega); (· rw [eqg_167, pk_un hji]; exact hwwg_134 j hj)) (by omega) ls (lv_sub hl [0, 2, 1, 4, 5, 6, 7, 8] rfl)
                    · skip
                      rw [← Int32.toInt_inj, ti_0] at c_165
                      refine lv_aload hx hb dX7_ageBy_113 (lv_at hl 4 rfl) ?_
                      refine tk_getP (D := (dC, dI)) (ci := 4) (v := .int v_29) (C := RX4) (T := TX4) (N := 11) hx hb hU inlX4 hown hK hP ma_26 hfo_130 rfl 1 (by decide) (hU _ wd_1110) (fun _ h9 => h9) rfl dX7_ageBy_115 ?_
                      refine lv_istore (lv' := [(8, .int v_29), (7, .int y_121), (6, .int y_122), (5, .int y_123), (4, .ref a_26), (0, .ref o0), (1, .int p1), (2, .ref o2), (3, .int p3)]) hx hb dX7_ageBy_118 hl (by decide) rfl (fun ls hl => ?_)
                      refine lv_iload hx hb dX7_ageBy_120 (lv_at hl 0 rfl) ?_
                      refine lv_if_eq (tgt := 134) hx hb dX7_ageBy_122 (by decide) (fun c_191 => ?_) (fun c_191 => ?_)
                      · skip
                        rw [← Int32.toInt_inj, ti_0] at c_191
                        refine lv_aload hx hb dX7_ageBy_134 (lv_at hl 4 rfl) ?_
                        refine tk_getP (D := (dC, dI)) (ci := 4) (v := .ref a_32) (C := RX4) (T := TX4) (N := 11) hx hb hU inlX4 hown hK hP ma_26 hfo_130 rfl 4 (by decide) (hU _ wd_1111) (fun _ h9 => h9) rfl dX7_ageBy_136 ?_
                        refine lv_iload hx hb dX7_ageBy_139 (lv_at hl 3 rfl) ?_
                        refine lv_aload_n hx hb dX7_ageBy_141 rfl (lv_at hl 5 rfl) ?_
                        refine tk_getP (D := (dC, dI)) (ci := 7) (v := .ref a_17) (C := RX7) (T := TX7) (N := 16) hx hb hU inlX7 hown hK hP mo0 hfo_126 rfl 15 (by decide) (hU _ wd_88) (fun _ h9 => h9) rfl dX7_ageBy_142 ?_
                        refine lv_iload hx hb dX7_ageBy_145 (lv_at hl 1 rfl) ?_
                        refine tk_ildP hx hb hK hP 0 ma_17 hfo_131 rfl (vp_in_iff.mpr (by constructor <;> omega)) dX7_ageBy_147 ?_
                        refine lv_topi (fun x_192 ex_192 => ?_)
                        have hx_192 := hrowg_83 (Int32.toNatClampNeg y_121) (by have hc9 := cl_I (i := y_121) (by omega); omega)
                        rw [← ex_192] at hx_192
                        have hdx_192 := hbg_83 (Int32.toNatClampNeg y_121)
                        rw [← ex_192] at hdx_192
                        have bx_192 : (0 ≤ x_192.toInt ∧ x_192.toInt ≤ 19) := by constructor <;> omega
                        obtain ⟨a_194, a_195, a_196, v_197, v_198, v_199, hfo_193, ⟨ma_194, ka_194⟩, ⟨ma_195, ka_195⟩, ⟨ma_196, ka_196⟩⟩ := un_5 (hG _ ma_32) ka_32
                        have bv_197 : ((-2147483648) ≤ v_197.toInt ∧ v_197.toInt ≤ 2147483647) := ⟨i32_lo _, i32_hi _⟩
                        have bv_198 : ((-2147483648) ≤ v_198.toInt ∧ v_198.toInt ≤ 2147483647) := ⟨i32_lo _, i32_hi _⟩
                        have bv_199 : ((-2147483648) ≤ v_199.toInt ∧ v_199.toInt ≤ 2147483647) := ⟨i32_lo _, i32_hi _⟩
                        refine tk_ViP (As := [.int y_123, .int x_192]) (rest := []) (n := 2) hx hb hml hown hU hN hZ (s_X5_step_k5 l (dC, dI) cI cL cZ cR cG cH Z kd L f_125 hG a_32 ma_32 ka_32 y_123 x_192 (by constructor <;> omega)) wd_1114 wd_833 wd_834 wd_102 wd_835 (by decide +kernel) ⟨Nat.le_of_ble_eq_true rfl, Nat.le_of_ble_eq_true rfl⟩ hK hP hD hS ma_32 hfo_193 5 rfl rfl rfl hl.1 rfl (Nat.le_of_ble_eq_true rfl) dX7_ageBy_148 ⟨Nat.le_of_ble_eq_true rfl, Nat.le_of_ble_eq_true rfl⟩ (fun x_200 f_201 H locs hw hP hD hS => ?_)
                        obtain ⟨rfl, bx_200⟩ := hw
                        refine lv_aload hx hb dX7_ageBy_151 (lv_at hl 4 rfl) ?_
                        refine tk_getP (D := (dC, dI)) (ci := 4) (v := .int v_37) (C := RX4) (T := TX4) (N := 11) hx hb hU inlX4 hown hK hP ma_26 hfo_130 rfl 9 (by decide) (hU _ wd_1112) (fun _ h9 => h9) rfl dX7_ageBy_153 ?_
                        refine lv_ior hx hb dX7_ageBy_156 ?_
                        refine lv_topi (fun x_203 ex_203 => ?_)
                        have bx_203 : ((-2147483648) ≤ x_203.toInt ∧ x_203.toInt ≤ 2147483647) := ⟨i32_lo _, i32_hi _⟩
                        refine lv_istore (lv' := [(5, .int x_203), (8, .int v_29), (7, .int y_121), (6, .int y_122), (4, .ref a_26), (0, .ref o0), (1, .int p1), (2, .ref o2), (3, .int p3)]) hx hb dX7_ageBy_157 hl (by decide) rfl (fun ls hl => ?_)
                        obtain ⟨x_204, ex_204⟩ : ∃ y : Int32, y_121 + 1 = y := ⟨_, rfl⟩
                        have hx_204 : x_204.toInt = y_121.toInt + 1 := by rw [← ex_204, ad_I (by rw [ti_1]; omega) (by rw [ti_1]; omega), ti_1]
                        have bx_204 : (1 ≤ x_204.toInt ∧ x_204.toInt ≤ 2) := by constructor <;> omega
                        refine lv_iinc (v := x_204) (lv' := [(7, .int x_204), (5, .int x_203), (8, .int v_29), (6, .int y_122), (4, .ref a_26), (0, .ref o0), (1, .int p1), (2, .ref o2), (3, .int p3)]) hx hb dX7_ageBy_159 hl (k := 2) rfl ex_204 (by decide) rfl (fun ls hl => ?_)
                        refine lv_goto (tgt := 74) hx hb dX7_ageBy_162 (by decide) ?_
                        exact ih_hloop_120 x_204 (by constructor <;> omega) y_122 (by constructor <;> omega) x_203 (by constructor <;> omega) f_125 hG _ _ hP hS hD hfr0 hfo_126 hfo_127 hfo_128 hfo_129 hfo_130 hfo_131 hT0 (by omega) (by omega) (fun g9 h9 j hj => by rw [hfo_133] at h9; cases h9; exact hwwg_134 j hj) (by omega) ls (lv_sub hl [0, 3, 1, 4, 5, 6, 7, 8] rfl)
                      · skip
                        rw [← Int32.toInt_inj, ti_0] at c_191
                        refine lv_aload_n hx hb dX7_ageBy_125 rfl (lv_at hl 7 rfl) ?_
                        refine lv_iload hx hb dX7_ageBy_126 (lv_at hl 2 rfl) ?_
                        refine lv_iload hx hb dX7_ageBy_128 (lv_at hl 0 rfl) ?_
                        refine tk_istP hx hb hK hP hD hS 0 mo2 hfo_133 rfl (vp_in_iff.mpr (by constructor <;> omega)) dX7_ageBy_130 (fun H locs hP hD hS => ?_)
                        obtain ⟨g_205, eqg_205⟩ : ∃ y : Nat → Int32, y = upd g_134 (Int32.toNatClampNeg y_122) v_29 := ⟨_, rfl⟩
                        rw [← eqg_205] at hP hD
                        have hbg_205 : ∀ j, 0 ≤ (g_205 j).toInt ∧ (g_205 j).toInt ≤ 8 := by rw [eqg_205]; exact okI_up hbg_134 (by constructor <;> omega) _
                        obtain ⟨f_207, ef_207⟩ : ∃ y : Nat → va_E, y = va_up f_125 o2 (.inl (cI, 2, .inl g_205)) := ⟨_, rfl⟩
                        have hP : va_P (dC, dI) vwCl (va_pl L f_207) H := by rw [ef_207]; exact hP
                        have hD : va_D (fun q => q ∈ L) (va_pl L f_207) := by rw [ef_207]; exact hD
                        have hG : GI (okc cI cL cZ cR cG cH L kd) kd L f_207 := by rw [ef_207]; exact hG.set o2 (mk_538 ko2 ⟨_, rfl, hbg_205⟩)
                        have hfo_208 : f_207 o0 = .inr (7, [.ref a_2, .int v_3, .ref a_4, .ref a_5, .ref a_6, .ref a_7, .int v_8, .ref a_9, .ref a_10, .ref a_11, .ref a_12, .ref a_13, .int v_14, .ref a_15, .ref a_16, .ref a_17]) := by rw [ef_207, up_ne (kd_ne ko2 ko0 (by decide))]; exact hfo_126
                        have hfo_209 : f_207 a_2 = .inl (cI, 26, .inl g_19) := by rw [ef_207, up_ne (kd_ne ko2 ka_2 (by decide))]; exact hfo_127
                        have hfo_210 : f_207 a_5 = .inl (cI, 81, .inl g_21) := by rw [ef_207, up_ne (kd_ne ko2 ka_5 (by decide))]; exact hfo_128
                        have hfo_211 : f_207 a_13 = .inl (cR, 8, .inr (.inr (.inr (.inr g_23)))) := by rw [ef_207, up_ne (kd_ne ko2 ka_13 (by decide))]; exact hfo_129
                        have hfo_212 : f_207 a_26 = .inr (4, [.int v_28, .int v_29, .int v_30, .int v_31, .ref a_32, .ref a_33, .ref a_34, .ref a_35, .int v_36, .int v_37, .int v_38]) := by rw [ef_207, up_ne (kd_ne ko2 ka_26 (by decide))]; exact hfo_130
                        have hfo_213 : f_207 a_17 = .inl (cI, 8, .inl g_83) := by rw [ef_207, up_ne (kd_ne ko2 ka_17 (by decide))]; exact hfo_131
                        have hfr0 : ∀ b, kd b ≠ 516 → kd b ≠ 538 → f_207 b = f b := fun b q516 q538 => (congrFun ef_207 b).trans ((up_ne (fun e9 => q538 (by rw [e9]; exact ko2))).trans (hfr0 b q516 q538))
                        have hT0 : trel kd 7 508 510 515 4 f_207 o0 := by rw [ef_207]; exact hT0.up ko2 (by decide) (by decide) (by decide) (by decide) (by decide)
                        have hfo_214 : f_207 o2 = .inl (cI, 2, .inl g_205) := by rw [ef_207]; exact up_self
                        obtain ⟨x_215, ex_215⟩ : ∃ y : Int32, y_122 + 1 = y := ⟨_, rfl⟩
                        have hx_215 : x_215.toInt = y_122.toInt + 1 := by rw [← ex_215, ad_I (by rw [ti_1]; omega) (by rw [ti_1]; omega), ti_1]
                        have bx_215 : (1 ≤ x_215.toInt ∧ x_215.toInt ≤ 3) := by constructor <;> omega
                        refine lv_iinc (v := x_215) (lv' := [(6, .int x_215), (8, .int v_29), (7, .int y_121), (5, .int y_123), (4, .ref a_26), (0, .ref o0), (1, .int p1), (2, .ref o2), (3, .int p3)]) hx hb dX7_ageBy_131 hl (k := 2) rfl ex_215 (by decide) rfl (fun ls hl => ?_)
                        refine lv_aload hx hb dX7_ageBy_134 (lv_at hl 4 rfl) ?_
                        refine tk_getP (D := (dC, dI)) (ci := 4) (v := .ref a_32) (C := RX4) (T := TX4) (N := 11) hx hb hU inlX4 hown hK hP ma_26 hfo_212 rfl 4 (by decide) (hU _ wd_1111) (fun _ h9 => h9) rfl dX7_ageBy_136 ?_
                        refine lv_iload hx hb dX7_ageBy_139 (lv_at hl 3 rfl) ?_
                        refine lv_aload_n hx hb dX7_ageBy_141 rfl (lv_at hl 5 rfl) ?_
                        refine tk_getP (D := (dC, dI)) (ci := 7) (v := .ref a_17) (C := RX7) (T := TX7) (N := 16) hx hb hU inlX7 hown hK hP mo0 hfo_208 rfl 15 (by decide) (hU _ wd_88) (fun _ h9 => h9) rfl dX7_ageBy_142 ?_
                        refine lv_iload hx hb dX7_ageBy_145 (lv_at hl 2 rfl) ?_
                        refine tk_ildP hx hb hK hP 0 ma_17 hfo_213 rfl (vp_in_iff.mpr (by constructor <;> omega)) dX7_ageBy_147 ?_
                        refine lv_topi (fun x_216 ex_216 => ?_)
                        have hx_216 := hrowg_83 (Int32.toNatClampNeg y_121) (by have hc9 := cl_I (i := y_121) (by omega); omega)
                        rw [← ex_216] at hx_216
                        have hdx_216 := hbg_83 (Int32.toNatClampNeg y_121)
                        rw [← ex_216] at hdx_216
                        have bx_216 : (0 ≤ x_216.toInt ∧ x_216.toInt ≤ 19) := by constructor <;> omega
                        obtain ⟨a_218, a_219, a_220, v_221, v_222, v_223, hfo_217, ⟨ma_218, ka_218⟩, ⟨ma_219, ka_219⟩, ⟨ma_220, ka_220⟩⟩ := un_5 (hG _ ma_32) ka_32
                        have bv_221 : ((-2147483648) ≤ v_221.toInt ∧ v_221.toInt ≤ 2147483647) := ⟨i32_lo _, i32_hi _⟩
                        have bv_222 : ((-2147483648) ≤ v_222.toInt ∧ v_222.toInt ≤ 2147483647) := ⟨i32_lo _, i32_hi _⟩
                        have bv_223 : ((-2147483648) ≤ v_223.toInt ∧ v_223.toInt ≤ 2147483647) := ⟨i32_lo _, i32_hi _⟩
                        refine tk_ViP (As := [.int y_123, .int x_216]) (rest := []) (n := 2) hx hb hml hown hU hN hZ (s_X5_step_k5 l (dC, dI) cI cL cZ cR cG cH Z kd L f_207 hG a_32 ma_32 ka_32 y_123 x_216 (by constructor <;> omega)) wd_1114 wd_833 wd_834 wd_102 wd_835 (by decide +kernel) ⟨Nat.le_of_ble_eq_true rfl, Nat.le_of_ble_eq_true rfl⟩ hK hP hD hS ma_32 hfo_217 5 rfl rfl rfl hl.1 rfl (Nat.le_of_ble_eq_true rfl) dX7_ageBy_148 ⟨Nat.le_of_ble_eq_true rfl, Nat.le_of_ble_eq_true rfl⟩ (fun x_224 f_225 H locs hw hP hD hS => ?_)
                        obtain ⟨rfl, bx_224⟩ := hw
                        refine lv_aload hx hb dX7_ageBy_151 (lv_at hl 4 rfl) ?_
                        refine tk_getP (D := (dC, dI)) (ci := 4) (v := .int v_37) (C := RX4) (T := TX4) (N := 11) hx hb hU inlX4 hown hK hP ma_26 hfo_212 rfl 9 (by decide) (hU _ wd_1112) (fun _ h9 => h9) rfl dX7_ageBy_153 ?_
                        refine lv_ior hx hb dX7_ageBy_156 ?_
                        refine lv_topi (fun x_227 ex_227 => ?_)
                        have bx_227 : ((-2147483648) ≤ x_227.toInt ∧ x_227.toInt ≤ 2147483647) := ⟨i32_lo _, i32_hi _⟩
                        refine lv_istore (lv' := [(5, .int x_227), (6, .int x_215), (8, .int v_29), (7, .int y_121), (4, .ref a_26), (0, .ref o0), (1, .int p1), (2, .ref o2), (3, .int p3)]) hx hb dX7_ageBy_157 hl (by decide) rfl (fun ls hl => ?_)
                        obtain ⟨x_228, ex_228⟩ : ∃ y : Int32, y_121 + 1 = y := ⟨_, rfl⟩
                        have hx_228 : x_228.toInt = y_121.toInt + 1 := by rw [← ex_228, ad_I (by rw [ti_1]; omega) (by rw [ti_1]; omega), ti_1]
                        have bx_228 : (1 ≤ x_228.toInt ∧ x_228.toInt ≤ 2) := by constructor <;> omega
                        refine lv_iinc (v := x_228) (lv' := [(7, .int x_228), (5, .int x_227), (6, .int x_215), (8, .int v_29), (4, .ref a_26), (0, .ref o0), (1, .int p1), (2, .ref o2), (3, .int p3)]) hx hb dX7_ageBy_159 hl (k := 3) rfl ex_228 (by decide) rfl (fun ls hl => ?_)
                        refine lv_goto (tgt := 74) hx hb dX7_ageBy_162 (by decide) ?_
                        exact ih_hloop_120 x_228 (by constructor <;> omega) x_215 (by constructor <;> omega) x_227 (by constructor <;> omega) f_207 hG _ _ hP hS hD hfr0 hfo_208 hfo_209 hfo_210 hfo_211 hfo_212 hfo_213 hT0 (by omega) (by omega) (fun g9 h9 j hj => by rw [hfo_214] at h9; cases h9; have hc9 := cl_I (i := y_122) (by omega); by_cases hji : j = Int32.toNatClampNeg y_122; (· rw [eqg_205, hji, pk_us]; constructor <;> omega); (· rw [eqg_205, pk_un hji]; exact hwwg_134 j hj)) (by omega) ls (lv_sub hl [0, 2, 1, 4, 5, 6, 7, 8] rfl)
            exact hloop_120 3 0 (by decide) 0 (by decide) v_36 (by constructor <;> omega) f_74 hG _ _ hP hS hD hfr0 hfo_75 hfo_76 hfo_77 hfo_78 hfo_80 hfo_82 hT0 (by (try rw [ti_0]) <;> omega) (by (try rw [ti_0]) <;> omega) (fun g9 h9 j hj => by rw [hfo_79] at h9; cases h9; exact hwd j hj) (by (try rw [ti_0]) <;> omega) ls hl
          · skip
            rw [Int32.le_iff_toInt_le] at c_81
            refine lv_aload_n hx hb dX7_ageBy_36 rfl (lv_at hl 2 rfl) ?_
            refine tk_getP (D := (dC, dI)) (ci := 7) (v := .ref a_17) (C := RX7) (T := TX7) (N := 16) hx hb hU inlX7 hown hK hP mo0 hfo_75 rfl 15 (by decide) (hU _ wd_88) (fun _ h9 => h9) rfl dX7_ageBy_37 ?_
            refine lv_iload hx hb dX7_ageBy_40 (lv_at hl 0 rfl) ?_
            refine lv_aload_n hx hb dX7_ageBy_42 rfl (lv_at hl 2 rfl) ?_
            refine lv_aload_n hx hb dX7_ageBy_43 rfl (lv_at hl 4 rfl) ?_
            refine lv_iload hx hb dX7_ageBy_44 (lv_at hl 0 rfl) ?_
            refine tk_ildP hx hb hK hP 0 mo2 hfo_79 rfl (vp_in_iff.mpr (by constructor <;> omega)) dX7_ageBy_46 ?_
            refine lv_topi (fun x_229 ex_229 => ?_)
            have hx_229 := hwd (Int32.toNatClampNeg y_72) (by have hc9 := cl_I (i := y_72) (by omega); omega)
            rw [← ex_229] at hx_229
            have hdx_229 := hbg_25 (Int32.toNatClampNeg y_72)
            rw [← ex_229] at hdx_229
            have bx_229 : (1 ≤ x_229.toInt ∧ x_229.toInt ≤ 8) := by constructor <;> omega
            refine lv_aload_n hx hb dX7_ageBy_47 rfl (lv_at hl 4 rfl) ?_
            refine lv_iload hx hb dX7_ageBy_48 (lv_at hl 0 rfl) ?_
            refine tk_ildP hx hb hK hP 0 mo2 hfo_79 rfl (vp_in_iff.mpr (by constructor <;> omega)) dX7_ageBy_50 ?_
            refine tk_topi (y := x_229) ex_229.symm ?_
            refine tk_ViP (As := [.int x_229, .int x_229]) (rest := [.int y_72, .ref a_17]) (n := 2) hx hb hml hown hU hN hZ (s_X7_pairOf_k7_d l (dC, dI) cI cL cZ cR cG cH Z kd L f_74 hG o0 mo0 ko0 x_229 (by constructor <;> omega) x_229 (by constructor <;> omega) (by omega) hT0 (fun n9 h9 => by rw [hfo_75] at h9; obtain rfl := Option.some.inj h9; omega)) wd_392 wd_393 wd_394 wd_28 wd_395 (by decide +kernel) ⟨Nat.le_of_ble_eq_true rfl, Nat.le_of_ble_eq_true rfl⟩ hK hP hD hS mo0 hfo_75 7 rfl rfl rfl hl.1 rfl (Nat.le_of_ble_eq_true rfl) dX7_ageBy_51 ⟨Nat.le_of_ble_eq_true rfl, Nat.le_of_ble_eq_true rfl⟩ (fun x_230 f_231 H locs hw hP hD hS => ?_)
            obtain ⟨rfl, bx_230⟩ := hw
            obtain ⟨g_234, hfo_233, hbg_234⟩ := un_516 (hG _ ma_17) ka_17
            refine tk_istP hx hb hK hP hD hS 0 ma_17 hfo_233 rfl (vp_in_iff.mpr (by constructor <;> omega)) dX7_ageBy_54 (fun H locs hP hD hS => ?_)
            obtain ⟨g_235, eqg_235⟩ : ∃ y : Nat → Int32, y = upd g_234 (Int32.toNatClampNeg y_72) x_230 := ⟨_, rfl⟩
            rw [← eqg_235] at hP hD
            have hbg_235 : ∀ j, (-1) ≤ (g_235 j).toInt ∧ (g_235 j).toInt ≤ 19 := by rw [eqg_235]; exact okI_up hbg_234 (by constructor <;> omega) _
            obtain ⟨f_237, ef_237⟩ : ∃ y : Nat → va_E, y = va_up f_74 a_17 (.inl (cI, 8, .inl g_235)) := ⟨_, rfl⟩
            have hP : va_P (dC, dI) vwCl (va_pl L f_237) H := by rw [ef_237]; exact hP
            have hD : va_D (fun q => q ∈ L) (va_pl L f_237) := by rw [ef_237]; exact hD
            have hG : GI (okc cI cL cZ cR cG cH L kd) kd L f_237 := by rw [ef_237]; exact hG.set a_17 (mk_516 ka_17 ⟨_, rfl, hbg_235⟩)
            have hfo_238 : f_237 o0 = .inr (7, [.ref a_2, .int v_3, .ref a_4, .ref a_5, .ref a_6, .ref a_7, .int v_8, .ref a_9, .ref a_10, .ref a_11, .ref a_12, .ref a_13, .int v_14, .ref a_15, .ref a_16, .ref a_17]) := by rw [ef_237, up_ne (kd_ne ka_17 ko0 (by decide))]; exact hfo_75
            have hfo_239 : f_237 a_2 = .inl (cI, 26, .inl g_19) := by rw [ef_237, up_ne (kd_ne ka_17 ka_2 (by decide))]; exact hfo_76
            have hfo_240 : f_237 a_5 = .inl (cI, 81, .inl g_21) := by rw [ef_237, up_ne (kd_ne ka_17 ka_5 (by decide))]; exact hfo_77
            have hfo_241 : f_237 a_13 = .inl (cR, 8, .inr (.inr (.inr (.inr g_23)))) := by rw [ef_237, up_ne (kd_ne ka_17 ka_13 (by decide))]; exact hfo_78
            have hfo_242 : f_237 o2 = .inl (cI, 2, .inl g_25) := by rw [ef_237, up_ne (kd_ne ka_17 ko2 (by decide))]; exact hfo_79
            have hfo_243 : f_237 a_26 = .inr (4, [.int v_28, .int v_29, .int v_30, .int v_31, .ref a_32, .ref a_33, .ref a_34, .ref a_35, .int v_36, .int v_37, .int v_38]) := by rw [ef_237, up_ne (kd_ne ka_17 ka_26 (by decide))]; exact hfo_80
            have hfr0 : ∀ b, kd b ≠ 516 → kd b ≠ 538 → f_237 b = f b := fun b q516 q538 => (congrFun ef_237 b).trans ((up_ne (fun e9 => q516 (by rw [e9]; exact ka_17))).trans (hfr0 b q516 q538))
            have hT0 : trel kd 7 508 510 515 4 f_237 o0 := by rw [ef_237]; exact hT0.up ka_17 (by decide) (by decide) (by decide) (by decide) (by decide)
            have hfo_244 : f_237 a_17 = .inl (cI, 8, .inl g_235) := by rw [ef_237]; exact up_self
            obtain ⟨x_245, ex_245⟩ : ∃ y : Int32, y_72 + 1 = y := ⟨_, rfl⟩
            have hx_245 : x_245.toInt = y_72.toInt + 1 := by rw [← ex_245, ad_I (by rw [ti_1]; omega) (by rw [ti_1]; omega), ti_1]
            have bx_245 : (1 ≤ x_245.toInt ∧ x_245.toInt ≤ 2) := by constructor <;> omega
            refine lv_iinc (v := x_245) (lv' := [(5, .int x_245), (4, .ref a_26), (0, .ref o0), (1, .int p1), (2, .ref o2), (3, .int p3)]) hx hb dX7_ageBy_55 hl (k := 0) rfl ex_245 (by decide) rfl (fun ls hl => ?_)
            refine lv_goto (tgt := 30) hx hb dX7_ageBy_58 (by decide) ?_
            exact ih_hloop_71 x_245 (by constructor <;> omega) f_237 hG _ _ hP hS hD hfr0 hfo_238 hfo_239 hfo_240 hfo_241 hfo_242 hfo_243 hT0 (fun g9 h9 j hj => by rw [hfo_244] at h9; cases h9; have hc9 := cl_I (i := y_72) (by omega); by_cases hji : j = Int32.toNatClampNeg y_72; (· rw [eqg_235, hji, pk_us]; omega); (· rw [eqg_235, pk_un hji]; exact hxr g_234 hfo_233 j (by omega))) (by omega) ls (lv_sub hl [0, 1, 2, 3, 4, 5] rfl)
      exact hloop_71 3 0 (by decide) f hG _ _ hP hS hD hfr0 hfo_1 hfo_18 hfo_20 hfo_22 hfo_24 hfo_27 hT0 (fun g9 _ j hj => by exfalso; have h3 : ((0 : Int32)).toInt = 0 := rfl; omega) (by (try rw [ti_0]) <;> omega) ls hl
    · skip
      rw [← Int32.toInt_inj, ti_0] at c_40
      refine lv_iload_n hx hb dX7_ageBy_25 rfl (lv_at hl 4 rfl) ?_
      exact W.iret (v := p3) hx hb hr (fun t ht hW => ⟨⟨p3, f, rfl, ⟨hG, (by constructor <;> omega), (by omega), hfr0, (fun n9 g9 h1 h2 j hj => hxpre0 n9 g9 h1 h2 j (by omega)), hT0⟩, by rw [ht]; exact hP, va_K.moved hW.alike hK, pl_in hD⟩, hS.F ht⟩) hS.2.2 dX7_ageBy_26
