set_option maxHeartbeats 8000000 in
set_option maxRecDepth 100000 in
theorem s_X0_noteSaid_k0_k3 (l : Launch) (D : va_G) (cI cL cZ cR cG cH : ClassId) (Z : zT) (kd : Nat → Nat) (L : List Nat) (f : Nat → va_E) (hG : GI (okc cI cL cZ cR cG cH L kd) kd L f) (o0 : Nat) (mo0 : o0 ∈ L) (ko0 : kd o0 = 0) (o1 : Nat) (mo1 : o1 ∈ L) (ko1 : kd o1 = 3) (p2 : Int32) (bp2 : (0 ≤ p2.toInt ∧ p2.toInt ≤ 72)) : mPV l D cI cL cZ cR cG cH Z yX0_noteSaid cX0_noteSaid 6 none 1 21 [.ref o0, .ref o1, .int p2] L f (fun (f9 : Nat → va_E) => GI (okc cI cL cZ cR cG cH L kd) kd L f9 ∧ (∀ b, kd b ≠ 535 → f9 b = f b)) := by
  obtain ⟨dC, dI⟩ := D
  refine Met.ofW (cc := cX0_noteSaid) (maxL := 6) (ret := none) (by decide) rfl ?_
  intro p e s m args below meth c s₁ B hml hv
  obtain ⟨rfl, hP, hK, hD0, hN, hZ⟩ := hv
  have hx := B.exec
  have hb := B.bytes
  have hr := B.returns
  have hU : ∀ w ∈ wsU, w.before _ s = true := fun w h => atoms_spec (ws := wU yX0_noteSaid cX0_noteSaid 6 none) B.pre w (List.mem_cons_of_mem _ h)
  have hown : s.vm.findClass RX0 = some m.cls := findClass_of_methodNamed B.named
  have hlocks := B.notSynchronized
  have hD := pl_in hD0
  have hS : va_S (fun q => q ∈ L) s.heap s.heap [] := va_S.rf
  have hl := lv_entry ([.ref o0, .ref o1, .int p2]) (n := 6) (Nat.le_of_ble_eq_true rfl)
  rw [lg_entry_eq]
  generalize (lg_sl ([.ref o0, .ref o1, .int p2]) ++ List.replicate (6 - (lg_sl ([.ref o0, .ref o1, .int p2])).length) Slot.unset).toArray = ls at hl ⊢
  have hl : lv_has ls 6 [(0, .ref o0), (1, .ref o1), (2, .int p2)] := hl
  have hfr0 : ∀ b, kd b ≠ 535 → f b = f b := fun _ _ => rfl
  refine lv_iconst (v := 0) hx hb dX0_noteSaid_0 (by decide) ?_
  refine lv_istore_n (lv' := [(3, .int 0), (0, .ref o0), (1, .ref o1), (2, .int p2)]) hx hb dX0_noteSaid_1 rfl hl (by decide) rfl (fun ls hl => ?_)
  have hloop_13 : ∀ (n : Nat), ∀ (y_14 : Int32), (0 ≤ y_14.toInt ∧ y_14.toInt ≤ 1024) → ∀ (f_16 : Nat → va_E), GI (okc cI cL cZ cR cG cH L kd) kd L f_16 → ∀ (H : Heap) (locs : List Loc), va_P (dC, dI) vwCl (va_pl L f_16) H → va_S (fun q => q ∈ L) s.heap H locs → va_D (fun q => q ∈ L) (va_pl L f_16) → (∀ b, kd b ≠ 535 → f_16 b = f b) → 1024 - y_14.toInt < (n : Int) → ∀ (ls : Array Slot), lv_has ls 6 [(3, .int y_14), (0, .ref o0), (1, .ref o1), (2, .int p2)] → W p l e (headSpec (wU yX0_noteSaid cX0_noteSaid 6 none) { frames := 1, cells := 0, slots := 0, locals := 21 }).room s m [.ref o0, .ref o1, .int p2].toArray below meth c H locs 0 0 (MQ below (va_Qv (fun (f9 : Nat → va_E) => GI (okc cI cL cZ cR cG cH L kd) kd L f9 ∧ (∀ b, kd b ≠ 535 → f9 b = f b)) (qP (dC, dI) cI cL cZ cR cG cH L) (fun q => q ∈ L)) [.ref o0, .ref o1, .int p2].toArray s 0 0 (fun q => q ∈ L)) (F0 m 2 ls []) := by
    intro n
    induction n with
    | zero => intro y_14 by_14 f_16 hG H locs hP hS hD hfr0 hmuhloop_13 ls hl; exfalso; omega
    | succ n ih_hloop_13 =>
      intro y_14 by_14 f_16 hG H locs hP hS hD hfr0 hmuhloop_13 ls hl
      refine lv_iload_n hx hb dX0_noteSaid_2 rfl (lv_at hl 0 rfl) ?_
      refine lv_aload_n hx hb dX0_noteSaid_3 rfl (lv_at hl 2 rfl) ?_
      obtain ⟨a_18, a_19, a_20, a_21, a_22, v_23, v_24, v_25, v_26, v_27, v_28, v_29, a_30, a_31, a_32, v_33, a_34, a_35, hfo_17, ⟨ma_18, ka_18⟩, ⟨ma_19, ka_19⟩, ⟨ma_20, ka_20⟩, ⟨ma_21, ka_21⟩, ⟨ma_22, ka_22⟩, bv_23, bv_24, bv_25, ⟨ma_30, ka_30⟩, ⟨ma_31, ka_31⟩, ⟨ma_32, ka_32⟩, bv_33, ⟨ma_34, ka_34⟩, ⟨ma_35, ka_35⟩⟩ := un_3 (hG _ mo1) ko1
      have bv_26 : ((-2147483648) ≤ v_26.toInt ∧ v_26.toInt ≤ 2147483647) := ⟨i32_lo _, i32_hi _⟩
      have bv_27 : ((-2147483648) ≤ v_27.toInt ∧ v_27.toInt ≤ 2147483647) := ⟨i32_lo _, i32_hi _⟩
      have bv_28 : ((-2147483648) ≤ v_28.toInt ∧ v_28.toInt ≤ 2147483647) := ⟨i32_lo _, i32_hi _⟩
      have bv_29 : ((-2147483648) ≤ v_29.toInt ∧ v_29.toInt ≤ 2147483647) := ⟨i32_lo _, i32_hi _⟩
      refine tk_getP (D := (dC, dI)) (ci := 3) (v := .int v_33) (C := RX3) (T := TX3) (N := 18) hx hb hU inlX3 hown hK hP mo1 hfo_17 rfl 15 (by decide) (hU _ wd_1221) (fun _ h9 => h9) rfl dX0_noteSaid_4 ?_
      refine lv_icmp_ge (tgt := 63) hx hb dX0_noteSaid_7 (by decide) (fun c_36 => ?_) (fun c_36 => ?_)
      · skip
        rw [Int32.le_iff_toInt_le] at c_36
        exact W.vret hx hb hr (fun t ht hW => ⟨⟨f_16, rfl, ⟨hG, hfr0⟩, by rw [ht]; exact hP, va_K.moved hW.alike hK, pl_in hD⟩, hS.F ht⟩) hS.2.2 dX0_noteSaid_63
      · skip
        rw [Int32.le_iff_toInt_le] at c_36
        refine lv_aload_n hx hb dX0_noteSaid_10 rfl (lv_at hl 2 rfl) ?_
        refine tk_getP (D := (dC, dI)) (ci := 3) (v := .ref a_31) (C := RX3) (T := TX3) (N := 18) hx hb hU inlX3 hown hK hP mo1 hfo_17 rfl 13 (by decide) (hU _ wd_1222) (fun _ h9 => h9) rfl dX0_noteSaid_11 ?_
        refine lv_iload_n hx hb dX0_noteSaid_14 rfl (lv_at hl 0 rfl) ?_
        obtain ⟨g_38, hfo_37, hbg_38⟩ := un_526 (hG _ ma_31) ka_31
        refine tk_ildP hx hb hK hP 0 ma_31 hfo_37 rfl (vp_in_iff.mpr (by constructor <;> omega)) dX0_noteSaid_15 ?_
        refine lv_topi (fun x_39 ex_39 => ?_)
        have bx_39 : (0 ≤ x_39.toInt ∧ x_39.toInt ≤ 387420488) := by rw [ex_39]; exact hbg_38 _
        refine lv_istore (lv' := [(4, .int x_39), (3, .int y_14), (0, .ref o0), (1, .ref o1), (2, .int p2)]) hx hb dX0_noteSaid_16 hl (by decide) rfl (fun ls hl => ?_)
        refine lv_iload hx hb dX0_noteSaid_18 (lv_at hl 0 rfl) ?_
        refine lv_iconst (v := 2) hx hb dX0_noteSaid_20 (by decide) ?_
        refine tk_SiP (As := [.int x_39, .int 2]) (rest := []) (n := 2) hx hb hml hown hU hN hZ (s_X10_signIn l (dC, dI) cI cL cZ cR cG cH Z kd L f_16 hG x_39 (by constructor <;> omega) 2 (by decide)) wd_1223 wd_988 wd_51 wd_989 (by decide +kernel) ⟨Nat.le_of_ble_eq_true rfl, Nat.le_of_ble_eq_true rfl⟩ hK hP hD hS rfl hl.1 rfl (Nat.le_of_ble_eq_true rfl) dX0_noteSaid_21 ⟨Nat.le_of_ble_eq_true rfl, Nat.le_of_ble_eq_true rfl⟩ (fun x_40 f_41 H locs hw hP hD hS => ?_)
        obtain ⟨rfl, bx_40⟩ := hw
        have hcut_47 : ∀ (f_44 : Nat → va_E), GI (okc cI cL cZ cR cG cH L kd) kd L f_44 → ∀ (H : Heap) (locs : List Loc), va_P (dC, dI) vwCl (va_pl L f_44) H → va_S (fun q => q ∈ L) s.heap H locs → va_D (fun q => q ∈ L) (va_pl L f_44) → (∀ b, kd b ≠ 535 → f_44 b = f b) → (f_44 o1 = .inr (3, [.ref a_18, .ref a_19, .ref a_20, .ref a_21, .ref a_22, .int v_23, .int v_24, .int v_25, .int v_26, .int v_27, .int v_28, .int v_29, .ref a_30, .ref a_31, .ref a_32, .int v_33, .ref a_34, .ref a_35])) → (f_44 a_31 = .inl (cI, 1024, .inl g_38)) → ∀ (ls : Array Slot), lv_has ls 6 [(4, .int x_39), (3, .int y_14), (0, .ref o0), (1, .ref o1), (2, .int p2)] → W p l e (headSpec (wU yX0_noteSaid cX0_noteSaid 6 none) { frames := 1, cells := 0, slots := 0, locals := 21 }).room s m [.ref o0, .ref o1, .int p2].toArray below meth c H locs 0 0 (MQ below (va_Qv (fun (f9 : Nat → va_E) => GI (okc cI cL cZ cR cG cH L kd) kd L f9 ∧ (∀ b, kd b ≠ 535 → f9 b = f b)) (qP (dC, dI) cI cL cZ cR cG cH L) (fun q => q ∈ L)) [.ref o0, .ref o1, .int p2].toArray s 0 0 (fun q => q ∈ L)) (F0 m 57 ls []) := by
          intro f_44 hG H locs hP hS hD hfr0 hfo_45 hfo_46 ls hl
          obtain ⟨x_48, ex_48⟩ : ∃ y : Int32, y_14 + 1 = y := ⟨_, rfl⟩
          have hx_48 : x_48.toInt = y_14.toInt + 1 := by rw [← ex_48, ad_I (by rw [ti_1]; omega) (by rw [ti_1]; omega), ti_1]
          have bx_48 : (1 ≤ x_48.toInt ∧ x_48.toInt ≤ 1024) := by constructor <;> omega
          refine lv_iinc (v := x_48) (lv' := [(3, .int x_48), (4, .int x_39), (0, .ref o0), (1, .ref o1), (2, .int p2)]) hx hb dX0_noteSaid_57 hl (k := 1) rfl ex_48 (by decide) rfl (fun ls hl => ?_)
          refine lv_goto (tgt := 2) hx hb dX0_noteSaid_60 (by decide) ?_
          exact ih_hloop_13 x_48 (by constructor <;> omega) f_44 hG _ _ hP hS hD hfr0 (by omega) ls (lv_sub hl [0, 2, 3, 4] rfl)
        refine lv_if_ne (tgt := 57) hx hb dX0_noteSaid_24 (by decide) (fun c_49 => ?_) (fun c_49 => ?_)
        · skip
          rw [← Int32.toInt_inj, ti_0] at c_49
          exact hcut_47 f_16 hG _ _ hP hS hD hfr0 hfo_17 hfo_37 ls (lv_sub hl [0, 1, 2, 3, 4] rfl)
        · skip
          rw [← Int32.toInt_inj, ti_0] at c_49
          refine lv_iload hx hb dX0_noteSaid_27 (lv_at hl 0 rfl) ?_
          refine lv_iconst (v := 0) hx hb dX0_noteSaid_29 (by decide) ?_
          refine tk_SiP (As := [.int x_39, .int 0]) (rest := []) (n := 2) hx hb hml hown hU hN hZ (s_X10_signIn l (dC, dI) cI cL cZ cR cG cH Z kd L f_16 hG x_39 (by constructor <;> omega) 0 (by decide)) wd_1223 wd_988 wd_51 wd_989 (by decide +kernel) ⟨Nat.le_of_ble_eq_true rfl, Nat.le_of_ble_eq_true rfl⟩ hK hP hD hS rfl hl.1 rfl (Nat.le_of_ble_eq_true rfl) dX0_noteSaid_30 ⟨Nat.le_of_ble_eq_true rfl, Nat.le_of_ble_eq_true rfl⟩ (fun x_50 f_51 H locs hw hP hD hS => ?_)
          obtain ⟨rfl, bx_50⟩ := hw
          refine lv_iload hx hb dX0_noteSaid_33 (lv_at hl 0 rfl) ?_
          refine lv_iconst (v := 1) hx hb dX0_noteSaid_35 (by decide) ?_
          refine tk_SiP (As := [.int x_39, .int 1]) (rest := [.int x_50]) (n := 2) hx hb hml hown hU hN hZ (s_X10_signIn l (dC, dI) cI cL cZ cR cG cH Z kd L f_16 hG x_39 (by constructor <;> omega) 1 (by decide)) wd_1223 wd_988 wd_51 wd_989 (by decide +kernel) ⟨Nat.le_of_ble_eq_true rfl, Nat.le_of_ble_eq_true rfl⟩ hK hP hD hS rfl hl.1 rfl (Nat.le_of_ble_eq_true rfl) dX0_noteSaid_36 ⟨Nat.le_of_ble_eq_true rfl, Nat.le_of_ble_eq_true rfl⟩ (fun x_53 f_54 H locs hw hP hD hS => ?_)
          obtain ⟨rfl, bx_53⟩ := hw
          refine tk_SiP (As := [.int x_50, .int x_53]) (rest := []) (n := 2) hx hb hml hown hU hN hZ (s_X0_numberOf l (dC, dI) cI cL cZ cR cG cH Z kd L f_16 hG x_50 (by constructor <;> omega) x_53 (by constructor <;> omega)) wd_1206 wd_1207 wd_37 wd_1208 (by decide +kernel) ⟨Nat.le_of_ble_eq_true rfl, Nat.le_of_ble_eq_true rfl⟩ hK hP hD hS rfl hl.1 rfl (Nat.le_of_ble_eq_true rfl) dX0_noteSaid_39 ⟨Nat.le_of_ble_eq_true rfl, Nat.le_of_ble_eq_true rfl⟩ (fun x_56 f_57 H locs hw hP hD hS => ?_)
          obtain ⟨rfl, bx_56⟩ := hw
          refine lv_istore (lv' := [(5, .int x_56), (4, .int x_39), (3, .int y_14), (0, .ref o0), (1, .ref o1), (2, .int p2)]) hx hb dX0_noteSaid_42 hl (by decide) rfl (fun ls hl => ?_)
          refine lv_aload_n hx hb dX0_noteSaid_44 rfl (lv_at hl 3 rfl) ?_
          obtain ⟨a_60, a_61, a_62, v_63, a_64, a_65, a_66, v_67, a_68, v_69, v_70, hfo_59, ⟨ma_60, ka_60⟩, ⟨ma_61, ka_61⟩, ⟨ma_62, ka_62⟩, bv_63, ⟨ma_64, ka_64⟩, ⟨ma_65, ka_65⟩, ⟨ma_66, ka_66⟩, ⟨ma_68, ka_68⟩⟩ := un_0 (hG _ mo0) ko0
          have bv_67 : ((-2147483648) ≤ v_67.toInt ∧ v_67.toInt ≤ 2147483647) := ⟨i32_lo _, i32_hi _⟩
          have bv_69 : ((-2147483648) ≤ v_69.toInt ∧ v_69.toInt ≤ 2147483647) := ⟨i32_lo _, i32_hi _⟩
          have bv_70 : ((-2147483648) ≤ v_70.toInt ∧ v_70.toInt ≤ 2147483647) := ⟨i32_lo _, i32_hi _⟩
          refine tk_getP (D := (dC, dI)) (ci := 0) (v := .ref a_61) (C := RX0) (T := TX0) (N := 11) hx hb hU inlX0 hown hK hP mo0 hfo_59 rfl 1 (by decide) (hU _ wd_158) (fun _ h9 => h9) rfl dX0_noteSaid_45 ?_
          refine lv_iload_n hx hb dX0_noteSaid_48 rfl (lv_at hl 5 rfl) ?_
          refine lv_bipush (v := 73) hx hb dX0_noteSaid_49 (by decide) ?_
          refine lv_imul hx hb dX0_noteSaid_51 ?_
          refine lv_topi (fun x_71 ex_71 => ?_)
          have hx_71 : x_71.toInt = p2.toInt * 73 := by rw [ex_71, ml_I (by rw [ti_73]; omega) (by rw [ti_73]; omega), ti_73]
          have bx_71 : (0 ≤ x_71.toInt ∧ x_71.toInt ≤ 5256) := by constructor <;> omega
          refine lv_iload hx hb dX0_noteSaid_52 (lv_at hl 0 rfl) ?_
          refine lv_iadd hx hb dX0_noteSaid_54 ?_
          refine lv_topi (fun x_72 ex_72 => ?_)
          have hx_72 : x_72.toInt = x_71.toInt + x_56.toInt := by rw [ex_72, ad_I (by omega) (by omega)]
          have bx_72 : (0 ≤ x_72.toInt ∧ x_72.toInt ≤ 5328) := by constructor <;> omega
          refine lv_iconst (v := 1) hx hb dX0_noteSaid_55 (by decide) ?_
          obtain ⟨g_74, hfo_73, hbg_74⟩ := un_535 (hG _ ma_61) ka_61
          refine tk_istP hx hb hK hP hD hS 0 ma_61 hfo_73 rfl (vp_in_iff.mpr (by constructor <;> omega)) dX0_noteSaid_56 (fun H locs hP hD hS => ?_)
          obtain ⟨f_76, ef_76⟩ : ∃ y : Nat → va_E, y = va_up f_16 a_61 (.inl (cI, 5329, .inl (upd g_74 (Int32.toNatClampNeg x_72) 1))) := ⟨_, rfl⟩
          have hP : va_P (dC, dI) vwCl (va_pl L f_76) H := by rw [ef_76]; exact hP
          have hD : va_D (fun q => q ∈ L) (va_pl L f_76) := by rw [ef_76]; exact hD
          have hG : GI (okc cI cL cZ cR cG cH L kd) kd L f_76 := by rw [ef_76]; exact hG.set a_61 (mk_535 ka_61 ⟨_, rfl, okI_up hbg_74 (by decide) _⟩)
          have hfo_77 : f_76 o1 = .inr (3, [.ref a_18, .ref a_19, .ref a_20, .ref a_21, .ref a_22, .int v_23, .int v_24, .int v_25, .int v_26, .int v_27, .int v_28, .int v_29, .ref a_30, .ref a_31, .ref a_32, .int v_33, .ref a_34, .ref a_35]) := by rw [ef_76, up_ne (kd_ne ka_61 ko1 (by decide))]; exact hfo_17
          have hfo_78 : f_76 a_31 = .inl (cI, 1024, .inl g_38) := by rw [ef_76, up_ne (kd_ne ka_61 ka_31 (by decide))]; exact hfo_37
          have hfo_79 : f_76 o0 = .inr (0, [.ref a_60, .ref a_61, .ref a_62, .int v_63, .ref a_64, .ref a_65, .ref a_66, .int v_67, .ref a_68, .int v_69, .int v_70]) := by rw [ef_76, up_ne (kd_ne ka_61 ko0 (by decide))]; exact hfo_59
          have hfr0 : ∀ b, kd b ≠ 535 → f_76 b = f b := fun b q535 => (congrFun ef_76 b).trans ((up_ne (fun e9 => q535 (by rw [e9]; exact ka_61))).trans (hfr0 b q535))
          have hfo_80 : f_76 a_61 = .inl (cI, 5329, .inl (upd g_74 (Int32.toNatClampNeg x_72) 1)) := by rw [ef_76]; exact up_self
          exact hcut_47 f_76 hG _ _ hP hS hD hfr0 hfo_77 hfo_78 ls (lv_sub hl [1, 2, 3, 4, 5] rfl)
  exact hloop_13 1025 0 (by decide) f hG _ _ hP hS hD hfr0 (by (try rw [ti_0]) <;> omega) ls hl
set_option maxHeartbeats 8000000 in
set_option maxRecDepth 100000 in
theorem s_X0_tryOrders_k0 (l : Launch) (D : va_G) (cI cL cZ cR cG cH : ClassId) (Z : zT) (kd : Nat → Nat) (L : List Nat) (n_ : Nat) (f : Nat → va_E) (hG : GI (okc cI cL cZ cR cG cH L kd) kd L f) (o0 : Nat) (mo0 : o0 ∈ L) (ko0 : kd o0 = 0) (p1 : Int32) (bp1 : (0 ≤ p1.toInt ∧ p1.toInt ≤ 6)) (p2 : Int32) (hrk : 6 - p1.toInt < (n_ : Int)) : mPV l D cI cL cZ cR cG cH Z yX0_tryOrders cX0_tryOrders 6 none (2 + n_) (63 + n_ * 25) [.ref o0, .int p1, .int p2] L f (fun (f9 : Nat → va_E) => GI (okc cI cL cZ cR cG cH L kd) kd L f9 ∧ (∀ b, kd b ≠ 0 → kd b ≠ 536 → kd b ≠ 537 → f9 b = f b)) := by
  obtain ⟨dC, dI⟩ := D
  induction n_ generalizing f o0 mo0 ko0 p1 bp1 p2 with
  | zero => exfalso; omega
  | succ n_ ih_ =>
    have ih_rec := ih_
    clear ih_
    refine Met.ofW (cc := cX0_tryOrders) (maxL := 6) (ret := none) (by decide) rfl ?_
    intro p e s m args below meth c s₁ B hml hv
    obtain ⟨rfl, hP, hK, hD0, hN, hZ⟩ := hv
    have hx := B.exec
    have hb := B.bytes
    have hr := B.returns
    have hU : ∀ w ∈ wsU, w.before _ s = true := fun w h => atoms_spec (ws := wU yX0_tryOrders cX0_tryOrders 6 none) B.pre w (List.mem_cons_of_mem _ h)
    have hown : s.vm.findClass RX0 = some m.cls := findClass_of_methodNamed B.named
    have hlocks := B.notSynchronized
    have hD := pl_in hD0
    have hS : va_S (fun q => q ∈ L) s.heap s.heap [] := va_S.rf
    have hl := lv_entry ([.ref o0, .int p1, .int p2]) (n := 6) (Nat.le_of_ble_eq_true rfl)
    rw [lg_entry_eq]
    generalize (lg_sl ([.ref o0, .int p1, .int p2]) ++ List.replicate (6 - (lg_sl ([.ref o0, .int p1, .int p2])).length) Slot.unset).toArray = ls at hl ⊢
    have hl : lv_has ls 6 [(0, .ref o0), (1, .int p1), (2, .int p2)] := hl
    have bp2 : ((-2147483648) ≤ p2.toInt ∧ p2.toInt ≤ 2147483647) := ⟨i32_lo _, i32_hi _⟩
    have hfr0 : ∀ b, kd b ≠ 0 → kd b ≠ 536 → kd b ≠ 537 → f b = f b := fun _ _ _ _ => rfl
    refine lv_iload_n hx hb dX0_tryOrders_0 rfl (lv_at hl 1 rfl) ?_
    refine lv_aload_n hx hb dX0_tryOrders_1 rfl (lv_at hl 0 rfl) ?_
    obtain ⟨a_2, a_3, a_4, v_5, a_6, a_7, a_8, v_9, a_10, v_11, v_12, hfo_1, ⟨ma_2, ka_2⟩, ⟨ma_3, ka_3⟩, ⟨ma_4, ka_4⟩, bv_5, ⟨ma_6, ka_6⟩, ⟨ma_7, ka_7⟩, ⟨ma_8, ka_8⟩, ⟨ma_10, ka_10⟩⟩ := un_0 (hG _ mo0) ko0
    have bv_9 : ((-2147483648) ≤ v_9.toInt ∧ v_9.toInt ≤ 2147483647) := ⟨i32_lo _, i32_hi _⟩
    have bv_11 : ((-2147483648) ≤ v_11.toInt ∧ v_11.toInt ≤ 2147483647) := ⟨i32_lo _, i32_hi _⟩
    have bv_12 : ((-2147483648) ≤ v_12.toInt ∧ v_12.toInt ≤ 2147483647) := ⟨i32_lo _, i32_hi _⟩
    refine tk_getP (D := (dC, dI)) (ci := 0) (v := .int v_5) (C := RX0) (T := TX0) (N := 11) hx hb hU inlX0 hown hK hP mo0 hfo_1 rfl 3 (by decide) (hU _ wd_1195) (fun _ h9 => h9) rfl dX0_tryOrders_2 ?_
    refine lv_icmp_lt (tgt := 14) hx hb dX0_tryOrders_5 (by decide) (fun c_13 => ?_) (fun c_13 => ?_)
    · skip
      rw [Int32.lt_iff_toInt_lt] at c_13
      refine lv_iconst (v := 0) hx hb dX0_tryOrders_14 (by decide) ?_
      refine lv_istore_n (lv' := [(3, .int 0), (0, .ref o0), (1, .int p1), (2, .int p2)]) hx hb dX0_tryOrders_15 rfl hl (by decide) rfl (fun ls hl => ?_)
      have hloop_27 : ∀ (n : Nat), ∀ (y_28 : Int32), (0 ≤ y_28.toInt ∧ y_28.toInt ≤ 6) → ∀ (f_30 : Nat → va_E), GI (okc cI cL cZ cR cG cH L kd) kd L f_30 → ∀ (H : Heap) (locs : List Loc), va_P (dC, dI) vwCl (va_pl L f_30) H → va_S (fun q => q ∈ L) s.heap H locs → va_D (fun q => q ∈ L) (va_pl L f_30) → (∀ b, kd b ≠ 0 → kd b ≠ 536 → kd b ≠ 537 → f_30 b = f b) → 6 - y_28.toInt < (n : Int) → ∀ (ls : Array Slot), lv_has ls 6 [(3, .int y_28), (0, .ref o0), (1, .int p1), (2, .int p2)] → W p l e (headSpec (wU yX0_tryOrders cX0_tryOrders 6 none) { frames := 2 + (n_ + 1), cells := 0, slots := 0, locals := 63 + (n_ + 1) * 25 }).room s m [.ref o0, .int p1, .int p2].toArray below meth c H locs 0 0 (MQ below (va_Qv (fun (f9 : Nat → va_E) => GI (okc cI cL cZ cR cG cH L kd) kd L f9 ∧ (∀ b, kd b ≠ 0 → kd b ≠ 536 → kd b ≠ 537 → f9 b = f b)) (qP (dC, dI) cI cL cZ cR cG cH L) (fun q => q ∈ L)) [.ref o0, .int p1, .int p2].toArray s 0 0 (fun q => q ∈ L)) (F0 m 16 ls []) := by
        intro n
        induction n with
        | zero => intro y_28 by_28 f_30 hG H locs hP hS hD hfr0 hmuhloop_27 ls hl; exfalso; omega
        | succ n ih_hloop_27 =>
          intro y_28 by_28 f_30 hG H locs hP hS hD hfr0 hmuhloop_27 ls hl
          refine lv_iload_n hx hb dX0_tryOrders_16 rfl (lv_at hl 0 rfl) ?_
          refine lv_aload_n hx hb dX0_tryOrders_17 rfl (lv_at hl 1 rfl) ?_
          obtain ⟨a_32, a_33, a_34, v_35, a_36, a_37, a_38, v_39, a_40, v_41, v_42, hfo_31, ⟨ma_32, ka_32⟩, ⟨ma_33, ka_33⟩, ⟨ma_34, ka_34⟩, bv_35, ⟨ma_36, ka_36⟩, ⟨ma_37, ka_37⟩, ⟨ma_38, ka_38⟩, ⟨ma_40, ka_40⟩⟩ := un_0 (hG _ mo0) ko0
          have bv_39 : ((-2147483648) ≤ v_39.toInt ∧ v_39.toInt ≤ 2147483647) := ⟨i32_lo _, i32_hi _⟩
          have bv_41 : ((-2147483648) ≤ v_41.toInt ∧ v_41.toInt ≤ 2147483647) := ⟨i32_lo _, i32_hi _⟩
          have bv_42 : ((-2147483648) ≤ v_42.toInt ∧ v_42.toInt ≤ 2147483647) := ⟨i32_lo _, i32_hi _⟩
          refine tk_getP (D := (dC, dI)) (ci := 0) (v := .int v_35) (C := RX0) (T := TX0) (N := 11) hx hb hU inlX0 hown hK hP mo0 hfo_31 rfl 3 (by decide) (hU _ wd_1195) (fun _ h9 => h9) rfl dX0_tryOrders_18 ?_
          refine lv_icmp_ge (tgt := 123) hx hb dX0_tryOrders_21 (by decide) (fun c_43 => ?_) (fun c_43 => ?_)
          · skip
            rw [Int32.le_iff_toInt_le] at c_43
            exact W.vret hx hb hr (fun t ht hW => ⟨⟨f_30, rfl, ⟨hG, hfr0⟩, by rw [ht]; exact hP, va_K.moved hW.alike hK, pl_in hD⟩, hS.F ht⟩) hS.2.2 dX0_tryOrders_123
          · skip
            rw [Int32.le_iff_toInt_le] at c_43
            refine lv_iload_n hx hb dX0_tryOrders_24 rfl (lv_at hl 3 rfl) ?_
            refine lv_iload_n hx hb dX0_tryOrders_25 rfl (lv_at hl 0 rfl) ?_
            refine lv_ishr hx hb dX0_tryOrders_26 ?_
            refine lv_topi (fun x_44 ex_44 => ?_)
            have bx_44 : ((-2147483648) ≤ x_44.toInt ∧ x_44.toInt ≤ 2147483647) := ⟨i32_lo _, i32_hi _⟩
            refine lv_iconst (v := 1) hx hb dX0_tryOrders_27 (by decide) ?_
            refine lv_iand hx hb dX0_tryOrders_28 ?_
            refine lv_topi (fun x_45 ex_45 => ?_)
            have bx_45 : (0 ≤ x_45.toInt ∧ x_45.toInt ≤ 1) := by rw [ex_45]; have h8 := an_C x_44 (m := 1) (by decide); rw [ti_1] at h8; exact h8
            have hcut_48 : ∀ (f_47 : Nat → va_E), GI (okc cI cL cZ cR cG cH L kd) kd L f_47 → ∀ (H : Heap) (locs : List Loc), va_P (dC, dI) vwCl (va_pl L f_47) H → va_S (fun q => q ∈ L) s.heap H locs → va_D (fun q => q ∈ L) (va_pl L f_47) → (∀ b, kd b ≠ 0 → kd b ≠ 536 → kd b ≠ 537 → f_47 b = f b) → ∀ (ls : Array Slot), lv_has ls 6 [(3, .int y_28), (0, .ref o0), (1, .int p1), (2, .int p2)] → W p l e (headSpec (wU yX0_tryOrders cX0_tryOrders 6 none) { frames := 2 + (n_ + 1), cells := 0, slots := 0, locals := 63 + (n_ + 1) * 25 }).room s m [.ref o0, .int p1, .int p2].toArray below meth c H locs 0 0 (MQ below (va_Qv (fun (f9 : Nat → va_E) => GI (okc cI cL cZ cR cG cH L kd) kd L f9 ∧ (∀ b, kd b ≠ 0 → kd b ≠ 536 → kd b ≠ 537 → f9 b = f b)) (qP (dC, dI) cI cL cZ cR cG cH L) (fun q => q ∈ L)) [.ref o0, .int p1, .int p2].toArray s 0 0 (fun q => q ∈ L)) (F0 m 117 ls []) := by
              intro f_47 hG H locs hP hS hD hfr0 ls hl
              obtain ⟨x_49, ex_49⟩ : ∃ y : Int32, y_28 + 1 = y := ⟨_, rfl⟩
              have hx_49 : x_49.toInt = y_28.toInt + 1 := by rw [← ex_49, ad_I (by rw [ti_1]; omega) (by rw [ti_1]; omega), ti_1]
              have bx_49 : (1 ≤ x_49.toInt ∧ x_49.toInt ≤ 6) := by constructor <;> omega
              refine lv_iinc (v := x_49) (lv' := [(3, .int x_49), (0, .ref o0), (1, .int p1), (2, .int p2)]) hx hb dX0_tryOrders_117 hl (k := 0) rfl ex_49 (by decide) rfl (fun ls hl => ?_)
              refine lv_goto (tgt := 16) hx hb dX0_tryOrders_120 (by decide) ?_
              exact ih_hloop_27 x_49 (by constructor <;> omega) f_47 hG _ _ hP hS hD hfr0 (by omega) ls (lv_sub hl [0, 1, 2, 3] rfl)
            refine lv_if_ne (tgt := 117) hx hb dX0_tryOrders_29 (by decide) (fun c_50 => ?_) (fun c_50 => ?_)
            · skip
              rw [← Int32.toInt_inj, ti_0] at c_50
              exact hcut_48 f_30 hG _ _ hP hS hD hfr0 ls (lv_sub hl [0, 1, 2, 3] rfl)
            · skip
              rw [← Int32.toInt_inj, ti_0] at c_50
              refine lv_aload_n hx hb dX0_tryOrders_32 rfl (lv_at hl 1 rfl) ?_
              refine tk_getP (D := (dC, dI)) (ci := 0) (v := .ref a_36) (C := RX0) (T := TX0) (N := 11) hx hb hU inlX0 hown hK hP mo0 hfo_31 rfl 4 (by decide) (hU _ wd_160) (fun _ h9 => h9) rfl dX0_tryOrders_33 ?_
              refine lv_iload_n hx hb dX0_tryOrders_36 rfl (lv_at hl 2 rfl) ?_
              refine lv_aload_n hx hb dX0_tryOrders_37 rfl (lv_at hl 1 rfl) ?_
              refine tk_getP (D := (dC, dI)) (ci := 0) (v := .ref a_34) (C := RX0) (T := TX0) (N := 11) hx hb hU inlX0 hown hK hP mo0 hfo_31 rfl 2 (by decide) (hU _ wd_159) (fun _ h9 => h9) rfl dX0_tryOrders_38 ?_
              refine lv_iload_n hx hb dX0_tryOrders_41 rfl (lv_at hl 0 rfl) ?_
              obtain ⟨g_52, hfo_51, hbg_52⟩ := un_536 (hG _ ma_34) ka_34
              refine tk_ildP hx hb hK hP 0 ma_34 hfo_51 rfl (vp_in_iff.mpr (by constructor <;> omega)) dX0_tryOrders_42 ?_
              refine lv_topi (fun x_53 ex_53 => ?_)
              have bx_53 : (0 ≤ x_53.toInt ∧ x_53.toInt ≤ 7) := by rw [ex_53]; exact hbg_52 _
              obtain ⟨g_55, hfo_54, hbg_55⟩ := un_536 (hG _ ma_36) ka_36
              refine tk_istP hx hb hK hP hD hS 0 ma_36 hfo_54 rfl (vp_in_iff.mpr (by constructor <;> omega)) dX0_tryOrders_43 (fun H locs hP hD hS => ?_)
              obtain ⟨f_57, ef_57⟩ : ∃ y : Nat → va_E, y = va_up f_30 a_36 (.inl (cI, 6, .inl (upd g_55 (Int32.toNatClampNeg p1) x_53))) := ⟨_, rfl⟩
              have hP : va_P (dC, dI) vwCl (va_pl L f_57) H := by rw [ef_57]; exact hP
              have hD : va_D (fun q => q ∈ L) (va_pl L f_57) := by rw [ef_57]; exact hD
              have hG : GI (okc cI cL cZ cR cG cH L kd) kd L f_57 := by rw [ef_57]; exact hG.set a_36 (mk_536 ka_36 ⟨_, rfl, okI_up hbg_55 (by constructor <;> omega) _⟩)
              have hfo_58 : f_57 o0 = .inr (0, [.ref a_32, .ref a_33, .ref a_34, .int v_35, .ref a_36, .ref a_37, .ref a_38, .int v_39, .ref a_40, .int v_41, .int v_42]) := by rw [ef_57, up_ne (kd_ne ka_36 ko0 (by decide))]; exact hfo_31
              have hfr0 : ∀ b, kd b ≠ 0 → kd b ≠ 536 → kd b ≠ 537 → f_57 b = f b := fun b q0 q536 q537 => (congrFun ef_57 b).trans ((up_ne (fun e9 => q536 (by rw [e9]; exact ka_36))).trans (hfr0 b q0 q536 q537))
              have hfo_59 : f_57 a_36 = .inl (cI, 6, .inl (upd g_55 (Int32.toNatClampNeg p1) x_53)) := by rw [ef_57]; exact up_self
              refine lv_iconst (v := 0) hx hb dX0_tryOrders_44 (by decide) ?_
              refine lv_istore (lv' := [(4, .int 0), (3, .int y_28), (0, .ref o0), (1, .int p1), (2, .int p2)]) hx hb dX0_tryOrders_45 hl (by decide) rfl (fun ls hl => ?_)
              have hloop_75 : ∀ (n : Nat), ∀ (y_76 : Int32), (0 ≤ y_76.toInt ∧ y_76.toInt ≤ 73) → ∀ (f_78 : Nat → va_E), GI (okc cI cL cZ cR cG cH L kd) kd L f_78 → ∀ (H : Heap) (locs : List Loc), va_P (dC, dI) vwCl (va_pl L f_78) H → va_S (fun q => q ∈ L) s.heap H locs → va_D (fun q => q ∈ L) (va_pl L f_78) → (∀ b, kd b ≠ 0 → kd b ≠ 536 → kd b ≠ 537 → f_78 b = f b) → (f_78 o0 = .inr (0, [.ref a_32, .ref a_33, .ref a_34, .int v_35, .ref a_36, .ref a_37, .ref a_38, .int v_39, .ref a_40, .int v_41, .int v_42])) → 73 - y_76.toInt < (n : Int) → ∀ (ls : Array Slot), lv_has ls 6 [(4, .int y_76), (3, .int y_28), (0, .ref o0), (1, .int p1), (2, .int p2)] → W p l e (headSpec (wU yX0_tryOrders cX0_tryOrders 6 none) { frames := 2 + (n_ + 1), cells := 0, slots := 0, locals := 63 + (n_ + 1) * 25 }).room s m [.ref o0, .int p1, .int p2].toArray below meth c H locs 0 0 (MQ below (va_Qv (fun (f9 : Nat → va_E) => GI (okc cI cL cZ cR cG cH L kd) kd L f9 ∧ (∀ b, kd b ≠ 0 → kd b ≠ 536 → kd b ≠ 537 → f9 b = f b)) (qP (dC, dI) cI cL cZ cR cG cH L) (fun q => q ∈ L)) [.ref o0, .int p1, .int p2].toArray s 0 0 (fun q => q ∈ L)) (F0 m 47 ls []) := by
                intro n
                induction n with
                | zero => intro y_76 by_76 f_78 hG H locs hP hS hD hfr0 hfo_79 hmuhloop_75 ls hl; exfalso; omega
                | succ n ih_hloop_75 =>
                  intro y_76 by_76 f_78 hG H locs hP hS hD hfr0 hfo_79 hmuhloop_75 ls hl
                  refine lv_iload hx hb dX0_tryOrders_47 (lv_at hl 0 rfl) ?_
                  refine lv_bipush (v := 73) hx hb dX0_tryOrders_49 (by decide) ?_
                  refine lv_icmp_ge (tgt := 105) hx hb dX0_tryOrders_51 (by decide) (fun c_80 => ?_) (fun c_80 => ?_)
                  · skip
                    rw [Int32.le_iff_toInt_le, ti_73] at c_80
                    refine lv_aload_n hx hb dX0_tryOrders_105 rfl (lv_at hl 2 rfl) ?_
                    refine lv_iload_n hx hb dX0_tryOrders_106 rfl (lv_at hl 3 rfl) ?_
                    refine lv_iconst (v := 1) hx hb dX0_tryOrders_107 (by decide) ?_
                    refine lv_iadd hx hb dX0_tryOrders_108 ?_
                    refine lv_topi (fun x_81 ex_81 => ?_)
                    have hx_81 : x_81.toInt = p1.toInt + 1 := by rw [ex_81, ad_I (by rw [ti_1]; omega) (by rw [ti_1]; omega), ti_1]
                    have bx_81 : (1 ≤ x_81.toInt ∧ x_81.toInt ≤ 6) := by constructor <;> omega
                    refine lv_iload_n hx hb dX0_tryOrders_109 rfl (lv_at hl 4 rfl) ?_
                    refine lv_iconst (v := 1) hx hb dX0_tryOrders_110 (by decide) ?_
                    refine lv_iload_n hx hb dX0_tryOrders_111 rfl (lv_at hl 1 rfl) ?_
                    refine lv_ishl hx hb dX0_tryOrders_112 ?_
                    refine lv_topi (fun x_82 ex_82 => ?_)
                    have bx_82 : (1 ≤ x_82.toInt ∧ x_82.toInt ≤ 128) := by rw [ex_82]; exact sh_7 (by constructor <;> omega)
                    refine lv_ior hx hb dX0_tryOrders_113 ?_
                    refine lv_topi (fun x_83 ex_83 => ?_)
                    have bx_83 : ((-2147483648) ≤ x_83.toInt ∧ x_83.toInt ≤ 2147483647) := ⟨i32_lo _, i32_hi _⟩
                    refine tk_VvP (As := [.int x_81, .int x_83]) (rest := []) (n := 2) hx hb hml hown hU hN hZ (ih_rec f_78 hG o0 mo0 ko0 x_81 (by constructor <;> omega) x_83 (by omega)) wd_1224 wd_1225 wd_1226 wd_37 wd_1227 (by decide +kernel) ⟨(show (2 + n_) + 1 ≤ 2 + (n_ + 1) by omega), (show 8 + (6 + 11) + (63 + n_ * 25) ≤ 63 + (n_ + 1) * 25 by omega)⟩ hK hP hD hS mo0 hfo_79 0 rfl rfl rfl hl.1 rfl (Nat.le_of_ble_eq_true rfl) dX0_tryOrders_114 ⟨Nat.le_of_ble_eq_true rfl, Nat.le_of_ble_eq_true rfl⟩ (fun f_85 H locs hw hP hD hS => ?_)
                    obtain ⟨hG, hkc_86⟩ := hw
                    have hfr0 : ∀ b, kd b ≠ 0 → kd b ≠ 536 → kd b ≠ 537 → f_85 b = f b := fun b q0 q536 q537 => (hkc_86 b q0 q536 q537).trans (hfr0 b q0 q536 q537)
                    exact hcut_48 f_85 hG _ _ hP hS hD hfr0 ls (lv_sub hl [1, 2, 3, 4] rfl)
                  · skip
                    rw [Int32.le_iff_toInt_le, ti_73] at c_80
                    refine lv_aload_n hx hb dX0_tryOrders_54 rfl (lv_at hl 2 rfl) ?_
                    refine tk_getP (D := (dC, dI)) (ci := 0) (v := .ref a_37) (C := RX0) (T := TX0) (N := 11) hx hb hU inlX0 hown hK hP mo0 hfo_79 rfl 5 (by decide) (hU _ wd_161) (fun _ h9 => h9) rfl dX0_tryOrders_55 ?_
                    refine lv_iload_n hx hb dX0_tryOrders_58 rfl (lv_at hl 3 rfl) ?_
                    refine lv_bipush (v := 73) hx hb dX0_tryOrders_59 (by decide) ?_
                    refine lv_imul hx hb dX0_tryOrders_61 ?_
                    refine lv_topi (fun x_88 ex_88 => ?_)
                    have hx_88 : x_88.toInt = p1.toInt * 73 := by rw [ex_88, ml_I (by rw [ti_73]; omega) (by rw [ti_73]; omega), ti_73]
                    have bx_88 : (0 ≤ x_88.toInt ∧ x_88.toInt ≤ 365) := by constructor <;> omega
                    refine lv_iload hx hb dX0_tryOrders_62 (lv_at hl 0 rfl) ?_
                    refine lv_iadd hx hb dX0_tryOrders_64 ?_
                    refine lv_topi (fun x_89 ex_89 => ?_)
                    have hx_89 : x_89.toInt = x_88.toInt + y_76.toInt := by rw [ex_89, ad_I (by omega) (by omega)]
                    have bx_89 : (0 ≤ x_89.toInt ∧ x_89.toInt ≤ 437) := by constructor <;> omega
                    obtain ⟨g_91, hfo_90, hbg_91⟩ := un_537 (hG _ ma_37) ka_37
                    refine tk_ildP hx hb hK hP 0 ma_37 hfo_90 rfl (vp_in_iff.mpr (by constructor <;> omega)) dX0_tryOrders_65 ?_
                    refine lv_topi (fun x_92 ex_92 => ?_)
                    have bx_92 : (0 ≤ x_92.toInt ∧ x_92.toInt ≤ 72) := by rw [ex_92]; exact hbg_91 _
                    refine lv_istore (lv' := [(5, .int x_92), (4, .int y_76), (3, .int y_28), (0, .ref o0), (1, .int p1), (2, .int p2)]) hx hb dX0_tryOrders_66 hl (by decide) rfl (fun ls hl => ?_)
                    refine lv_aload_n hx hb dX0_tryOrders_68 rfl (lv_at hl 3 rfl) ?_
                    refine tk_getP (D := (dC, dI)) (ci := 0) (v := .ref a_37) (C := RX0) (T := TX0) (N := 11) hx hb hU inlX0 hown hK hP mo0 hfo_79 rfl 5 (by decide) (hU _ wd_161) (fun _ h9 => h9) rfl dX0_tryOrders_69 ?_
                    refine lv_iload_n hx hb dX0_tryOrders_72 rfl (lv_at hl 4 rfl) ?_
                    refine lv_iconst (v := 1) hx hb dX0_tryOrders_73 (by decide) ?_
                    refine lv_iadd hx hb dX0_tryOrders_74 ?_
                    refine lv_topi (fun x_93 ex_93 => ?_)
                    have hx_93 : x_93.toInt = p1.toInt + 1 := by rw [ex_93, ad_I (by rw [ti_1]; omega) (by rw [ti_1]; omega), ti_1]
                    have bx_93 : (1 ≤ x_93.toInt ∧ x_93.toInt ≤ 6) := by constructor <;> omega
                    refine lv_bipush (v := 73) hx hb dX0_tryOrders_75 (by decide) ?_
                    refine lv_imul hx hb dX0_tryOrders_77 ?_
                    refine lv_topi (fun x_94 ex_94 => ?_)
                    have hx_94 : x_94.toInt = x_93.toInt * 73 := by rw [ex_94, ml_I (by rw [ti_73]; omega) (by rw [ti_73]; omega), ti_73]
                    have bx_94 : (73 ≤ x_94.toInt ∧ x_94.toInt ≤ 438) := by constructor <;> omega
                    refine lv_iload hx hb dX0_tryOrders_78 (lv_at hl 1 rfl) ?_
                    refine lv_iadd hx hb dX0_tryOrders_80 ?_
                    refine lv_topi (fun x_95 ex_95 => ?_)
                    have hx_95 : x_95.toInt = x_94.toInt + y_76.toInt := by rw [ex_95, ad_I (by omega) (by omega)]
                    have bx_95 : (73 ≤ x_95.toInt ∧ x_95.toInt ≤ 510) := by constructor <;> omega
                    refine lv_aload_n hx hb dX0_tryOrders_81 rfl (lv_at hl 3 rfl) ?_
                    refine tk_getP (D := (dC, dI)) (ci := 0) (v := .ref a_32) (C := RX0) (T := TX0) (N := 11) hx hb hU inlX0 hown hK hP mo0 hfo_79 rfl 0 (by decide) (hU _ wd_157) (fun _ h9 => h9) rfl dX0_tryOrders_82 ?_
                    refine lv_aload_n hx hb dX0_tryOrders_85 rfl (lv_at hl 3 rfl) ?_
                    refine tk_getP (D := (dC, dI)) (ci := 0) (v := .ref a_34) (C := RX0) (T := TX0) (N := 11) hx hb hU inlX0 hown hK hP mo0 hfo_79 rfl 2 (by decide) (hU _ wd_159) (fun _ h9 => h9) rfl dX0_tryOrders_86 ?_
                    refine lv_iload_n hx hb dX0_tryOrders_89 rfl (lv_at hl 2 rfl) ?_
                    obtain ⟨g_97, hfo_96, hbg_97⟩ := un_536 (hG _ ma_34) ka_34
                    refine tk_ildP hx hb hK hP 0 ma_34 hfo_96 rfl (vp_in_iff.mpr (by constructor <;> omega)) dX0_tryOrders_90 ?_
                    refine lv_topi (fun x_98 ex_98 => ?_)
                    have bx_98 : (0 ≤ x_98.toInt ∧ x_98.toInt ≤ 7) := by rw [ex_98]; exact hbg_97 _
                    refine lv_bipush (v := 73) hx hb dX0_tryOrders_91 (by decide) ?_
                    refine lv_imul hx hb dX0_tryOrders_93 ?_
                    refine lv_topi (fun x_99 ex_99 => ?_)
                    have hx_99 : x_99.toInt = x_98.toInt * 73 := by rw [ex_99, ml_I (by rw [ti_73]; omega) (by rw [ti_73]; omega), ti_73]
                    have bx_99 : (0 ≤ x_99.toInt ∧ x_99.toInt ≤ 511) := by constructor <;> omega
                    refine lv_iload hx hb dX0_tryOrders_94 (lv_at hl 0 rfl) ?_
                    refine lv_iadd hx hb dX0_tryOrders_96 ?_
                    refine lv_topi (fun x_100 ex_100 => ?_)
                    have hx_100 : x_100.toInt = x_99.toInt + x_92.toInt := by rw [ex_100, ad_I (by omega) (by omega)]
                    have bx_100 : (0 ≤ x_100.toInt ∧ x_100.toInt ≤ 583) := by constructor <;> omega
                    obtain ⟨g_102, hfo_101, hbg_102⟩ := un_534 (hG _ ma_32) ka_32
                    refine tk_ildP hx hb hK hP 0 ma_32 hfo_101 rfl (vp_in_iff.mpr (by constructor <;> omega)) dX0_tryOrders_97 ?_
                    refine lv_topi (fun x_103 ex_103 => ?_)
                    have bx_103 : (0 ≤ x_103.toInt ∧ x_103.toInt ≤ 72) := by rw [ex_103]; exact hbg_102 _
                    refine tk_istP hx hb hK hP hD hS 0 ma_37 hfo_90 rfl (vp_in_iff.mpr (by constructor <;> omega)) dX0_tryOrders_98 (fun H locs hP hD hS => ?_)
                    obtain ⟨f_105, ef_105⟩ : ∃ y : Nat → va_E, y = va_up f_78 a_37 (.inl (cI, 511, .inl (upd g_91 (Int32.toNatClampNeg x_95) x_103))) := ⟨_, rfl⟩
                    have hP : va_P (dC, dI) vwCl (va_pl L f_105) H := by rw [ef_105]; exact hP
                    have hD : va_D (fun q => q ∈ L) (va_pl L f_105) := by rw [ef_105]; exact hD
                    have hG : GI (okc cI cL cZ cR cG cH L kd) kd L f_105 := by rw [ef_105]; exact hG.set a_37 (mk_537 ka_37 ⟨_, rfl, okI_up hbg_91 (by constructor <;> omega) _⟩)
                    have hfo_106 : f_105 o0 = .inr (0, [.ref a_32, .ref a_33, .ref a_34, .int v_35, .ref a_36, .ref a_37, .ref a_38, .int v_39, .ref a_40, .int v_41, .int v_42]) := by rw [ef_105, up_ne (kd_ne ka_37 ko0 (by decide))]; exact hfo_79
                    have hfo_107 : f_105 a_34 = .inl (cI, 6, .inl g_97) := by rw [ef_105, up_ne (kd_ne ka_37 ka_34 (by decide))]; exact hfo_96
                    have hfo_108 : f_105 a_32 = .inl (cI, 584, .inl g_102) := by rw [ef_105, up_ne (kd_ne ka_37 ka_32 (by decide))]; exact hfo_101
                    have hfr0 : ∀ b, kd b ≠ 0 → kd b ≠ 536 → kd b ≠ 537 → f_105 b = f b := fun b q0 q536 q537 => (congrFun ef_105 b).trans ((up_ne (fun e9 => q537 (by rw [e9]; exact ka_37))).trans (hfr0 b q0 q536 q537))
                    have hfo_109 : f_105 a_37 = .inl (cI, 511, .inl (upd g_91 (Int32.toNatClampNeg x_95) x_103)) := by rw [ef_105]; exact up_self
                    obtain ⟨x_110, ex_110⟩ : ∃ y : Int32, y_76 + 1 = y := ⟨_, rfl⟩
                    have hx_110 : x_110.toInt = y_76.toInt + 1 := by rw [← ex_110, ad_I (by rw [ti_1]; omega) (by rw [ti_1]; omega), ti_1]
                    have bx_110 : (1 ≤ x_110.toInt ∧ x_110.toInt ≤ 73) := by constructor <;> omega
                    refine lv_iinc (v := x_110) (lv' := [(4, .int x_110), (5, .int x_92), (3, .int y_28), (0, .ref o0), (1, .int p1), (2, .int p2)]) hx hb dX0_tryOrders_99 hl (k := 1) rfl ex_110 (by decide) rfl (fun ls hl => ?_)
                    refine lv_goto (tgt := 47) hx hb dX0_tryOrders_102 (by decide) ?_
                    exact ih_hloop_75 x_110 (by constructor <;> omega) f_105 hG _ _ hP hS hD hfr0 hfo_106 (by omega) ls (lv_sub hl [0, 2, 3, 4, 5] rfl)
              exact hloop_75 74 0 (by decide) f_57 hG _ _ hP hS hD hfr0 hfo_58 (by (try rw [ti_0]) <;> omega) ls hl
      exact hloop_27 7 0 (by decide) f hG _ _ hP hS hD hfr0 (by (try rw [ti_0]) <;> omega) ls hl
    · skip
      rw [Int32.lt_iff_toInt_lt] at c_13
      refine lv_aload_n hx hb dX0_tryOrders_8 rfl (lv_at hl 0 rfl) ?_
      refine lv_iload_n hx hb dX0_tryOrders_9 rfl (lv_at hl 1 rfl) ?_
      refine tk_VvP (As := [.int p1]) (rest := []) (n := 1) hx hb hml hown hU hN hZ (s_X0_judge_k0 l (dC, dI) cI cL cZ cR cG cH Z kd L f hG o0 mo0 ko0 p1 (by constructor <;> omega)) wd_1228 wd_1229 wd_1230 wd_37 wd_1231 (by decide +kernel) ⟨(show 1 + 1 ≤ 2 + (n_ + 1) by omega), (show 8 + (4 + 11) + 40 ≤ 63 + (n_ + 1) * 25 by omega)⟩ hK hP hD hS mo0 hfo_1 0 rfl rfl rfl hl.1 rfl (Nat.le_of_ble_eq_true rfl) dX0_tryOrders_10 ⟨Nat.le_of_ble_eq_true rfl, Nat.le_of_ble_eq_true rfl⟩ (fun f_112 H locs hw hP hD hS => ?_)
      obtain ⟨hG, hkc_113⟩ := hw
      have hfr0 : ∀ b, kd b ≠ 0 → kd b ≠ 536 → kd b ≠ 537 → f_112 b = f b := fun b q0 q536 q537 => (hkc_113 b q0 q536).trans (hfr0 b q0 q536 q537)
      exact W.vret hx hb hr (fun t ht hW => ⟨⟨f_112, rfl, ⟨hG, hfr0⟩, by rw [ht]; exact hP, va_K.moved hW.alike hK, pl_in hD⟩, hS.F ht⟩) hS.2.2 dX0_tryOrders_13
set_option maxHeartbeats 8000000 in
set_option maxRecDepth 100000 in
theorem s_X7_signOf_k7_g (l : Launch) (D : va_G) (cI cL cZ cR cG cH : ClassId) (Z : zT) (kd : Nat → Nat) (L : List Nat) (f : Nat → va_E) (hG : GI (okc cI cL cZ cR cG cH L kd) kd L f) (o0 : Nat) (mo0 : o0 ∈ L) (ko0 : kd o0 = 7) (p1 : Int32) (hxtr0 : trel kd 7 508 510 515 4 f o0) : mPI l D cI cL cZ cR cG cH Z yX7_signOf cX7_signOf 2 (some .int) 0 0 [.ref o0, .int p1] L f (fun (r : Int32) (f9 : Nat → va_E) => f = f9 ∧ (0 ≤ r.toInt ∧ r.toInt ≤ 8) ∧ (∀ n9, fldI (f o0) 1 = some n9 → r.toInt ≤ n9.toInt) ∧ (∀ s9 g9, fldR (f o0) 0 = some s9 → f s9 = .inl (cI, 26, .inl g9) → r = sgf g9 p1)) := by
  obtain ⟨dC, dI⟩ := D
  refine Met.ofW (cc := cX7_signOf) (maxL := 2) (ret := (some .int)) (by decide) rfl ?_
  intro p e s m args below meth c s₁ B hml hv
  obtain ⟨rfl, hP, hK, hD0, hN, hZ⟩ := hv
  have hx := B.exec
  have hb := B.bytes
  have hr := B.returns
  have hU : ∀ w ∈ wsU, w.before _ s = true := fun w h => atoms_spec (ws := wU yX7_signOf cX7_signOf 2 (some .int)) B.pre w (List.mem_cons_of_mem _ h)
  have hown : s.vm.findClass RX7 = some m.cls := findClass_of_methodNamed B.named
  have hlocks := B.notSynchronized
  have hD := pl_in hD0
  have hS : va_S (fun q => q ∈ L) s.heap s.heap [] := va_S.rf
  have hl := lv_entry ([.ref o0, .int p1]) (n := 2) (Nat.le_of_ble_eq_true rfl)
  rw [lg_entry_eq]
  generalize (lg_sl ([.ref o0, .int p1]) ++ List.replicate (2 - (lg_sl ([.ref o0, .int p1])).length) Slot.unset).toArray = ls at hl ⊢
  have hl : lv_has ls 2 [(0, .ref o0), (1, .int p1)] := hl
  have bp1 : ((-2147483648) ≤ p1.toInt ∧ p1.toInt ≤ 2147483647) := ⟨i32_lo _, i32_hi _⟩
  have hT0 := hxtr0
  have hTq := hT0
  obtain ⟨a_2, v_3, a_4, a_5, a_6, a_7, v_8, a_9, a_10, a_11, a_12, a_13, v_14, a_15, a_16, a_17, hfo_1, ⟨ma_2, ka_2⟩, bv_3, ⟨ma_4, ka_4⟩, ⟨ma_5, ka_5⟩, ⟨ma_6, ka_6⟩, ⟨ma_7, ka_7⟩, bv_8, ⟨ma_9, ka_9⟩, ⟨ma_10, ka_10⟩, ⟨ma_11, ka_11⟩, ⟨ma_12, ka_12⟩, ⟨ma_13, ka_13⟩, bv_14, ⟨ma_15, ka_15⟩, ⟨ma_16, ka_16⟩, ⟨ma_17, ka_17⟩⟩ := un_7 (hG _ mo0) ko0
  obtain ⟨g_19, hfo_18, hbg_19⟩ := un_508 (hG _ ma_2) ka_2
  obtain ⟨g_21, hfo_20, hbg_21⟩ := un_510 (hG _ ma_5) ka_5
  obtain ⟨g_23, hfo_22, hbg_23⟩ := un_515 (hG _ ma_13) ka_13
  obtain ⟨tqn, tqp, tqc, tqs, tqa, tqr, tqg, tqh, tqq, ⟨-, -, -, -⟩, ⟨tqt1, tqt2, tqt3, tqt4, tqt5, tqt6⟩, ⟨tqw1, tqw2, tqw3⟩, tq4, tq5, tq6, tq7⟩ := hTq
  rw [hfo_1] at tqt1 tqt2 tqt3 tqt4 tqt5 tqt6
  obtain rfl := Option.some.inj tqt1
  obtain rfl := Option.some.inj tqt2
  obtain rfl := Option.some.inj tqt3
  obtain rfl := Option.some.inj tqt4
  obtain rfl := Option.some.inj tqt5
  obtain rfl := Option.some.inj tqt6
  rw [hfo_18] at tqw1
  obtain rfl := Option.some.inj tqw1
  rw [hfo_20] at tqw2
  obtain rfl := Option.some.inj tqw2
  rw [hfo_22] at tqw3
  obtain rfl := Option.some.inj tqw3
  refine lv_iload_n hx hb dX7_signOf_0 rfl (lv_at hl 1 rfl) ?_
  refine lv_bipush (v := 97) hx hb dX7_signOf_1 (by decide) ?_
  refine lv_icmp_lt (tgt := 12) hx hb dX7_signOf_3 (by decide) (fun c_24 => ?_) (fun c_24 => ?_)
  · skip
    rw [Int32.lt_iff_toInt_lt, ti_97] at c_24
    refine lv_iconst (v := 0) hx hb dX7_signOf_12 (by decide) ?_
    refine lv_goto (tgt := 25) hx hb dX7_signOf_13 (by decide) ?_
    exact W.iret (v := 0) hx hb hr (fun t ht hW => ⟨⟨0, f, rfl, ⟨rfl, (by decide), (fun n9 h9 => by rw [hfo_1] at h9; obtain rfl := Option.some.inj h9; exact (by rw [show ((0 : Int32)).toInt = 0 from rfl]; omega)), (fun s9 g9 h1 h2 => by rw [hfo_1] at h1; obtain rfl := Option.some.inj h1; rw [hfo_18] at h2; cases h2; exact (by unfold sgf; rw [if_pos (by omega)]))⟩, by rw [ht]; exact hP, va_K.moved hW.alike hK, pl_in hD⟩, hS.F ht⟩) hS.2.2 dX7_signOf_25
  · skip
    rw [Int32.lt_iff_toInt_lt, ti_97] at c_24
    refine lv_iload_n hx hb dX7_signOf_6 rfl (lv_at hl 1 rfl) ?_
    refine lv_bipush (v := 122) hx hb dX7_signOf_7 (by decide) ?_
    refine lv_icmp_le (tgt := 16) hx hb dX7_signOf_9 (by decide) (fun c_25 => ?_) (fun c_25 => ?_)
    · skip
      rw [Int32.le_iff_toInt_le, ti_122] at c_25
      refine lv_aload_n hx hb dX7_signOf_16 rfl (lv_at hl 0 rfl) ?_
      refine tk_getP (D := (dC, dI)) (ci := 7) (v := .ref a_2) (C := RX7) (T := TX7) (N := 16) hx hb hU inlX7 hown hK hP mo0 hfo_1 rfl 0 (by decide) (hU _ wd_72) (fun _ h9 => h9) rfl dX7_signOf_17 ?_
      refine lv_iload_n hx hb dX7_signOf_20 rfl (lv_at hl 1 rfl) ?_
      refine lv_bipush (v := 97) hx hb dX7_signOf_21 (by decide) ?_
      refine lv_isub hx hb dX7_signOf_23 ?_
      refine lv_topi (fun x_26 ex_26 => ?_)
      have hx_26 : x_26.toInt = p1.toInt - 97 := by rw [ex_26, sb_I (by rw [ti_97]; omega) (by rw [ti_97]; omega), ti_97]
      have bx_26 : (0 ≤ x_26.toInt ∧ x_26.toInt ≤ 25) := by constructor <;> omega
      refine tk_ildP hx hb hK hP 0 ma_2 hfo_18 rfl (vp_in_iff.mpr (by constructor <;> omega)) dX7_signOf_24 ?_
      refine lv_topi (fun x_27 ex_27 => ?_)
      have bx_27 : (0 ≤ x_27.toInt ∧ x_27.toInt ≤ 8) := by rw [ex_27]; exact hbg_19 _
      exact W.iret (v := x_27) hx hb hr (fun t ht hW => ⟨⟨x_27, f, rfl, ⟨rfl, (by constructor <;> omega), (fun n9 h9 => by rw [hfo_1] at h9; obtain rfl := Option.some.inj h9; exact (by rw [ex_27]; exact tq5 _ (by have hc9 := cl_I (i := x_26) (by omega); omega))), (fun s9 g9 h1 h2 => by rw [hfo_1] at h1; obtain rfl := Option.some.inj h1; rw [hfo_18] at h2; cases h2; exact (by unfold sgf; rw [if_neg (by omega), ← ex_26]; exact ex_27))⟩, by rw [ht]; exact hP, va_K.moved hW.alike hK, pl_in hD⟩, hS.F ht⟩) hS.2.2 dX7_signOf_25
    · skip
      rw [Int32.le_iff_toInt_le, ti_122] at c_25
      refine lv_iconst (v := 0) hx hb dX7_signOf_12 (by decide) ?_
      refine lv_goto (tgt := 25) hx hb dX7_signOf_13 (by decide) ?_
      exact W.iret (v := 0) hx hb hr (fun t ht hW => ⟨⟨0, f, rfl, ⟨rfl, (by decide), (fun n9 h9 => by rw [hfo_1] at h9; obtain rfl := Option.some.inj h9; exact (by rw [show ((0 : Int32)).toInt = 0 from rfl]; omega)), (fun s9 g9 h1 h2 => by rw [hfo_1] at h1; obtain rfl := Option.some.inj h1; rw [hfo_18] at h2; cases h2; exact (by unfold sgf; rw [if_pos (by omega)]))⟩, by rw [ht]; exact hP, va_K.moved hW.alike hK, pl_in hD⟩, hS.F ht⟩) hS.2.2 dX7_signOf_25
set_option maxHeartbeats 8000000 in
set_option maxRecDepth 100000 in
theorem s_X11_areLetters_k11_g (l : Launch) (D : va_G) (cI cL cZ cR cG cH : ClassId) (Z : zT) (kd : Nat → Nat) (L : List Nat) (f : Nat → va_E) (hG : GI (okc cI cL cZ cR cG cH L kd) kd L f) (o0 : Nat) (mo0 : o0 ∈ L) (ko0 : kd o0 = 11) (p1 : Int32) (bp1 : (0 ≤ p1.toInt ∧ p1.toInt ≤ 600)) (p2 : Int32) (bp2 : (0 ≤ p2.toInt ∧ p2.toInt ≤ 600)) (hxtr0 : ∀ d9, fldR (f o0) 3 = some d9 → trel kd 7 508 510 515 4 f d9) : mPI l D cI cL cZ cR cG cH Z yX11_areLetters cX11_areLetters 4 (some .boolean) 1 21 [.ref o0, .int p1, .int p2] L f (fun (r : Int32) (f9 : Nat → va_E) => f = f9 ∧ (0 ≤ r.toInt ∧ r.toInt ≤ 1) ∧ (∀ d9 s9 g9 t9 h9, fldR (f o0) 3 = some d9 → fldR (f d9) 0 = some s9 → f s9 = .inl (cI, 26, .inl g9) → fldR (f o0) 0 = some t9 → f t9 = .inl (cI, 600, .inl h9) → r.toInt = 0 ∨ ∀ j : Nat, p1.toInt ≤ (j : Int) → (j : Int) < p2.toInt → sgf g9 (h9 j) ≠ 0)) := by
  obtain ⟨dC, dI⟩ := D
  refine Met.ofW (cc := cX11_areLetters) (maxL := 4) (ret := (some .boolean)) (by decide) rfl ?_
  intro p e s m args below meth c s₁ B hml hv
  obtain ⟨rfl, hP, hK, hD0, hN, hZ⟩ := hv
  have hx := B.exec
  have hb := B.bytes
  have hr := B.returns
  have hU : ∀ w ∈ wsU, w.before _ s = true := fun w h => atoms_spec (ws := wU yX11_areLetters cX11_areLetters 4 (some .boolean)) B.pre w (List.mem_cons_of_mem _ h)
  have hown : s.vm.findClass RX11 = some m.cls := findClass_of_methodNamed B.named
  have hlocks := B.notSynchronized
  have hD := pl_in hD0
  have hS : va_S (fun q => q ∈ L) s.heap s.heap [] := va_S.rf
  have hl := lv_entry ([.ref o0, .int p1, .int p2]) (n := 4) (Nat.le_of_ble_eq_true rfl)
  rw [lg_entry_eq]
  generalize (lg_sl ([.ref o0, .int p1, .int p2]) ++ List.replicate (4 - (lg_sl ([.ref o0, .int p1, .int p2])).length) Slot.unset).toArray = ls at hl ⊢
  have hl : lv_has ls 4 [(0, .ref o0), (1, .int p1), (2, .int p2)] := hl
  obtain ⟨a_2, v_3, a_4, a_5, a_6, a_7, a_8, a_9, v_10, a_11, a_12, a_13, v_14, v_15, a_16, v_17, a_18, a_19, v_20, hfo_1, ⟨ma_2, ka_2⟩, bv_3, ⟨ma_4, ka_4⟩, ⟨ma_5, ka_5⟩, ⟨ma_6, ka_6⟩, ⟨ma_7, ka_7⟩, ⟨ma_8, ka_8⟩, ⟨ma_9, ka_9⟩, bv_10, ⟨ma_11, ka_11⟩, ⟨ma_12, ka_12⟩, ⟨ma_13, ka_13⟩, bv_14, ⟨ma_16, ka_16⟩, bv_17, ⟨ma_18, ka_18⟩, ⟨ma_19, ka_19⟩⟩ := un_11 (hG _ mo0) ko0
  have bv_15 : ((-2147483648) ≤ v_15.toInt ∧ v_15.toInt ≤ 2147483647) := ⟨i32_lo _, i32_hi _⟩
  have bv_20 : ((-2147483648) ≤ v_20.toInt ∧ v_20.toInt ≤ 2147483647) := ⟨i32_lo _, i32_hi _⟩
  have hT0 := hxtr0 a_5 (by rw [hfo_1]; rfl)
  obtain ⟨a_22, v_23, a_24, a_25, a_26, a_27, v_28, a_29, a_30, a_31, a_32, a_33, v_34, a_35, a_36, a_37, hfo_21, ⟨ma_22, ka_22⟩, bv_23, ⟨ma_24, ka_24⟩, ⟨ma_25, ka_25⟩, ⟨ma_26, ka_26⟩, ⟨ma_27, ka_27⟩, bv_28, ⟨ma_29, ka_29⟩, ⟨ma_30, ka_30⟩, ⟨ma_31, ka_31⟩, ⟨ma_32, ka_32⟩, ⟨ma_33, ka_33⟩, bv_34, ⟨ma_35, ka_35⟩, ⟨ma_36, ka_36⟩, ⟨ma_37, ka_37⟩⟩ := un_7 (hG _ ma_5) ka_5
  obtain ⟨g_39, hfo_38, hbg_39⟩ := un_508 (hG _ ma_22) ka_22
  obtain ⟨g_41, hfo_40, hbg_41⟩ := un_533 (hG _ ma_2) ka_2
  refine lv_iload_n hx hb dX11_areLetters_0 rfl (lv_at hl 1 rfl) ?_
  refine lv_istore_n (lv' := [(3, .int p1), (0, .ref o0), (1, .int p1), (2, .int p2)]) hx hb dX11_areLetters_1 rfl hl (by decide) rfl (fun ls hl => ?_)
  have hloop_50 : ∀ (n : Nat), ∀ (y_51 : Int32), (0 ≤ y_51.toInt ∧ y_51.toInt ≤ 600) → ∀ (H : Heap) (locs : List Loc), va_P (dC, dI) vwCl (va_pl L f) H → va_S (fun q => q ∈ L) s.heap H locs → (∀ j : Nat, p1.toInt ≤ (j : Int) → (j : Int) < y_51.toInt → sgf g_39 (g_41 j) ≠ 0) → 600 - y_51.toInt < (n : Int) → ∀ (ls : Array Slot), lv_has ls 4 [(3, .int y_51), (0, .ref o0), (1, .int p1), (2, .int p2)] → W p l e (headSpec (wU yX11_areLetters cX11_areLetters 4 (some .boolean)) { frames := 1, cells := 0, slots := 0, locals := 21 }).room s m [.ref o0, .int p1, .int p2].toArray below meth c H locs 0 0 (MQ below (va_Qi (fun (r : Int32) (f9 : Nat → va_E) => f = f9 ∧ (0 ≤ r.toInt ∧ r.toInt ≤ 1) ∧ (∀ d9 s9 g9 t9 h9, fldR (f o0) 3 = some d9 → fldR (f d9) 0 = some s9 → f s9 = .inl (cI, 26, .inl g9) → fldR (f o0) 0 = some t9 → f t9 = .inl (cI, 600, .inl h9) → r.toInt = 0 ∨ ∀ j : Nat, p1.toInt ≤ (j : Int) → (j : Int) < p2.toInt → sgf g9 (h9 j) ≠ 0)) (qP (dC, dI) cI cL cZ cR cG cH L) (fun q => q ∈ L)) [.ref o0, .int p1, .int p2].toArray s 0 0 (fun q => q ∈ L)) (F0 m 2 ls []) := by
    intro n
    induction n with
    | zero => intro y_51 by_51 H locs hP hS hxa hmuhloop_50 ls hl; exfalso; omega
    | succ n ih_hloop_50 =>
      intro y_51 by_51 H locs hP hS hxa hmuhloop_50 ls hl
      refine lv_iload_n hx hb dX11_areLetters_2 rfl (lv_at hl 0 rfl) ?_
      refine lv_iload_n hx hb dX11_areLetters_3 rfl (lv_at hl 3 rfl) ?_
      refine lv_icmp_ge (tgt := 31) hx hb dX11_areLetters_4 (by decide) (fun c_53 => ?_) (fun c_53 => ?_)
      · skip
        rw [Int32.le_iff_toInt_le] at c_53
        refine lv_iconst (v := 1) hx hb dX11_areLetters_31 (by decide) ?_
        exact W.zret (v := 1) (ty := .boolean) hx hb hr rfl (fun t ht hW => ⟨⟨1, f, rfl, ⟨rfl, (by decide), (fun d9 s9 g9 t9 h9 q1 q2 q3 q4 q5 => by rw [hfo_1] at q1 q4; obtain rfl := Option.some.inj q1; obtain rfl := Option.some.inj q4; rw [hfo_21] at q2; obtain rfl := Option.some.inj q2; rw [hfo_38] at q3; cases q3; rw [hfo_40] at q5; cases q5; exact Or.inr (fun j h1 h2 => hxa j h1 (by omega)))⟩, by rw [ht]; exact hP, va_K.moved hW.alike hK, pl_in hD⟩, hS.F ht⟩) hS.2.2 dX11_areLetters_32
      · skip
        rw [Int32.le_iff_toInt_le] at c_53
        refine lv_aload_n hx hb dX11_areLetters_7 rfl (lv_at hl 1 rfl) ?_
        refine tk_getP (D := (dC, dI)) (ci := 11) (v := .ref a_5) (C := RX11) (T := TX11) (N := 19) hx hb hU inlX11 hown hK hP mo0 hfo_1 rfl 3 (by decide) (hU _ wd_19) (fun _ h9 => h9) rfl dX11_areLetters_8 ?_
        refine lv_aload_n hx hb dX11_areLetters_11 rfl (lv_at hl 1 rfl) ?_
        refine tk_getP (D := (dC, dI)) (ci := 11) (v := .ref a_2) (C := RX11) (T := TX11) (N := 19) hx hb hU inlX11 hown hK hP mo0 hfo_1 rfl 0 (by decide) (hU _ wd_13) (fun _ h9 => h9) rfl dX11_areLetters_12 ?_
        refine lv_iload_n hx hb dX11_areLetters_15 rfl (lv_at hl 0 rfl) ?_
        refine tk_ildP hx hb hK hP 0 ma_2 hfo_40 rfl (vp_in_iff.mpr (by constructor <;> omega)) dX11_areLetters_16 ?_
        refine lv_topi (fun x_54 ex_54 => ?_)
        have bx_54 : ((-2147483648) ≤ x_54.toInt ∧ x_54.toInt ≤ 2147483647) := ⟨i32_lo _, i32_hi _⟩
        refine tk_ViP (As := [.int x_54]) (rest := []) (n := 1) hx hb hml hown hU hN hZ (s_X7_signOf_k7_g l (dC, dI) cI cL cZ cR cG cH Z kd L f hG a_5 ma_5 ka_5 x_54 hT0) wd_717 wd_346 wd_347 wd_28 wd_348 (by decide +kernel) ⟨Nat.le_of_ble_eq_true rfl, Nat.le_of_ble_eq_true rfl⟩ hK hP hD hS ma_5 hfo_21 7 rfl rfl rfl hl.1 rfl (Nat.le_of_ble_eq_true rfl) dX11_areLetters_17 ⟨Nat.le_of_ble_eq_true rfl, Nat.le_of_ble_eq_true rfl⟩ (fun x_55 f_56 H locs hw hP hD hS => ?_)
        obtain ⟨rfl, bx_55, hxp_57, hxp_58⟩ := hw
        have hsox_55 := hxp_57 v_23 (by rw [hfo_21]; rfl)
        have hsgx_55 := hxp_58 a_22 g_39 (by rw [hfo_21]; rfl) hfo_38
        refine lv_if_ne (tgt := 25) hx hb dX11_areLetters_20 (by decide) (fun c_60 => ?_) (fun c_60 => ?_)
        · skip
          rw [← Int32.toInt_inj, ti_0] at c_60
          obtain ⟨x_61, ex_61⟩ : ∃ y : Int32, y_51 + 1 = y := ⟨_, rfl⟩
          have hx_61 : x_61.toInt = y_51.toInt + 1 := by rw [← ex_61, ad_I (by rw [ti_1]; omega) (by rw [ti_1]; omega), ti_1]
          have bx_61 : (1 ≤ x_61.toInt ∧ x_61.toInt ≤ 600) := by constructor <;> omega
          refine lv_iinc (v := x_61) (lv' := [(3, .int x_61), (0, .ref o0), (1, .int p1), (2, .int p2)]) hx hb dX11_areLetters_25 hl (k := 0) rfl ex_61 (by decide) rfl (fun ls hl => ?_)
          refine lv_goto (tgt := 2) hx hb dX11_areLetters_28 (by decide) ?_
          exact ih_hloop_50 x_61 (by constructor <;> omega) _ _ hP hS (fun j h1 h2 => by by_cases hji : (j : Int) = y_51.toInt; (· have hc9 := cl_I (i := y_51) (by omega); rw [show j = Int32.toNatClampNeg y_51 by omega, ← ex_54, ← hsgx_55]; intro q9; have q8 : x_55.toInt = 0 := (by rw [q9]; rfl); omega); (· exact hxa j h1 (by omega))) (by omega) ls (lv_sub hl [0, 1, 2, 3] rfl)
        · skip
          rw [← Int32.toInt_inj, ti_0] at c_60
          refine lv_iconst (v := 0) hx hb dX11_areLetters_23 (by decide) ?_
          exact W.zret (v := 0) (ty := .boolean) hx hb hr rfl (fun t ht hW => ⟨⟨0, f, rfl, ⟨rfl, (by decide), (fun _ _ _ _ _ _ _ _ _ _ => Or.inl (by decide))⟩, by rw [ht]; exact hP, va_K.moved hW.alike hK, pl_in hD⟩, hS.F ht⟩) hS.2.2 dX11_areLetters_24
  exact hloop_50 601 p1 (by constructor <;> omega) _ _ hP hS (fun j h1 h2 => by exfalso; omega) (by omega) ls hl
set_option maxHeartbeats 8000000 in
set_option maxRecDepth 100000 in
theorem s_X11_emptyTape_k11_e (l : Launch) (D : va_G) (cI cL cZ cR cG cH : ClassId) (Z : zT) (kd : Nat → Nat) (L : List Nat) (f : Nat → va_E) (hG : GI (okc cI cL cZ cR cG cH L kd) kd L f) (o0 : Nat) (mo0 : o0 ∈ L) (ko0 : kd o0 = 11) : mPI l D cI cL cZ cR cG cH Z yX11_emptyTape cX11_emptyTape 2 (some .int) 0 0 [.ref o0] L f (fun (r : Int32) (f9 : Nat → va_E) => GI (okc cI cL cZ cR cG cH L kd) kd L f9 ∧ (0 ≤ r.toInt ∧ r.toInt ≤ 600) ∧ (∀ b, kd b ≠ 11 → f9 b = f b) ∧ (∀ b, kd b = 11 → fldI (f9 b) 8 = fldI (f b) 8) ∧ (∀ b, kd b = 11 → fldR (f9 b) 2 = fldR (f b) 2) ∧ (∀ b, kd b = 11 → fldR (f9 b) 3 = fldR (f b) 3) ∧ (∀ b, kd b = 11 → fldR (f9 b) 5 = fldR (f b) 5) ∧ (∀ b, kd b = 11 → fldR (f9 b) 6 = fldR (f b) 6) ∧ (∀ b, kd b = 11 → fldR (f9 b) 7 = fldR (f b) 7) ∧ (∀ b, kd b = 11 → fldR (f9 b) 9 = fldR (f b) 9) ∧ (∀ b, kd b = 11 → fldR (f9 b) 10 = fldR (f b) 10) ∧ (∀ b, kd b = 11 → fldR (f9 b) 16 = fldR (f b) 16) ∧ (∀ (w1 z1 : Int32) (w12 z12 : Int32), fldI (f o0) 1 = some w1 → fldI (f o0) 12 = some w12 → fldI (f9 o0) 1 = some z1 → fldI (f9 o0) 12 = some z12 → z1.toInt = 0 ∧ z12.toInt = w12.toInt)) := by
  obtain ⟨dC, dI⟩ := D
  refine Met.ofW (cc := cX11_emptyTape) (maxL := 2) (ret := (some .int)) (by decide) rfl ?_
  intro p e s m args below meth c s₁ B hml hv
  obtain ⟨rfl, hP, hK, hD0, hN, hZ⟩ := hv
  have hx := B.exec
  have hb := B.bytes
  have hr := B.returns
  have hU : ∀ w ∈ wsU, w.before _ s = true := fun w h => atoms_spec (ws := wU yX11_emptyTape cX11_emptyTape 2 (some .int)) B.pre w (List.mem_cons_of_mem _ h)
  have hown : s.vm.findClass RX11 = some m.cls := findClass_of_methodNamed B.named
  have hlocks := B.notSynchronized
  have hD := pl_in hD0
  have hS : va_S (fun q => q ∈ L) s.heap s.heap [] := va_S.rf
  have hl := lv_entry ([.ref o0]) (n := 2) (Nat.le_of_ble_eq_true rfl)
  rw [lg_entry_eq]
  generalize (lg_sl ([.ref o0]) ++ List.replicate (2 - (lg_sl ([.ref o0])).length) Slot.unset).toArray = ls at hl ⊢
  have hl : lv_has ls 2 [(0, .ref o0)] := hl
  have hfr0 : ∀ b, kd b ≠ 11 → f b = f b := fun _ _ => rfl
  have hfr11_8 : ∀ b, kd b = 11 → fldI (f b) 8 = fldI (f b) 8 := fun _ _ => rfl
  have hrr11_2 : ∀ b, kd b = 11 → fldR (f b) 2 = fldR (f b) 2 := fun _ _ => rfl
  have hrr11_3 : ∀ b, kd b = 11 → fldR (f b) 3 = fldR (f b) 3 := fun _ _ => rfl
  have hrr11_5 : ∀ b, kd b = 11 → fldR (f b) 5 = fldR (f b) 5 := fun _ _ => rfl
  have hrr11_6 : ∀ b, kd b = 11 → fldR (f b) 6 = fldR (f b) 6 := fun _ _ => rfl
  have hrr11_7 : ∀ b, kd b = 11 → fldR (f b) 7 = fldR (f b) 7 := fun _ _ => rfl
  have hrr11_9 : ∀ b, kd b = 11 → fldR (f b) 9 = fldR (f b) 9 := fun _ _ => rfl
  have hrr11_10 : ∀ b, kd b = 11 → fldR (f b) 10 = fldR (f b) 10 := fun _ _ => rfl
  have hrr11_16 : ∀ b, kd b = 11 → fldR (f b) 16 = fldR (f b) 16 := fun _ _ => rfl
  obtain ⟨a_2, v_3, a_4, a_5, a_6, a_7, a_8, a_9, v_10, a_11, a_12, a_13, v_14, v_15, a_16, v_17, a_18, a_19, v_20, hfo_1, ⟨ma_2, ka_2⟩, bv_3, ⟨ma_4, ka_4⟩, ⟨ma_5, ka_5⟩, ⟨ma_6, ka_6⟩, ⟨ma_7, ka_7⟩, ⟨ma_8, ka_8⟩, ⟨ma_9, ka_9⟩, bv_10, ⟨ma_11, ka_11⟩, ⟨ma_12, ka_12⟩, ⟨ma_13, ka_13⟩, bv_14, ⟨ma_16, ka_16⟩, bv_17, ⟨ma_18, ka_18⟩, ⟨ma_19, ka_19⟩⟩ := un_11 (hG _ mo0) ko0
  have bv_15 : ((-2147483648) ≤ v_15.toInt ∧ v_15.toInt ≤ 2147483647) := ⟨i32_lo _, i32_hi _⟩
  have bv_20 : ((-2147483648) ≤ v_20.toInt ∧ v_20.toInt ≤ 2147483647) := ⟨i32_lo _, i32_hi _⟩
  refine lv_aload_n hx hb dX11_emptyTape_0 rfl (lv_at hl 0 rfl) ?_
  refine tk_getP (D := (dC, dI)) (ci := 11) (v := .int v_3) (C := RX11) (T := TX11) (N := 19) hx hb hU inlX11 hown hK hP mo0 hfo_1 rfl 1 (by decide) (hU _ wd_209) (fun _ h9 => h9) rfl dX11_emptyTape_1 ?_
  refine lv_istore_n (lv' := [(1, .int v_3), (0, .ref o0)]) hx hb dX11_emptyTape_4 rfl hl (by decide) rfl (fun ls hl => ?_)
  refine lv_aload_n hx hb dX11_emptyTape_5 rfl (lv_at hl 1 rfl) ?_
  refine lv_iconst (v := 0) hx hb dX11_emptyTape_6 (by decide) ?_
  refine tk_putP (D := (dC, dI)) (ci := 11) (v := .int 0) (ty := .int) (C := RX11) (T := TX11) (N := 19) hx hb hU inlX11 tyX11 tyX11_ok nmX11 hown hK hP hD hS mo0 hfo_1 rfl 1 (by decide) (hU _ wd_209) (fun _ h9 => h9) rfl (by decide +kernel) rfl rfl (Nat.le_of_ble_eq_true rfl) dX11_emptyTape_7 (fun H locs hP hD hS => ?_)
  obtain ⟨f_22, ef_22⟩ : ∃ y : Nat → va_E, y = va_up f o0 (.inr (11, [.ref a_2, .int 0, .ref a_4, .ref a_5, .ref a_6, .ref a_7, .ref a_8, .ref a_9, .int v_10, .ref a_11, .ref a_12, .ref a_13, .int v_14, .int v_15, .ref a_16, .int v_17, .ref a_18, .ref a_19, .int v_20])) := ⟨_, rfl⟩
  have hP : va_P (dC, dI) vwCl (va_pl L f_22) H := by rw [ef_22]; exact hP
  have hD : va_D (fun q => q ∈ L) (va_pl L f_22) := by rw [ef_22]; exact hD
  have hG : GI (okc cI cL cZ cR cG cH L kd) kd L f_22 := by rw [ef_22]; exact hG.set o0 (mk_11 ko0 ⟨a_2, 0, a_4, a_5, a_6, a_7, a_8, a_9, v_10, a_11, a_12, a_13, v_14, v_15, a_16, v_17, a_18, a_19, v_20, rfl, ⟨ma_2, ka_2⟩, (by decide), ⟨ma_4, ka_4⟩, ⟨ma_5, ka_5⟩, ⟨ma_6, ka_6⟩, ⟨ma_7, ka_7⟩, ⟨ma_8, ka_8⟩, ⟨ma_9, ka_9⟩, (by constructor <;> omega), ⟨ma_11, ka_11⟩, ⟨ma_12, ka_12⟩, ⟨ma_13, ka_13⟩, (by constructor <;> omega), ⟨ma_16, ka_16⟩, (by constructor <;> omega), ⟨ma_18, ka_18⟩, ⟨ma_19, ka_19⟩⟩)
  have hfr0 : ∀ b, kd b ≠ 11 → f_22 b = f b := fun b q11 => (congrFun ef_22 b).trans ((up_ne (fun e9 => q11 (by rw [e9]; exact ko0))).trans (hfr0 b q11))
  have hfr11_8 : ∀ b, kd b = 11 → fldI (f_22 b) 8 = fldI (f b) 8 := fun b kb => ((congrArg (fun x => fldI x 8) (congrFun ef_22 b)).trans (fk_up (by rw [hfo_1]; rfl) b)).trans (hfr11_8 b kb)
  have hrr11_2 : ∀ b, kd b = 11 → fldR (f_22 b) 2 = fldR (f b) 2 := fun b kb => ((congrArg (fun x => fldR x 2) (congrFun ef_22 b)).trans (fr_up (by rw [hfo_1]; rfl) b)).trans (hrr11_2 b kb)
  have hrr11_3 : ∀ b, kd b = 11 → fldR (f_22 b) 3 = fldR (f b) 3 := fun b kb => ((congrArg (fun x => fldR x 3) (congrFun ef_22 b)).trans (fr_up (by rw [hfo_1]; rfl) b)).trans (hrr11_3 b kb)
  have hrr11_5 : ∀ b, kd b = 11 → fldR (f_22 b) 5 = fldR (f b) 5 := fun b kb => ((congrArg (fun x => fldR x 5) (congrFun ef_22 b)).trans (fr_up (by rw [hfo_1]; rfl) b)).trans (hrr11_5 b kb)
  have hrr11_6 : ∀ b, kd b = 11 → fldR (f_22 b) 6 = fldR (f b) 6 := fun b kb => ((congrArg (fun x => fldR x 6) (congrFun ef_22 b)).trans (fr_up (by rw [hfo_1]; rfl) b)).trans (hrr11_6 b kb)
  have hrr11_7 : ∀ b, kd b = 11 → fldR (f_22 b) 7 = fldR (f b) 7 := fun b kb => ((congrArg (fun x => fldR x 7) (congrFun ef_22 b)).trans (fr_up (by rw [hfo_1]; rfl) b)).trans (hrr11_7 b kb)
  have hrr11_9 : ∀ b, kd b = 11 → fldR (f_22 b) 9 = fldR (f b) 9 := fun b kb => ((congrArg (fun x => fldR x 9) (congrFun ef_22 b)).trans (fr_up (by rw [hfo_1]; rfl) b)).trans (hrr11_9 b kb)
  have hrr11_10 : ∀ b, kd b = 11 → fldR (f_22 b) 10 = fldR (f b) 10 := fun b kb => ((congrArg (fun x => fldR x 10) (congrFun ef_22 b)).trans (fr_up (by rw [hfo_1]; rfl) b)).trans (hrr11_10 b kb)
  have hrr11_16 : ∀ b, kd b = 11 → fldR (f_22 b) 16 = fldR (f b) 16 := fun b kb => ((congrArg (fun x => fldR x 16) (congrFun ef_22 b)).trans (fr_up (by rw [hfo_1]; rfl) b)).trans (hrr11_16 b kb)
  have hfo_23 : f_22 o0 = .inr (11, [.ref a_2, .int 0, .ref a_4, .ref a_5, .ref a_6, .ref a_7, .ref a_8, .ref a_9, .int v_10, .ref a_11, .ref a_12, .ref a_13, .int v_14, .int v_15, .ref a_16, .int v_17, .ref a_18, .ref a_19, .int v_20]) := by rw [ef_22]; exact up_self
  refine lv_iload_n hx hb dX11_emptyTape_10 rfl (lv_at hl 0 rfl) ?_
  exact W.iret (v := v_3) hx hb hr (fun t ht hW => ⟨⟨v_3, f_22, rfl, ⟨hG, (by constructor <;> omega), hfr0, hfr11_8, hrr11_2, hrr11_3, hrr11_5, hrr11_6, hrr11_7, hrr11_9, hrr11_10, hrr11_16, (by intro w1 z1 w12 z12 e1 e12 d1 d12; rw [hfo_1] at e1 e12; rw [hfo_23] at d1 d12; obtain rfl := Option.some.inj e1; obtain rfl := Option.some.inj d1; obtain rfl := Option.some.inj e12; obtain rfl := Option.some.inj d12; (try rw [ti_0]) <;> omega)⟩, by rw [ht]; exact hP, va_K.moved hW.alike hK, pl_in hD⟩, hS.F ht⟩) hS.2.2 dX11_emptyTape_11
