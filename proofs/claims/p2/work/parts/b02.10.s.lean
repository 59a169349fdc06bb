set_option maxHeartbeats 8000000 in
set_option maxRecDepth 100000 in
theorem s_J7_fill_53178_a566_z (l : Launch) (D : va_G) (cI cL cZ cR cG cH : ClassId) (Z : zT) (kd : Nat → Nat) (L : List Nat) (f : Nat → va_E) (hG : GI (okc cI cL cZ cR cG cH L kd) kd L f) (o0 : Nat) (mo0 : o0 ∈ L) (ko0 : kd o0 = 566) (p1 : Int32) (bp1 : (0 ≤ p1.toInt ∧ p1.toInt ≤ 0)) : mPV l D cI cL cZ cR cG cH Z yJ7_fill_53178 cJ7_fill_53178 4 none 0 0 [.ref o0, .int p1] L f (fun (f9 : Nat → va_E) => GI (okc cI cL cZ cR cG cH L kd) kd L f9 ∧ (∀ b, kd b ≠ 566 → f9 b = f b) ∧ (∀ g9, f9 o0 = .inl (cI, 26, .inl g9) → ∀ j : Nat, j < 26 → g9 j = 0)) := by
  obtain ⟨dC, dI⟩ := D
  refine Met.ofW (cc := cJ7_fill_53178) (maxL := 4) (ret := none) (by decide) rfl ?_
  intro p e s m args below meth c s₁ B hml hv
  obtain ⟨rfl, hP, hK, hD0, hN, hZ⟩ := hv
  have hx := B.exec
  have hb := B.bytes
  have hr := B.returns
  have hU : ∀ w ∈ wsU, w.before _ s = true := fun w h => atoms_spec (ws := wU yJ7_fill_53178 cJ7_fill_53178 4 none) B.pre w (List.mem_cons_of_mem _ h)
  have hown : s.vm.findClass RJ7 = some m.cls := findClass_of_methodNamed B.named
  have hlocks := B.notSynchronized
  have hD := pl_in hD0
  have hS : va_S (fun q => q ∈ L) s.heap s.heap [] := va_S.rf
  have hl := lv_entry ([.ref o0, .int p1]) (n := 4) (Nat.le_of_ble_eq_true rfl)
  rw [lg_entry_eq]
  generalize (lg_sl ([.ref o0, .int p1]) ++ List.replicate (4 - (lg_sl ([.ref o0, .int p1])).length) Slot.unset).toArray = ls at hl ⊢
  have hl : lv_has ls 4 [(0, .ref o0), (1, .int p1)] := hl
  have hfr0 : ∀ b, kd b ≠ 566 → f b = f b := fun _ _ => rfl
  have hp10 : p1 = 0 := Int32.toInt_inj.mp (by rw [show (0 : Int32).toInt = 0 from rfl]; omega)
  refine lv_iconst (v := 0) hx hb dJ7_fill_53178_0 (by decide) ?_
  refine lv_istore_n (lv' := [(2, .int 0), (0, .ref o0), (1, .int p1)]) hx hb dJ7_fill_53178_1 rfl hl (by decide) rfl (fun ls hl => ?_)
  refine lv_aload_n hx hb dJ7_fill_53178_2 rfl (lv_at hl 1 rfl) ?_
  obtain ⟨g_2, hfo_1, hbg_2⟩ := un_566 (hG _ mo0) ko0
  refine tk_alenP (v := 26) hx hb hK hP 0 mo0 hfo_1 rfl rfl dJ7_fill_53178_3 ?_
  refine lv_istore_n (lv' := [(3, .int 26), (2, .int 0), (0, .ref o0), (1, .int p1)]) hx hb dJ7_fill_53178_4 rfl hl (by decide) rfl (fun ls hl => ?_)
  have hloop_16 : ∀ (n : Nat), ∀ (y_17 : Int32), (0 ≤ y_17.toInt ∧ y_17.toInt ≤ 26) → ∀ (f_19 : Nat → va_E), GI (okc cI cL cZ cR cG cH L kd) kd L f_19 → ∀ (H : Heap) (locs : List Loc), va_P (dC, dI) vwCl (va_pl L f_19) H → va_S (fun q => q ∈ L) s.heap H locs → va_D (fun q => q ∈ L) (va_pl L f_19) → (∀ b, kd b ≠ 566 → f_19 b = f b) → (∀ g9, f_19 o0 = .inl (cI, 26, .inl g9) → ∀ j : Nat, (j : Int) < y_17.toInt → g9 j = 0) → 26 - y_17.toInt < (n : Int) → ∀ (ls : Array Slot), lv_has ls 4 [(3, .int 26), (2, .int y_17), (0, .ref o0), (1, .int p1)] → W p l e (headSpec (wU yJ7_fill_53178 cJ7_fill_53178 4 none) { frames := 0, cells := 0, slots := 0, locals := 0 }).room s m [.ref o0, .int p1].toArray below meth c H locs 0 0 (MQ below (va_Qv (fun (f9 : Nat → va_E) => GI (okc cI cL cZ cR cG cH L kd) kd L f9 ∧ (∀ b, kd b ≠ 566 → f9 b = f b) ∧ (∀ g9, f9 o0 = .inl (cI, 26, .inl g9) → ∀ j : Nat, j < 26 → g9 j = 0)) (qP (dC, dI) cI cL cZ cR cG cH L) (fun q => q ∈ L)) [.ref o0, .int p1].toArray s 0 0 (fun q => q ∈ L)) (F0 m 5 ls []) := by
    intro n
    induction n with
    | zero => intro y_17 by_17 f_19 hG H locs hP hS hD hfr0 hfz hmuhloop_16 ls hl; exfalso; omega
    | succ n ih_hloop_16 =>
      intro y_17 by_17 f_19 hG H locs hP hS hD hfr0 hfz hmuhloop_16 ls hl
      refine lv_iload_n hx hb dJ7_fill_53178_5 rfl (lv_at hl 1 rfl) ?_
      refine lv_iload_n hx hb dJ7_fill_53178_6 rfl (lv_at hl 0 rfl) ?_
      refine lv_icmp_ge (tgt := 20) hx hb dJ7_fill_53178_7 (by decide) (fun c_20 => ?_) (fun c_20 => ?_)
      · skip
        rw [Int32.le_iff_toInt_le, ti_26] at c_20
        exact W.vret hx hb hr (fun t ht hW => ⟨⟨f_19, rfl, ⟨hG, hfr0, (fun g9 h9 j hj => hfz g9 h9 j (by omega))⟩, by rw [ht]; exact hP, va_K.moved hW.alike hK, pl_in hD⟩, hS.F ht⟩) hS.2.2 dJ7_fill_53178_20
      · skip
        rw [Int32.le_iff_toInt_le, ti_26] at c_20
        obtain ⟨g_22, hfo_21, hbg_22⟩ := un_566 (hG _ mo0) ko0
        refine lv_aload_n hx hb dJ7_fill_53178_10 rfl (lv_at hl 2 rfl) ?_
        refine lv_iload_n hx hb dJ7_fill_53178_11 rfl (lv_at hl 1 rfl) ?_
        refine lv_iload_n hx hb dJ7_fill_53178_12 rfl (lv_at hl 3 rfl) ?_
        refine tk_istP hx hb hK hP hD hS 0 mo0 hfo_21 rfl (vp_in_iff.mpr (by constructor <;> omega)) dJ7_fill_53178_13 (fun H locs hP hD hS => ?_)
        obtain ⟨g_23, eqg_23⟩ : ∃ y : Nat → Int32, y = upd g_22 (Int32.toNatClampNeg y_17) p1 := ⟨_, rfl⟩
        rw [← eqg_23] at hP hD
        have hbg_23 : ∀ j, 0 ≤ (g_23 j).toInt ∧ (g_23 j).toInt ≤ 8 := by rw [eqg_23]; exact okI_up hbg_22 (by constructor <;> omega) _
        obtain ⟨f_25, ef_25⟩ : ∃ y : Nat → va_E, y = va_up f_19 o0 (.inl (cI, 26, .inl g_23)) := ⟨_, rfl⟩
        have hP : va_P (dC, dI) vwCl (va_pl L f_25) H := by rw [ef_25]; exact hP
        have hD : va_D (fun q => q ∈ L) (va_pl L f_25) := by rw [ef_25]; exact hD
        have hG : GI (okc cI cL cZ cR cG cH L kd) kd L f_25 := by rw [ef_25]; exact hG.set o0 (mk_566 ko0 ⟨_, rfl, hbg_23⟩)
        have hfr0 : ∀ b, kd b ≠ 566 → f_25 b = f b := fun b q566 => (congrFun ef_25 b).trans ((up_ne (fun e9 => q566 (by rw [e9]; exact ko0))).trans (hfr0 b q566))
        have hfo_26 : f_25 o0 = .inl (cI, 26, .inl g_23) := by rw [ef_25]; exact up_self
        obtain ⟨x_27, ex_27⟩ : ∃ y : Int32, y_17 + 1 = y := ⟨_, rfl⟩
        have hx_27 : x_27.toInt = y_17.toInt + 1 := by rw [← ex_27, ad_I (by rw [ti_1]; omega) (by rw [ti_1]; omega), ti_1]
        have bx_27 : (1 ≤ x_27.toInt ∧ x_27.toInt ≤ 26) := by constructor <;> omega
        refine lv_iinc (v := x_27) (lv' := [(2, .int x_27), (3, .int 26), (0, .ref o0), (1, .int p1)]) hx hb dJ7_fill_53178_14 hl (k := 1) rfl ex_27 (by decide) rfl (fun ls hl => ?_)
        refine lv_goto (tgt := 5) hx hb dJ7_fill_53178_17 (by decide) ?_
        exact ih_hloop_16 x_27 (by constructor <;> omega) f_25 hG _ _ hP hS hD hfr0 (fun g9 h9 j hj => by rw [hfo_26] at h9; cases h9; have hc9 := cl_I (i := y_17) (by omega); by_cases hji : j = Int32.toNatClampNeg y_17; (· rw [eqg_23, hji, pk_us]; exact hp10); (· rw [eqg_23, pk_un hji]; exact hfz g_22 hfo_21 j (by omega))) (by (try rw [ti_26]) <;> omega) ls (lv_sub hl [1, 0, 2, 3] rfl)
  exact hloop_16 27 0 (by decide) f hG _ _ hP hS hD hfr0 (fun g9 _ j hj => by exfalso; have h3 : ((0 : Int32)).toInt = 0 := rfl; omega) (by (try rw [ti_26]) <;> (try rw [ti_0]) <;> omega) ls hl
set_option maxHeartbeats 8000000 in
set_option maxRecDepth 100000 in
theorem s_X7_keepPair_k207_t (l : Launch) (D : va_G) (cI cL cZ cR cG cH : ClassId) (Z : zT) (kd : Nat → Nat) (L : List Nat) (f : Nat → va_E) (hG : GI (okc cI cL cZ cR cG cH L kd) kd L f) (o0 : Nat) (mo0 : o0 ∈ L) (ko0 : kd o0 = 207) (p1 : Int32) (bp1 : (0 ≤ p1.toInt ∧ p1.toInt ≤ 8)) (p2 : Int32) (bp2 : (0 ≤ p2.toInt ∧ p2.toInt ≤ 8)) (p3 : Int32) (bp3 : (0 ≤ p3.toInt ∧ p3.toInt ≤ 3)) (p4 : Int32) (bp4 : (0 ≤ p4.toInt ∧ p4.toInt ≤ 3)) (hpreo0 : ∀ (w6 : Int32) (w1 : Int32), fldI (f o0) 6 = some w6 → fldI (f o0) 1 = some w1 → w6.toInt ≤ 19 ∧ w6.toInt - w1.toInt ≤ 11) : mPV l D cI cL cZ cR cG cH Z yX7_keepPair cX7_keepPair 5 none 0 0 [.ref o0, .int p1, .int p2, .int p3, .int p4] L f (fun (f9 : Nat → va_E) => GI (okc cI cL cZ cR cG cH L kd) kd L f9 ∧ (∀ b, kd b ≠ 207 → kd b ≠ 568 → kd b ≠ 569 → kd b ≠ 572 → f9 b = f b) ∧ (∀ b, kd b = 207 → fldI (f9 b) 1 = fldI (f b) 1) ∧ (∀ b, kd b = 207 → fldI (f9 b) 12 = fldI (f b) 12) ∧ (∀ b, kd b = 207 → fldR (f9 b) 0 = fldR (f b) 0) ∧ (∀ b, kd b = 207 → fldR (f9 b) 3 = fldR (f b) 3) ∧ (∀ b, kd b = 207 → fldR (f9 b) 11 = fldR (f b) 11) ∧ (∀ (w6 z6 : Int32), fldI (f o0) 6 = some w6 → fldI (f9 o0) 6 = some z6 → z6.toInt = w6.toInt + 1) ∧ (∀ b9 g9 h9, fldR (f o0) 3 = some b9 → f b9 = .inl (cI, 81, .inl g9) → f9 b9 = .inl (cI, 81, .inl h9) → (∀ j, 1 ≤ (g9 j).toInt → 1 ≤ (h9 j).toInt) ∧ (∀ j : Nat, (j : Int) = 9 * p1.toInt + p2.toInt → 1 ≤ (h9 j).toInt))) := by
  obtain ⟨dC, dI⟩ := D
  refine Met.ofW (cc := cX7_keepPair) (maxL := 5) (ret := none) (by decide) rfl ?_
  intro p e s m args below meth c s₁ B hml hv
  obtain ⟨rfl, hP, hK, hD0, hN, hZ⟩ := hv
  have hx := B.exec
  have hb := B.bytes
  have hr := B.returns
  have hU : ∀ w ∈ wsU, w.before _ s = true := fun w h => atoms_spec (ws := wU yX7_keepPair cX7_keepPair 5 none) B.pre w (List.mem_cons_of_mem _ h)
  have hown : s.vm.findClass RX7 = some m.cls := findClass_of_methodNamed B.named
  have hlocks := B.notSynchronized
  have hD := pl_in hD0
  have hS : va_S (fun q => q ∈ L) s.heap s.heap [] := va_S.rf
  have hl := lv_entry ([.ref o0, .int p1, .int p2, .int p3, .int p4]) (n := 5) (Nat.le_of_ble_eq_true rfl)
  rw [lg_entry_eq]
  generalize (lg_sl ([.ref o0, .int p1, .int p2, .int p3, .int p4]) ++ List.replicate (5 - (lg_sl ([.ref o0, .int p1, .int p2, .int p3, .int p4])).length) Slot.unset).toArray = ls at hl ⊢
  have hl : lv_has ls 5 [(0, .ref o0), (1, .int p1), (2, .int p2), (3, .int p3), (4, .int p4)] := hl
  have hfr0 : ∀ b, kd b ≠ 207 → kd b ≠ 568 → kd b ≠ 569 → kd b ≠ 572 → f b = f b := fun _ _ _ _ _ => rfl
  have hfr207_1 : ∀ b, kd b = 207 → fldI (f b) 1 = fldI (f b) 1 := fun _ _ => rfl
  have hfr207_12 : ∀ b, kd b = 207 → fldI (f b) 12 = fldI (f b) 12 := fun _ _ => rfl
  have hrr207_0 : ∀ b, kd b = 207 → fldR (f b) 0 = fldR (f b) 0 := fun _ _ => rfl
  have hrr207_3 : ∀ b, kd b = 207 → fldR (f b) 3 = fldR (f b) 3 := fun _ _ => rfl
  have hrr207_11 : ∀ b, kd b = 207 → fldR (f b) 11 = fldR (f b) 11 := fun _ _ => rfl
  obtain ⟨a_2, v_3, a_4, a_5, a_6, a_7, v_8, a_9, a_10, a_11, a_12, a_13, v_14, a_15, a_16, a_17, hfo_1, ⟨ma_2, ka_2⟩, bv_3, ⟨ma_4, ka_4⟩, ⟨ma_5, ka_5⟩, ⟨ma_6, ka_6⟩, ⟨ma_7, ka_7⟩, bv_8, ⟨ma_9, ka_9⟩, ⟨ma_10, ka_10⟩, ⟨ma_11, ka_11⟩, ⟨ma_12, ka_12⟩, ⟨ma_13, ka_13⟩, bv_14, ⟨ma_15, ka_15⟩, ⟨ma_16, ka_16⟩, ⟨ma_17, ka_17⟩⟩ := un_207 (hG _ mo0) ko0
  have hpo0 := hpreo0 v_8 v_3 (by rw [hfo_1]; rfl) (by rw [hfo_1]; rfl)
  obtain ⟨g_19, hfo_18, hbg_19⟩ := un_568 (hG _ ma_5) ka_5
  refine lv_aload_n hx hb dX7_keepPair_0 rfl (lv_at hl 0 rfl) ?_
  refine tk_getP (D := (dC, dI)) (ci := 7) (v := .ref a_6) (C := RX7) (T := TX7) (N := 16) hx hb hU inlX7 hown hK hP mo0 hfo_1 rfl 4 (by decide) (hU _ wd_75) (fun _ h9 => h9) rfl dX7_keepPair_1 ?_
  refine lv_aload_n hx hb dX7_keepPair_4 rfl (lv_at hl 0 rfl) ?_
  refine tk_getP (D := (dC, dI)) (ci := 7) (v := .int v_8) (C := RX7) (T := TX7) (N := 16) hx hb hU inlX7 hown hK hP mo0 hfo_1 rfl 6 (by decide) (hU _ wd_263) (fun _ h9 => h9) rfl dX7_keepPair_5 ?_
  refine lv_iload_n hx hb dX7_keepPair_8 rfl (lv_at hl 1 rfl) ?_
  obtain ⟨g_21, hfo_20, hbg_21⟩ := un_569 (hG _ ma_6) ka_6
  refine tk_istP hx hb hK hP hD hS 0 ma_6 hfo_20 rfl (vp_in_iff.mpr (by constructor <;> omega)) dX7_keepPair_9 (fun H locs hP hD hS => ?_)
  obtain ⟨g_22, eqg_22⟩ : ∃ y : Nat → Int32, y = upd g_21 (Int32.toNatClampNeg v_8) p1 := ⟨_, rfl⟩
  rw [← eqg_22] at hP hD
  have hbg_22 : ∀ j, 0 ≤ (g_22 j).toInt ∧ (g_22 j).toInt ≤ 8 := by rw [eqg_22]; exact okI_up hbg_21 (by constructor <;> omega) _
  obtain ⟨f_24, ef_24⟩ : ∃ y : Nat → va_E, y = va_up f a_6 (.inl (cI, 20, .inl g_22)) := ⟨_, rfl⟩
  have hP : va_P (dC, dI) vwCl (va_pl L f_24) H := by rw [ef_24]; exact hP
  have hD : va_D (fun q => q ∈ L) (va_pl L f_24) := by rw [ef_24]; exact hD
  have hG : GI (okc cI cL cZ cR cG cH L kd) kd L f_24 := by rw [ef_24]; exact hG.set a_6 (mk_569 ka_6 ⟨_, rfl, hbg_22⟩)
  have hfo_25 : f_24 o0 = .inr (7, [.ref a_2, .int v_3, .ref a_4, .ref a_5, .ref a_6, .ref a_7, .int v_8, .ref a_9, .ref a_10, .ref a_11, .ref a_12, .ref a_13, .int v_14, .ref a_15, .ref a_16, .ref a_17]) := by rw [ef_24, up_ne (kd_ne ka_6 ko0 (by decide))]; exact hfo_1
  have hfo_26 : f_24 a_5 = .inl (cI, 81, .inl g_19) := by rw [ef_24, up_ne (kd_ne ka_6 ka_5 (by decide))]; exact hfo_18
  have hfr0 : ∀ b, kd b ≠ 207 → kd b ≠ 568 → kd b ≠ 569 → kd b ≠ 572 → f_24 b = f b := fun b q207 q568 q569 q572 => (congrFun ef_24 b).trans ((up_ne (fun e9 => q569 (by rw [e9]; exact ka_6))).trans (hfr0 b q207 q568 q569 q572))
  have hfr207_1 : ∀ b, kd b = 207 → fldI (f_24 b) 1 = fldI (f b) 1 := fun b kb => (congrArg (fun x => fldI x 1) ((congrFun ef_24 b).trans (up_ne (kd_ne ka_6 kb (by decide))))).trans (hfr207_1 b kb)
  have hfr207_12 : ∀ b, kd b = 207 → fldI (f_24 b) 12 = fldI (f b) 12 := fun b kb => (congrArg (fun x => fldI x 12) ((congrFun ef_24 b).trans (up_ne (kd_ne ka_6 kb (by decide))))).trans (hfr207_12 b kb)
  have hrr207_0 : ∀ b, kd b = 207 → fldR (f_24 b) 0 = fldR (f b) 0 := fun b kb => (congrArg (fun x => fldR x 0) ((congrFun ef_24 b).trans (up_ne (kd_ne ka_6 kb (by decide))))).trans (hrr207_0 b kb)
  have hrr207_3 : ∀ b, kd b = 207 → fldR (f_24 b) 3 = fldR (f b) 3 := fun b kb => (congrArg (fun x => fldR x 3) ((congrFun ef_24 b).trans (up_ne (kd_ne ka_6 kb (by decide))))).trans (hrr207_3 b kb)
  have hrr207_11 : ∀ b, kd b = 207 → fldR (f_24 b) 11 = fldR (f b) 11 := fun b kb => (congrArg (fun x => fldR x 11) ((congrFun ef_24 b).trans (up_ne (kd_ne ka_6 kb (by decide))))).trans (hrr207_11 b kb)
  have hfo_27 : f_24 a_6 = .inl (cI, 20, .inl g_22) := by rw [ef_24]; exact up_self
  refine lv_aload_n hx hb dX7_keepPair_10 rfl (lv_at hl 0 rfl) ?_
  refine tk_getP (D := (dC, dI)) (ci := 7) (v := .ref a_7) (C := RX7) (T := TX7) (N := 16) hx hb hU inlX7 hown hK hP mo0 hfo_25 rfl 5 (by decide) (hU _ wd_76) (fun _ h9 => h9) rfl dX7_keepPair_11 ?_
  refine lv_aload_n hx hb dX7_keepPair_14 rfl (lv_at hl 0 rfl) ?_
  refine tk_getP (D := (dC, dI)) (ci := 7) (v := .int v_8) (C := RX7) (T := TX7) (N := 16) hx hb hU inlX7 hown hK hP mo0 hfo_25 rfl 6 (by decide) (hU _ wd_263) (fun _ h9 => h9) rfl dX7_keepPair_15 ?_
  refine lv_iload_n hx hb dX7_keepPair_18 rfl (lv_at hl 2 rfl) ?_
  obtain ⟨g_29, hfo_28, hbg_29⟩ := un_569 (hG _ ma_7) ka_7
  refine tk_istP hx hb hK hP hD hS 0 ma_7 hfo_28 rfl (vp_in_iff.mpr (by constructor <;> omega)) dX7_keepPair_19 (fun H locs hP hD hS => ?_)
  obtain ⟨g_30, eqg_30⟩ : ∃ y : Nat → Int32, y = upd g_29 (Int32.toNatClampNeg v_8) p2 := ⟨_, rfl⟩
  rw [← eqg_30] at hP hD
  have hbg_30 : ∀ j, 0 ≤ (g_30 j).toInt ∧ (g_30 j).toInt ≤ 8 := by rw [eqg_30]; exact okI_up hbg_29 (by constructor <;> omega) _
  obtain ⟨f_32, ef_32⟩ : ∃ y : Nat → va_E, y = va_up f_24 a_7 (.inl (cI, 20, .inl g_30)) := ⟨_, rfl⟩
  have hP : va_P (dC, dI) vwCl (va_pl L f_32) H := by rw [ef_32]; exact hP
  have hD : va_D (fun q => q ∈ L) (va_pl L f_32) := by rw [ef_32]; exact hD
  have hG : GI (okc cI cL cZ cR cG cH L kd) kd L f_32 := by rw [ef_32]; exact hG.set a_7 (mk_569 ka_7 ⟨_, rfl, hbg_30⟩)
  have hfo_33 : f_32 o0 = .inr (7, [.ref a_2, .int v_3, .ref a_4, .ref a_5, .ref a_6, .ref a_7, .int v_8, .ref a_9, .ref a_10, .ref a_11, .ref a_12, .ref a_13, .int v_14, .ref a_15, .ref a_16, .ref a_17]) := by rw [ef_32, up_ne (kd_ne ka_7 ko0 (by decide))]; exact hfo_25
  have hfo_34 : f_32 a_5 = .inl (cI, 81, .inl g_19) := by rw [ef_32, up_ne (kd_ne ka_7 ka_5 (by decide))]; exact hfo_26
  have hfr0 : ∀ b, kd b ≠ 207 → kd b ≠ 568 → kd b ≠ 569 → kd b ≠ 572 → f_32 b = f b := fun b q207 q568 q569 q572 => (congrFun ef_32 b).trans ((up_ne (fun e9 => q569 (by rw [e9]; exact ka_7))).trans (hfr0 b q207 q568 q569 q572))
  have hfr207_1 : ∀ b, kd b = 207 → fldI (f_32 b) 1 = fldI (f b) 1 := fun b kb => (congrArg (fun x => fldI x 1) ((congrFun ef_32 b).trans (up_ne (kd_ne ka_7 kb (by decide))))).trans (hfr207_1 b kb)
  have hfr207_12 : ∀ b, kd b = 207 → fldI (f_32 b) 12 = fldI (f b) 12 := fun b kb => (congrArg (fun x => fldI x 12) ((congrFun ef_32 b).trans (up_ne (kd_ne ka_7 kb (by decide))))).trans (hfr207_12 b kb)
  have hrr207_0 : ∀ b, kd b = 207 → fldR (f_32 b) 0 = fldR (f b) 0 := fun b kb => (congrArg (fun x => fldR x 0) ((congrFun ef_32 b).trans (up_ne (kd_ne ka_7 kb (by decide))))).trans (hrr207_0 b kb)
  have hrr207_3 : ∀ b, kd b = 207 → fldR (f_32 b) 3 = fldR (f b) 3 := fun b kb => (congrArg (fun x => fldR x 3) ((congrFun ef_32 b).trans (up_ne (kd_ne ka_7 kb (by decide))))).trans (hrr207_3 b kb)
  have hrr207_11 : ∀ b, kd b = 207 → fldR (f_32 b) 11 = fldR (f b) 11 := fun b kb => (congrArg (fun x => fldR x 11) ((congrFun ef_32 b).trans (up_ne (kd_ne ka_7 kb (by decide))))).trans (hrr207_11 b kb)
  have hfo_35 : f_32 a_7 = .inl (cI, 20, .inl g_30) := by rw [ef_32]; exact up_self
  refine lv_aload_n hx hb dX7_keepPair_20 rfl (lv_at hl 0 rfl) ?_
  refine lv_dup hx hb dX7_keepPair_21 rfl ?_
  refine tk_getP (D := (dC, dI)) (ci := 7) (v := .int v_8) (C := RX7) (T := TX7) (N := 16) hx hb hU inlX7 hown hK hP mo0 hfo_33 rfl 6 (by decide) (hU _ wd_263) (fun _ h9 => h9) rfl dX7_keepPair_22 ?_
  refine lv_iconst (v := 1) hx hb dX7_keepPair_25 (by decide) ?_
  refine lv_iadd hx hb dX7_keepPair_26 ?_
  refine lv_topi (fun x_36 ex_36 => ?_)
  have hx_36 : x_36.toInt = v_8.toInt + 1 := by rw [ex_36, ad_I (by rw [ti_1]; omega) (by rw [ti_1]; omega), ti_1]
  have bx_36 : (1 ≤ x_36.toInt ∧ x_36.toInt ≤ 20) := by constructor <;> omega
  refine tk_putP (D := (dC, dI)) (ci := 7) (v := .int x_36) (ty := .int) (C := RX7) (T := TX7) (N := 16) hx hb hU inlX7 tyX7 tyX7_ok nmX7 hown hK hP hD hS mo0 hfo_33 rfl 6 (by decide) (hU _ wd_263) (fun _ h9 => h9) rfl (by decide +kernel) rfl rfl (Nat.le_of_ble_eq_true rfl) dX7_keepPair_27 (fun H locs hP hD hS => ?_)
  obtain ⟨f_38, ef_38⟩ : ∃ y : Nat → va_E, y = va_up f_32 o0 (.inr (7, [.ref a_2, .int v_3, .ref a_4, .ref a_5, .ref a_6, .ref a_7, .int x_36, .ref a_9, .ref a_10, .ref a_11, .ref a_12, .ref a_13, .int v_14, .ref a_15, .ref a_16, .ref a_17])) := ⟨_, rfl⟩
  have hP : va_P (dC, dI) vwCl (va_pl L f_38) H := by rw [ef_38]; exact hP
  have hD : va_D (fun q => q ∈ L) (va_pl L f_38) := by rw [ef_38]; exact hD
  have hG : GI (okc cI cL cZ cR cG cH L kd) kd L f_38 := by rw [ef_38]; exact hG.set o0 (mk_207 ko0 ⟨a_2, v_3, a_4, a_5, a_6, a_7, x_36, a_9, a_10, a_11, a_12, a_13, v_14, a_15, a_16, a_17, rfl, ⟨ma_2, ka_2⟩, (by constructor <;> omega), ⟨ma_4, ka_4⟩, ⟨ma_5, ka_5⟩, ⟨ma_6, ka_6⟩, ⟨ma_7, ka_7⟩, (by constructor <;> omega), ⟨ma_9, ka_9⟩, ⟨ma_10, ka_10⟩, ⟨ma_11, ka_11⟩, ⟨ma_12, ka_12⟩, ⟨ma_13, ka_13⟩, (by constructor <;> omega), ⟨ma_15, ka_15⟩, ⟨ma_16, ka_16⟩, ⟨ma_17, ka_17⟩⟩)
  have hfo_39 : f_38 a_5 = .inl (cI, 81, .inl g_19) := by rw [ef_38, up_ne (kd_ne ko0 ka_5 (by decide))]; exact hfo_34
  have hfo_40 : f_38 a_7 = .inl (cI, 20, .inl g_30) := by rw [ef_38, up_ne (kd_ne ko0 ka_7 (by decide))]; exact hfo_35
  have hfr0 : ∀ b, kd b ≠ 207 → kd b ≠ 568 → kd b ≠ 569 → kd b ≠ 572 → f_38 b = f b := fun b q207 q568 q569 q572 => (congrFun ef_38 b).trans ((up_ne (fun e9 => q207 (by rw [e9]; exact ko0))).trans (hfr0 b q207 q568 q569 q572))
  have hfr207_1 : ∀ b, kd b = 207 → fldI (f_38 b) 1 = fldI (f b) 1 := fun b kb => ((congrArg (fun x => fldI x 1) (congrFun ef_38 b)).trans (fk_up (by rw [hfo_33]; rfl) b)).trans (hfr207_1 b kb)
  have hfr207_12 : ∀ b, kd b = 207 → fldI (f_38 b) 12 = fldI (f b) 12 := fun b kb => ((congrArg (fun x => fldI x 12) (congrFun ef_38 b)).trans (fk_up (by rw [hfo_33]; rfl) b)).trans (hfr207_12 b kb)
  have hrr207_0 : ∀ b, kd b = 207 → fldR (f_38 b) 0 = fldR (f b) 0 := fun b kb => ((congrArg (fun x => fldR x 0) (congrFun ef_38 b)).trans (fr_up (by rw [hfo_33]; rfl) b)).trans (hrr207_0 b kb)
  have hrr207_3 : ∀ b, kd b = 207 → fldR (f_38 b) 3 = fldR (f b) 3 := fun b kb => ((congrArg (fun x => fldR x 3) (congrFun ef_38 b)).trans (fr_up (by rw [hfo_33]; rfl) b)).trans (hrr207_3 b kb)
  have hrr207_11 : ∀ b, kd b = 207 → fldR (f_38 b) 11 = fldR (f b) 11 := fun b kb => ((congrArg (fun x => fldR x 11) (congrFun ef_38 b)).trans (fr_up (by rw [hfo_33]; rfl) b)).trans (hrr207_11 b kb)
  have hfo_41 : f_38 o0 = .inr (7, [.ref a_2, .int v_3, .ref a_4, .ref a_5, .ref a_6, .ref a_7, .int x_36, .ref a_9, .ref a_10, .ref a_11, .ref a_12, .ref a_13, .int v_14, .ref a_15, .ref a_16, .ref a_17]) := by rw [ef_38]; exact up_self
  refine lv_aload_n hx hb dX7_keepPair_30 rfl (lv_at hl 0 rfl) ?_
  refine tk_getP (D := (dC, dI)) (ci := 7) (v := .ref a_5) (C := RX7) (T := TX7) (N := 16) hx hb hU inlX7 hown hK hP mo0 hfo_41 rfl 3 (by decide) (hU _ wd_74) (fun _ h9 => h9) rfl dX7_keepPair_31 ?_
  refine lv_iload_n hx hb dX7_keepPair_34 rfl (lv_at hl 1 rfl) ?_
  refine lv_bipush (v := 9) hx hb dX7_keepPair_35 (by decide) ?_
  refine lv_imul hx hb dX7_keepPair_37 ?_
  refine lv_topi (fun x_42 ex_42 => ?_)
  have hx_42 : x_42.toInt = p1.toInt * 9 := by rw [ex_42, ml_I (by rw [ti_9]; omega) (by rw [ti_9]; omega), ti_9]
  have bx_42 : (0 ≤ x_42.toInt ∧ x_42.toInt ≤ 72) := by constructor <;> omega
  refine lv_iload_n hx hb dX7_keepPair_38 rfl (lv_at hl 2 rfl) ?_
  refine lv_iadd hx hb dX7_keepPair_39 ?_
  refine lv_topi (fun x_43 ex_43 => ?_)
  have hx_43 : x_43.toInt = x_42.toInt + p2.toInt := by rw [ex_43, ad_I (by omega) (by omega)]
  have bx_43 : (0 ≤ x_43.toInt ∧ x_43.toInt ≤ 80) := by constructor <;> omega
  refine lv_aload_n hx hb dX7_keepPair_40 rfl (lv_at hl 0 rfl) ?_
  refine tk_getP (D := (dC, dI)) (ci := 7) (v := .int x_36) (C := RX7) (T := TX7) (N := 16) hx hb hU inlX7 hown hK hP mo0 hfo_41 rfl 6 (by decide) (hU _ wd_263) (fun _ h9 => h9) rfl dX7_keepPair_41 ?_
  refine tk_istP hx hb hK hP hD hS 0 ma_5 hfo_39 rfl (vp_in_iff.mpr (by constructor <;> omega)) dX7_keepPair_44 (fun H locs hP hD hS => ?_)
  obtain ⟨g_44, eqg_44⟩ : ∃ y : Nat → Int32, y = upd g_19 (Int32.toNatClampNeg x_43) x_36 := ⟨_, rfl⟩
  rw [← eqg_44] at hP hD
  have hbg_44 : ∀ j, 0 ≤ (g_44 j).toInt ∧ (g_44 j).toInt ≤ 20 := by rw [eqg_44]; exact okI_up hbg_19 (by constructor <;> omega) _
  obtain ⟨f_46, ef_46⟩ : ∃ y : Nat → va_E, y = va_up f_38 a_5 (.inl (cI, 81, .inl g_44)) := ⟨_, rfl⟩
  have hP : va_P (dC, dI) vwCl (va_pl L f_46) H := by rw [ef_46]; exact hP
  have hD : va_D (fun q => q ∈ L) (va_pl L f_46) := by rw [ef_46]; exact hD
  have hG : GI (okc cI cL cZ cR cG cH L kd) kd L f_46 := by rw [ef_46]; exact hG.set a_5 (mk_568 ka_5 ⟨_, rfl, hbg_44⟩)
  have hfo_47 : f_46 a_7 = .inl (cI, 20, .inl g_30) := by rw [ef_46, up_ne (kd_ne ka_5 ka_7 (by decide))]; exact hfo_40
  have hfo_48 : f_46 o0 = .inr (7, [.ref a_2, .int v_3, .ref a_4, .ref a_5, .ref a_6, .ref a_7, .int x_36, .ref a_9, .ref a_10, .ref a_11, .ref a_12, .ref a_13, .int v_14, .ref a_15, .ref a_16, .ref a_17]) := by rw [ef_46, up_ne (kd_ne ka_5 ko0 (by decide))]; exact hfo_41
  have hfr0 : ∀ b, kd b ≠ 207 → kd b ≠ 568 → kd b ≠ 569 → kd b ≠ 572 → f_46 b = f b := fun b q207 q568 q569 q572 => (congrFun ef_46 b).trans ((up_ne (fun e9 => q568 (by rw [e9]; exact ka_5))).trans (hfr0 b q207 q568 q569 q572))
  have hfr207_1 : ∀ b, kd b = 207 → fldI (f_46 b) 1 = fldI (f b) 1 := fun b kb => (congrArg (fun x => fldI x 1) ((congrFun ef_46 b).trans (up_ne (kd_ne ka_5 kb (by decide))))).trans (hfr207_1 b kb)
  have hfr207_12 : ∀ b, kd b = 207 → fldI (f_46 b) 12 = fldI (f b) 12 := fun b kb => (congrArg (fun x => fldI x 12) ((congrFun ef_46 b).trans (up_ne (kd_ne ka_5 kb (by decide))))).trans (hfr207_12 b kb)
  have hrr207_0 : ∀ b, kd b = 207 → fldR (f_46 b) 0 = fldR (f b) 0 := fun b kb => (congrArg (fun x => fldR x 0) ((congrFun ef_46 b).trans (up_ne (kd_ne ka_5 kb (by decide))))).trans (hrr207_0 b kb)
  have hrr207_3 : ∀ b, kd b = 207 → fldR (f_46 b) 3 = fldR (f b) 3 := fun b kb => (congrArg (fun x => fldR x 3) ((congrFun ef_46 b).trans (up_ne (kd_ne ka_5 kb (by decide))))).trans (hrr207_3 b kb)
  have hrr207_11 : ∀ b, kd b = 207 → fldR (f_46 b) 11 = fldR (f b) 11 := fun b kb => (congrArg (fun x => fldR x 11) ((congrFun ef_46 b).trans (up_ne (kd_ne ka_5 kb (by decide))))).trans (hrr207_11 b kb)
  have hfo_49 : f_46 a_5 = .inl (cI, 81, .inl g_44) := by rw [ef_46]; exact up_self
  refine lv_aload_n hx hb dX7_keepPair_45 rfl (lv_at hl 0 rfl) ?_
  refine tk_getP (D := (dC, dI)) (ci := 7) (v := .ref a_11) (C := RX7) (T := TX7) (N := 16) hx hb hU inlX7 hown hK hP mo0 hfo_48 rfl 9 (by decide) (hU _ wd_79) (fun _ h9 => h9) rfl dX7_keepPair_46 ?_
  refine lv_iload_n hx hb dX7_keepPair_49 rfl (lv_at hl 1 rfl) ?_
  refine lv_iconst (v := 4) hx hb dX7_keepPair_50 (by decide) ?_
  refine lv_imul hx hb dX7_keepPair_51 ?_
  refine lv_topi (fun x_50 ex_50 => ?_)
  have hx_50 : x_50.toInt = p1.toInt * 4 := by rw [ex_50, ml_I (by rw [ti_4]; omega) (by rw [ti_4]; omega), ti_4]
  have bx_50 : (0 ≤ x_50.toInt ∧ x_50.toInt ≤ 32) := by constructor <;> omega
  refine lv_iload_n hx hb dX7_keepPair_52 rfl (lv_at hl 3 rfl) ?_
  refine lv_iadd hx hb dX7_keepPair_53 ?_
  refine lv_topi (fun x_51 ex_51 => ?_)
  have hx_51 : x_51.toInt = x_50.toInt + p3.toInt := by rw [ex_51, ad_I (by omega) (by omega)]
  have bx_51 : (0 ≤ x_51.toInt ∧ x_51.toInt ≤ 35) := by constructor <;> omega
  refine lv_aload_n hx hb dX7_keepPair_54 rfl (lv_at hl 0 rfl) ?_
  refine tk_getP (D := (dC, dI)) (ci := 7) (v := .int x_36) (C := RX7) (T := TX7) (N := 16) hx hb hU inlX7 hown hK hP mo0 hfo_48 rfl 6 (by decide) (hU _ wd_263) (fun _ h9 => h9) rfl dX7_keepPair_55 ?_
  obtain ⟨g_53, hfo_52, hbg_53⟩ := un_572 (hG _ ma_11) ka_11
  refine tk_istP hx hb hK hP hD hS 0 ma_11 hfo_52 rfl (vp_in_iff.mpr (by constructor <;> omega)) dX7_keepPair_58 (fun H locs hP hD hS => ?_)
  obtain ⟨g_54, eqg_54⟩ : ∃ y : Nat → Int32, y = upd g_53 (Int32.toNatClampNeg x_51) x_36 := ⟨_, rfl⟩
  rw [← eqg_54] at hP hD
  have hbg_54 : ∀ j, 0 ≤ (g_54 j).toInt ∧ (g_54 j).toInt ≤ 20 := by rw [eqg_54]; exact okI_up hbg_53 (by constructor <;> omega) _
  obtain ⟨f_56, ef_56⟩ : ∃ y : Nat → va_E, y = va_up f_46 a_11 (.inl (cI, 36, .inl g_54)) := ⟨_, rfl⟩
  have hP : va_P (dC, dI) vwCl (va_pl L f_56) H := by rw [ef_56]; exact hP
  have hD : va_D (fun q => q ∈ L) (va_pl L f_56) := by rw [ef_56]; exact hD
  have hG : GI (okc cI cL cZ cR cG cH L kd) kd L f_56 := by rw [ef_56]; exact hG.set a_11 (mk_572 ka_11 ⟨_, rfl, hbg_54⟩)
  have hfo_57 : f_56 a_7 = .inl (cI, 20, .inl g_30) := by rw [ef_56, up_ne (kd_ne ka_11 ka_7 (by decide))]; exact hfo_47
  have hfo_58 : f_56 o0 = .inr (7, [.ref a_2, .int v_3, .ref a_4, .ref a_5, .ref a_6, .ref a_7, .int x_36, .ref a_9, .ref a_10, .ref a_11, .ref a_12, .ref a_13, .int v_14, .ref a_15, .ref a_16, .ref a_17]) := by rw [ef_56, up_ne (kd_ne ka_11 ko0 (by decide))]; exact hfo_48
  have hfo_59 : f_56 a_5 = .inl (cI, 81, .inl g_44) := by rw [ef_56, up_ne (kd_ne ka_11 ka_5 (by decide))]; exact hfo_49
  have hfr0 : ∀ b, kd b ≠ 207 → kd b ≠ 568 → kd b ≠ 569 → kd b ≠ 572 → f_56 b = f b := fun b q207 q568 q569 q572 => (congrFun ef_56 b).trans ((up_ne (fun e9 => q572 (by rw [e9]; exact ka_11))).trans (hfr0 b q207 q568 q569 q572))
  have hfr207_1 : ∀ b, kd b = 207 → fldI (f_56 b) 1 = fldI (f b) 1 := fun b kb => (congrArg (fun x => fldI x 1) ((congrFun ef_56 b).trans (up_ne (kd_ne ka_11 kb (by decide))))).trans (hfr207_1 b kb)
  have hfr207_12 : ∀ b, kd b = 207 → fldI (f_56 b) 12 = fldI (f b) 12 := fun b kb => (congrArg (fun x => fldI x 12) ((congrFun ef_56 b).trans (up_ne (kd_ne ka_11 kb (by decide))))).trans (hfr207_12 b kb)
  have hrr207_0 : ∀ b, kd b = 207 → fldR (f_56 b) 0 = fldR (f b) 0 := fun b kb => (congrArg (fun x => fldR x 0) ((congrFun ef_56 b).trans (up_ne (kd_ne ka_11 kb (by decide))))).trans (hrr207_0 b kb)
  have hrr207_3 : ∀ b, kd b = 207 → fldR (f_56 b) 3 = fldR (f b) 3 := fun b kb => (congrArg (fun x => fldR x 3) ((congrFun ef_56 b).trans (up_ne (kd_ne ka_11 kb (by decide))))).trans (hrr207_3 b kb)
  have hrr207_11 : ∀ b, kd b = 207 → fldR (f_56 b) 11 = fldR (f b) 11 := fun b kb => (congrArg (fun x => fldR x 11) ((congrFun ef_56 b).trans (up_ne (kd_ne ka_11 kb (by decide))))).trans (hrr207_11 b kb)
  have hfo_60 : f_56 a_11 = .inl (cI, 36, .inl g_54) := by rw [ef_56]; exact up_self
  refine lv_aload_n hx hb dX7_keepPair_59 rfl (lv_at hl 0 rfl) ?_
  refine tk_getP (D := (dC, dI)) (ci := 7) (v := .ref a_12) (C := RX7) (T := TX7) (N := 16) hx hb hU inlX7 hown hK hP mo0 hfo_58 rfl 10 (by decide) (hU _ wd_80) (fun _ h9 => h9) rfl dX7_keepPair_60 ?_
  refine lv_iload_n hx hb dX7_keepPair_63 rfl (lv_at hl 2 rfl) ?_
  refine lv_iconst (v := 4) hx hb dX7_keepPair_64 (by decide) ?_
  refine lv_imul hx hb dX7_keepPair_65 ?_
  refine lv_topi (fun x_61 ex_61 => ?_)
  have hx_61 : x_61.toInt = p2.toInt * 4 := by rw [ex_61, ml_I (by rw [ti_4]; omega) (by rw [ti_4]; omega), ti_4]
  have bx_61 : (0 ≤ x_61.toInt ∧ x_61.toInt ≤ 32) := by constructor <;> omega
  refine lv_iload hx hb dX7_keepPair_66 (lv_at hl 4 rfl) ?_
  refine lv_iadd hx hb dX7_keepPair_68 ?_
  refine lv_topi (fun x_62 ex_62 => ?_)
  have hx_62 : x_62.toInt = x_61.toInt + p4.toInt := by rw [ex_62, ad_I (by omega) (by omega)]
  have bx_62 : (0 ≤ x_62.toInt ∧ x_62.toInt ≤ 35) := by constructor <;> omega
  refine lv_aload_n hx hb dX7_keepPair_69 rfl (lv_at hl 0 rfl) ?_
  refine tk_getP (D := (dC, dI)) (ci := 7) (v := .int x_36) (C := RX7) (T := TX7) (N := 16) hx hb hU inlX7 hown hK hP mo0 hfo_58 rfl 6 (by decide) (hU _ wd_263) (fun _ h9 => h9) rfl dX7_keepPair_70 ?_
  obtain ⟨g_64, hfo_63, hbg_64⟩ := un_572 (hG _ ma_12) ka_12
  refine tk_istP hx hb hK hP hD hS 0 ma_12 hfo_63 rfl (vp_in_iff.mpr (by constructor <;> omega)) dX7_keepPair_73 (fun H locs hP hD hS => ?_)
  obtain ⟨g_65, eqg_65⟩ : ∃ y : Nat → Int32, y = upd g_64 (Int32.toNatClampNeg x_62) x_36 := ⟨_, rfl⟩
  rw [← eqg_65] at hP hD
  have hbg_65 : ∀ j, 0 ≤ (g_65 j).toInt ∧ (g_65 j).toInt ≤ 20 := by rw [eqg_65]; exact okI_up hbg_64 (by constructor <;> omega) _
  obtain ⟨f_67, ef_67⟩ : ∃ y : Nat → va_E, y = va_up f_56 a_12 (.inl (cI, 36, .inl g_65)) := ⟨_, rfl⟩
  have hP : va_P (dC, dI) vwCl (va_pl L f_67) H := by rw [ef_67]; exact hP
  have hD : va_D (fun q => q ∈ L) (va_pl L f_67) := by rw [ef_67]; exact hD
  have hG : GI (okc cI cL cZ cR cG cH L kd) kd L f_67 := by rw [ef_67]; exact hG.set a_12 (mk_572 ka_12 ⟨_, rfl, hbg_65⟩)
  have hfo_68 : f_67 a_7 = .inl (cI, 20, .inl g_30) := by rw [ef_67, up_ne (kd_ne ka_12 ka_7 (by decide))]; exact hfo_57
  have hfo_69 : f_67 o0 = .inr (7, [.ref a_2, .int v_3, .ref a_4, .ref a_5, .ref a_6, .ref a_7, .int x_36, .ref a_9, .ref a_10, .ref a_11, .ref a_12, .ref a_13, .int v_14, .ref a_15, .ref a_16, .ref a_17]) := by rw [ef_67, up_ne (kd_ne ka_12 ko0 (by decide))]; exact hfo_58
  have hfo_70 : f_67 a_5 = .inl (cI, 81, .inl g_44) := by rw [ef_67, up_ne (kd_ne ka_12 ka_5 (by decide))]; exact hfo_59
  have hfr0 : ∀ b, kd b ≠ 207 → kd b ≠ 568 → kd b ≠ 569 → kd b ≠ 572 → f_67 b = f b := fun b q207 q568 q569 q572 => (congrFun ef_67 b).trans ((up_ne (fun e9 => q572 (by rw [e9]; exact ka_12))).trans (hfr0 b q207 q568 q569 q572))
  have hfr207_1 : ∀ b, kd b = 207 → fldI (f_67 b) 1 = fldI (f b) 1 := fun b kb => (congrArg (fun x => fldI x 1) ((congrFun ef_67 b).trans (up_ne (kd_ne ka_12 kb (by decide))))).trans (hfr207_1 b kb)
  have hfr207_12 : ∀ b, kd b = 207 → fldI (f_67 b) 12 = fldI (f b) 12 := fun b kb => (congrArg (fun x => fldI x 12) ((congrFun ef_67 b).trans (up_ne (kd_ne ka_12 kb (by decide))))).trans (hfr207_12 b kb)
  have hrr207_0 : ∀ b, kd b = 207 → fldR (f_67 b) 0 = fldR (f b) 0 := fun b kb => (congrArg (fun x => fldR x 0) ((congrFun ef_67 b).trans (up_ne (kd_ne ka_12 kb (by decide))))).trans (hrr207_0 b kb)
  have hrr207_3 : ∀ b, kd b = 207 → fldR (f_67 b) 3 = fldR (f b) 3 := fun b kb => (congrArg (fun x => fldR x 3) ((congrFun ef_67 b).trans (up_ne (kd_ne ka_12 kb (by decide))))).trans (hrr207_3 b kb)
  have hrr207_11 : ∀ b, kd b = 207 → fldR (f_67 b) 11 = fldR (f b) 11 := fun b kb => (congrArg (fun x => fldR x 11) ((congrFun ef_67 b).trans (up_ne (kd_ne ka_12 kb (by decide))))).trans (hrr207_11 b kb)
  have hfo_71 : f_67 a_12 = .inl (cI, 36, .inl g_65) := by rw [ef_67]; exact up_self
  exact W.vret hx hb hr (fun t ht hW => ⟨⟨f_67, rfl, ⟨hG, hfr0, hfr207_1, hfr207_12, hrr207_0, hrr207_3, hrr207_11, (by intro w6 z6 e6 d6; rw [hfo_1] at e6; rw [hfo_69] at d6; obtain rfl := Option.some.inj e6; obtain rfl := Option.some.inj d6; omega), (fun b9 g9 h9 h1 h2 h3 => by rw [hfo_1] at h1; obtain rfl := Option.some.inj h1; rw [hfo_18] at h2; cases h2; rw [hfo_70] at h3; cases h3; have hc9 := cl_I (i := x_43) (by omega); refine ⟨fun j hj => ?_, fun j hj => ?_⟩; (· rw [eqg_44]; by_cases hji : j = Int32.toNatClampNeg x_43; (· rw [hji, pk_us]; omega); (· rw [pk_un hji]; exact hj)); (· rw [eqg_44, show j = Int32.toNatClampNeg x_43 by omega, pk_us]; omega))⟩, by rw [ht]; exact hP, va_K.moved hW.alike hK, pl_in hD⟩, hS.F ht⟩) hS.2.2 dX7_keepPair_74
set_option maxHeartbeats 8000000 in
set_option maxRecDepth 100000 in
theorem s_X7_clear_k207_t (l : Launch) (D : va_G) (cI cL cZ cR cG cH : ClassId) (Z : zT) (kd : Nat → Nat) (L : List Nat) (f : Nat → va_E) (hG : GI (okc cI cL cZ cR cG cH L kd) kd L f) (o0 : Nat) (mo0 : o0 ∈ L) (ko0 : kd o0 = 207) : mPV l D cI cL cZ cR cG cH Z yX7_clear cX7_clear 1 none 1 23 [.ref o0] L f (fun (f9 : Nat → va_E) => GI (okc cI cL cZ cR cG cH L kd) kd L f9 ∧ (∀ b, kd b ≠ 207 → kd b ≠ 209 → kd b ≠ 213 → kd b ≠ 566 → kd b ≠ 567 → kd b ≠ 568 → kd b ≠ 570 → kd b ≠ 571 → kd b ≠ 572 → f9 b = f b) ∧ (∀ b, kd b = 207 → fldR (f9 b) 0 = fldR (f b) 0) ∧ (∀ b, kd b = 207 → fldR (f9 b) 3 = fldR (f b) 3) ∧ (∀ b, kd b = 207 → fldR (f9 b) 11 = fldR (f b) 11) ∧ (trel kd 207 566 568 573 204 f9 o0)) := by
  obtain ⟨dC, dI⟩ := D
  refine Met.ofW (cc := cX7_clear) (maxL := 1) (ret := none) (by decide) rfl ?_
  intro p e s m args below meth c s₁ B hml hv
  obtain ⟨rfl, hP, hK, hD0, hN, hZ⟩ := hv
  have hx := B.exec
  have hb := B.bytes
  have hr := B.returns
  have hU : ∀ w ∈ wsU, w.before _ s = true := fun w h => atoms_spec (ws := wU yX7_clear cX7_clear 1 none) B.pre w (List.mem_cons_of_mem _ h)
  have hown : s.vm.findClass RX7 = some m.cls := findClass_of_methodNamed B.named
  have hlocks := B.notSynchronized
  have hD := pl_in hD0
  have hS : va_S (fun q => q ∈ L) s.heap s.heap [] := va_S.rf
  have hl := lv_entry ([.ref o0]) (n := 1) (Nat.le_of_ble_eq_true rfl)
  rw [lg_entry_eq]
  generalize (lg_sl ([.ref o0]) ++ List.replicate (1 - (lg_sl ([.ref o0])).length) Slot.unset).toArray = ls at hl ⊢
  have hl : lv_has ls 1 [(0, .ref o0)] := hl
  have hfr0 : ∀ b, kd b ≠ 207 → kd b ≠ 209 → kd b ≠ 213 → kd b ≠ 566 → kd b ≠ 567 → kd b ≠ 568 → kd b ≠ 570 → kd b ≠ 571 → kd b ≠ 572 → f b = f b := fun _ _ _ _ _ _ _ _ _ _ => rfl
  have hrr207_0 : ∀ b, kd b = 207 → fldR (f b) 0 = fldR (f b) 0 := fun _ _ => rfl
  have hrr207_3 : ∀ b, kd b = 207 → fldR (f b) 3 = fldR (f b) 3 := fun _ _ => rfl
  have hrr207_11 : ∀ b, kd b = 207 → fldR (f b) 11 = fldR (f b) 11 := fun _ _ => rfl
  refine lv_aload_n hx hb dX7_clear_0 rfl (lv_at hl 0 rfl) ?_
  obtain ⟨a_2, v_3, a_4, a_5, a_6, a_7, v_8, a_9, a_10, a_11, a_12, a_13, v_14, a_15, a_16, a_17, hfo_1, ⟨ma_2, ka_2⟩, bv_3, ⟨ma_4, ka_4⟩, ⟨ma_5, ka_5⟩, ⟨ma_6, ka_6⟩, ⟨ma_7, ka_7⟩, bv_8, ⟨ma_9, ka_9⟩, ⟨ma_10, ka_10⟩, ⟨ma_11, ka_11⟩, ⟨ma_12, ka_12⟩, ⟨ma_13, ka_13⟩, bv_14, ⟨ma_15, ka_15⟩, ⟨ma_16, ka_16⟩, ⟨ma_17, ka_17⟩⟩ := un_207 (hG _ mo0) ko0
  refine tk_getP (D := (dC, dI)) (ci := 7) (v := .ref a_2) (C := RX7) (T := TX7) (N := 16) hx hb hU inlX7 hown hK hP mo0 hfo_1 rfl 0 (by decide) (hU _ wd_72) (fun _ h9 => h9) rfl dX7_clear_1 ?_
  refine lv_iconst (v := 0) hx hb dX7_clear_4 (by decide) ?_
  refine tk_SvP (As := [.ref a_2, .int 0]) (rest := []) (n := 2) hx hb hml hown hU hN hZ (s_J7_fill_53178_a566_z l (dC, dI) cI cL cZ cR cG cH Z kd L f hG a_2 ma_2 ka_2 0 (by decide)) wd_265 wd_266 wd_267 wd_268 (by decide +kernel) ⟨Nat.le_of_ble_eq_true rfl, Nat.le_of_ble_eq_true rfl⟩ hK hP hD hS rfl hl.1 rfl (Nat.le_of_ble_eq_true rfl) dX7_clear_5 ⟨Nat.le_of_ble_eq_true rfl, Nat.le_of_ble_eq_true rfl⟩ (fun f_19 H locs hw hP hD hS => ?_)
  obtain ⟨hG, hkc_20, hxp_21⟩ := hw
  have hfo_23 : f_19 o0 = .inr (7, [.ref a_2, .int v_3, .ref a_4, .ref a_5, .ref a_6, .ref a_7, .int v_8, .ref a_9, .ref a_10, .ref a_11, .ref a_12, .ref a_13, .int v_14, .ref a_15, .ref a_16, .ref a_17]) := by rw [hkc_20 o0 (by rw [ko0]; decide)]; exact hfo_1
  have hfr0 : ∀ b, kd b ≠ 207 → kd b ≠ 209 → kd b ≠ 213 → kd b ≠ 566 → kd b ≠ 567 → kd b ≠ 568 → kd b ≠ 570 → kd b ≠ 571 → kd b ≠ 572 → f_19 b = f b := fun b q207 q209 q213 q566 q567 q568 q570 q571 q572 => (hkc_20 b q566).trans (hfr0 b q207 q209 q213 q566 q567 q568 q570 q571 q572)
  have hrr207_0 : ∀ b, kd b = 207 → fldR (f_19 b) 0 = fldR (f b) 0 := fun b kb => (congrArg (fun x => fldR x 0) (hkc_20 b (by rw [kb]; decide))).trans (hrr207_0 b kb)
  have hrr207_3 : ∀ b, kd b = 207 → fldR (f_19 b) 3 = fldR (f b) 3 := fun b kb => (congrArg (fun x => fldR x 3) (hkc_20 b (by rw [kb]; decide))).trans (hrr207_3 b kb)
  have hrr207_11 : ∀ b, kd b = 207 → fldR (f_19 b) 11 = fldR (f b) 11 := fun b kb => (congrArg (fun x => fldR x 11) (hkc_20 b (by rw [kb]; decide))).trans (hrr207_11 b kb)
  obtain ⟨g_25, hfo_24, hbg_25⟩ := un_566 (hG _ ma_2) ka_2
  have hzg_25 := hxp_21 g_25 hfo_24
  refine lv_aload_n hx hb dX7_clear_8 rfl (lv_at hl 0 rfl) ?_
  refine lv_iconst (v := 0) hx hb dX7_clear_9 (by decide) ?_
  refine tk_putP (D := (dC, dI)) (ci := 7) (v := .int 0) (ty := .int) (C := RX7) (T := TX7) (N := 16) hx hb hU inlX7 tyX7 tyX7_ok nmX7 hown hK hP hD hS mo0 hfo_23 rfl 1 (by decide) (hU _ wd_262) (fun _ h9 => h9) rfl (by decide +kernel) rfl rfl (Nat.le_of_ble_eq_true rfl) dX7_clear_10 (fun H locs hP hD hS => ?_)
  obtain ⟨f_27, ef_27⟩ : ∃ y : Nat → va_E, y = va_up f_19 o0 (.inr (7, [.ref a_2, .int 0, .ref a_4, .ref a_5, .ref a_6, .ref a_7, .int v_8, .ref a_9, .ref a_10, .ref a_11, .ref a_12, .ref a_13, .int v_14, .ref a_15, .ref a_16, .ref a_17])) := ⟨_, rfl⟩
  have hP : va_P (dC, dI) vwCl (va_pl L f_27) H := by rw [ef_27]; exact hP
  have hD : va_D (fun q => q ∈ L) (va_pl L f_27) := by rw [ef_27]; exact hD
  have hG : GI (okc cI cL cZ cR cG cH L kd) kd L f_27 := by rw [ef_27]; exact hG.set o0 (mk_207 ko0 ⟨a_2, 0, a_4, a_5, a_6, a_7, v_8, a_9, a_10, a_11, a_12, a_13, v_14, a_15, a_16, a_17, rfl, ⟨ma_2, ka_2⟩, (by decide), ⟨ma_4, ka_4⟩, ⟨ma_5, ka_5⟩, ⟨ma_6, ka_6⟩, ⟨ma_7, ka_7⟩, (by constructor <;> omega), ⟨ma_9, ka_9⟩, ⟨ma_10, ka_10⟩, ⟨ma_11, ka_11⟩, ⟨ma_12, ka_12⟩, ⟨ma_13, ka_13⟩, (by constructor <;> omega), ⟨ma_15, ka_15⟩, ⟨ma_16, ka_16⟩, ⟨ma_17, ka_17⟩⟩)
  have hfo_28 : f_27 a_2 = .inl (cI, 26, .inl g_25) := by rw [ef_27, up_ne (kd_ne ko0 ka_2 (by decide))]; exact hfo_24
  have hfr0 : ∀ b, kd b ≠ 207 → kd b ≠ 209 → kd b ≠ 213 → kd b ≠ 566 → kd b ≠ 567 → kd b ≠ 568 → kd b ≠ 570 → kd b ≠ 571 → kd b ≠ 572 → f_27 b = f b := fun b q207 q209 q213 q566 q567 q568 q570 q571 q572 => (congrFun ef_27 b).trans ((up_ne (fun e9 => q207 (by rw [e9]; exact ko0))).trans (hfr0 b q207 q209 q213 q566 q567 q568 q570 q571 q572))
  have hrr207_0 : ∀ b, kd b = 207 → fldR (f_27 b) 0 = fldR (f b) 0 := fun b kb => ((congrArg (fun x => fldR x 0) (congrFun ef_27 b)).trans (fr_up (by rw [hfo_23]; rfl) b)).trans (hrr207_0 b kb)
  have hrr207_3 : ∀ b, kd b = 207 → fldR (f_27 b) 3 = fldR (f b) 3 := fun b kb => ((congrArg (fun x => fldR x 3) (congrFun ef_27 b)).trans (fr_up (by rw [hfo_23]; rfl) b)).trans (hrr207_3 b kb)
  have hrr207_11 : ∀ b, kd b = 207 → fldR (f_27 b) 11 = fldR (f b) 11 := fun b kb => ((congrArg (fun x => fldR x 11) (congrFun ef_27 b)).trans (fr_up (by rw [hfo_23]; rfl) b)).trans (hrr207_11 b kb)
  have hfo_29 : f_27 o0 = .inr (7, [.ref a_2, .int 0, .ref a_4, .ref a_5, .ref a_6, .ref a_7, .int v_8, .ref a_9, .ref a_10, .ref a_11, .ref a_12, .ref a_13, .int v_14, .ref a_15, .ref a_16, .ref a_17]) := by rw [ef_27]; exact up_self
  refine lv_aload_n hx hb dX7_clear_13 rfl (lv_at hl 0 rfl) ?_
  refine tk_getP (D := (dC, dI)) (ci := 7) (v := .ref a_4) (C := RX7) (T := TX7) (N := 16) hx hb hU inlX7 hown hK hP mo0 hfo_29 rfl 2 (by decide) (hU _ wd_73) (fun _ h9 => h9) rfl dX7_clear_14 ?_
  refine lv_iconst (v := 0) hx hb dX7_clear_17 (by decide) ?_
  refine tk_SvP (As := [.ref a_4, .int 0]) (rest := []) (n := 2) hx hb hml hown hU hN hZ (s_J7_fill_53178_a567 l (dC, dI) cI cL cZ cR cG cH Z kd L f_27 hG a_4 ma_4 ka_4 0 (by decide)) wd_265 wd_266 wd_267 wd_268 (by decide +kernel) ⟨Nat.le_of_ble_eq_true rfl, Nat.le_of_ble_eq_true rfl⟩ hK hP hD hS rfl hl.1 rfl (Nat.le_of_ble_eq_true rfl) dX7_clear_18 ⟨Nat.le_of_ble_eq_true rfl, Nat.le_of_ble_eq_true rfl⟩ (fun f_31 H locs hw hP hD hS => ?_)
  obtain ⟨hG, hkc_32⟩ := hw
  have hfo_34 : f_31 a_2 = .inl (cI, 26, .inl g_25) := by rw [hkc_32 a_2 (by rw [ka_2]; decide)]; exact hfo_28
  have hfo_35 : f_31 o0 = .inr (7, [.ref a_2, .int 0, .ref a_4, .ref a_5, .ref a_6, .ref a_7, .int v_8, .ref a_9, .ref a_10, .ref a_11, .ref a_12, .ref a_13, .int v_14, .ref a_15, .ref a_16, .ref a_17]) := by rw [hkc_32 o0 (by rw [ko0]; decide)]; exact hfo_29
  have hfr0 : ∀ b, kd b ≠ 207 → kd b ≠ 209 → kd b ≠ 213 → kd b ≠ 566 → kd b ≠ 567 → kd b ≠ 568 → kd b ≠ 570 → kd b ≠ 571 → kd b ≠ 572 → f_31 b = f b := fun b q207 q209 q213 q566 q567 q568 q570 q571 q572 => (hkc_32 b q567).trans (hfr0 b q207 q209 q213 q566 q567 q568 q570 q571 q572)
  have hrr207_0 : ∀ b, kd b = 207 → fldR (f_31 b) 0 = fldR (f b) 0 := fun b kb => (congrArg (fun x => fldR x 0) (hkc_32 b (by rw [kb]; decide))).trans (hrr207_0 b kb)
  have hrr207_3 : ∀ b, kd b = 207 → fldR (f_31 b) 3 = fldR (f b) 3 := fun b kb => (congrArg (fun x => fldR x 3) (hkc_32 b (by rw [kb]; decide))).trans (hrr207_3 b kb)
  have hrr207_11 : ∀ b, kd b = 207 → fldR (f_31 b) 11 = fldR (f b) 11 := fun b kb => (congrArg (fun x => fldR x 11) (hkc_32 b (by rw [kb]; decide))).trans (hrr207_11 b kb)
  refine lv_aload_n hx hb dX7_clear_21 rfl (lv_at hl 0 rfl) ?_
  refine tk_getP (D := (dC, dI)) (ci := 7) (v := .ref a_5) (C := RX7) (T := TX7) (N := 16) hx hb hU inlX7 hown hK hP mo0 hfo_35 rfl 3 (by decide) (hU _ wd_74) (fun _ h9 => h9) rfl dX7_clear_22 ?_
  refine lv_iconst (v := 0) hx hb dX7_clear_25 (by decide) ?_
  refine tk_SvP (As := [.ref a_5, .int 0]) (rest := []) (n := 2) hx hb hml hown hU hN hZ (s_J7_fill_53178_a568 l (dC, dI) cI cL cZ cR cG cH Z kd L f_31 hG a_5 ma_5 ka_5 0 (by decide)) wd_265 wd_266 wd_267 wd_268 (by decide +kernel) ⟨Nat.le_of_ble_eq_true rfl, Nat.le_of_ble_eq_true rfl⟩ hK hP hD hS rfl hl.1 rfl (Nat.le_of_ble_eq_true rfl) dX7_clear_26 ⟨Nat.le_of_ble_eq_true rfl, Nat.le_of_ble_eq_true rfl⟩ (fun f_37 H locs hw hP hD hS => ?_)
  obtain ⟨hG, hkc_38⟩ := hw
  have hfo_40 : f_37 a_2 = .inl (cI, 26, .inl g_25) := by rw [hkc_38 a_2 (by rw [ka_2]; decide)]; exact hfo_34
  have hfo_41 : f_37 o0 = .inr (7, [.ref a_2, .int 0, .ref a_4, .ref a_5, .ref a_6, .ref a_7, .int v_8, .ref a_9, .ref a_10, .ref a_11, .ref a_12, .ref a_13, .int v_14, .ref a_15, .ref a_16, .ref a_17]) := by rw [hkc_38 o0 (by rw [ko0]; decide)]; exact hfo_35
  have hfr0 : ∀ b, kd b ≠ 207 → kd b ≠ 209 → kd b ≠ 213 → kd b ≠ 566 → kd b ≠ 567 → kd b ≠ 568 → kd b ≠ 570 → kd b ≠ 571 → kd b ≠ 572 → f_37 b = f b := fun b q207 q209 q213 q566 q567 q568 q570 q571 q572 => (hkc_38 b q568).trans (hfr0 b q207 q209 q213 q566 q567 q568 q570 q571 q572)
  have hrr207_0 : ∀ b, kd b = 207 → fldR (f_37 b) 0 = fldR (f b) 0 := fun b kb => (congrArg (fun x => fldR x 0) (hkc_38 b (by rw [kb]; decide))).trans (hrr207_0 b kb)
  have hrr207_3 : ∀ b, kd b = 207 → fldR (f_37 b) 3 = fldR (f b) 3 := fun b kb => (congrArg (fun x => fldR x 3) (hkc_38 b (by rw [kb]; decide))).trans (hrr207_3 b kb)
  have hrr207_11 : ∀ b, kd b = 207 → fldR (f_37 b) 11 = fldR (f b) 11 := fun b kb => (congrArg (fun x => fldR x 11) (hkc_38 b (by rw [kb]; decide))).trans (hrr207_11 b kb)
  refine lv_aload_n hx hb dX7_clear_29 rfl (lv_at hl 0 rfl) ?_
  refine lv_iconst (v := 0) hx hb dX7_clear_30 (by decide) ?_
  refine tk_putP (D := (dC, dI)) (ci := 7) (v := .int 0) (ty := .int) (C := RX7) (T := TX7) (N := 16) hx hb hU inlX7 tyX7 tyX7_ok nmX7 hown hK hP hD hS mo0 hfo_41 rfl 6 (by decide) (hU _ wd_263) (fun _ h9 => h9) rfl (by decide +kernel) rfl rfl (Nat.le_of_ble_eq_true rfl) dX7_clear_31 (fun H locs hP hD hS => ?_)
  obtain ⟨f_43, ef_43⟩ : ∃ y : Nat → va_E, y = va_up f_37 o0 (.inr (7, [.ref a_2, .int 0, .ref a_4, .ref a_5, .ref a_6, .ref a_7, .int 0, .ref a_9, .ref a_10, .ref a_11, .ref a_12, .ref a_13, .int v_14, .ref a_15, .ref a_16, .ref a_17])) := ⟨_, rfl⟩
  have hP : va_P (dC, dI) vwCl (va_pl L f_43) H := by rw [ef_43]; exact hP
  have hD : va_D (fun q => q ∈ L) (va_pl L f_43) := by rw [ef_43]; exact hD
  have hG : GI (okc cI cL cZ cR cG cH L kd) kd L f_43 := by rw [ef_43]; exact hG.set o0 (mk_207 ko0 ⟨a_2, 0, a_4, a_5, a_6, a_7, 0, a_9, a_10, a_11, a_12, a_13, v_14, a_15, a_16, a_17, rfl, ⟨ma_2, ka_2⟩, (by decide), ⟨ma_4, ka_4⟩, ⟨ma_5, ka_5⟩, ⟨ma_6, ka_6⟩, ⟨ma_7, ka_7⟩, (by decide), ⟨ma_9, ka_9⟩, ⟨ma_10, ka_10⟩, ⟨ma_11, ka_11⟩, ⟨ma_12, ka_12⟩, ⟨ma_13, ka_13⟩, (by constructor <;> omega), ⟨ma_15, ka_15⟩, ⟨ma_16, ka_16⟩, ⟨ma_17, ka_17⟩⟩)
  have hfo_44 : f_43 a_2 = .inl (cI, 26, .inl g_25) := by rw [ef_43, up_ne (kd_ne ko0 ka_2 (by decide))]; exact hfo_40
  have hfr0 : ∀ b, kd b ≠ 207 → kd b ≠ 209 → kd b ≠ 213 → kd b ≠ 566 → kd b ≠ 567 → kd b ≠ 568 → kd b ≠ 570 → kd b ≠ 571 → kd b ≠ 572 → f_43 b = f b := fun b q207 q209 q213 q566 q567 q568 q570 q571 q572 => (congrFun ef_43 b).trans ((up_ne (fun e9 => q207 (by rw [e9]; exact ko0))).trans (hfr0 b q207 q209 q213 q566 q567 q568 q570 q571 q572))
  have hrr207_0 : ∀ b, kd b = 207 → fldR (f_43 b) 0 = fldR (f b) 0 := fun b kb => ((congrArg (fun x => fldR x 0) (congrFun ef_43 b)).trans (fr_up (by rw [hfo_41]; rfl) b)).trans (hrr207_0 b kb)
  have hrr207_3 : ∀ b, kd b = 207 → fldR (f_43 b) 3 = fldR (f b) 3 := fun b kb => ((congrArg (fun x => fldR x 3) (congrFun ef_43 b)).trans (fr_up (by rw [hfo_41]; rfl) b)).trans (hrr207_3 b kb)
  have hrr207_11 : ∀ b, kd b = 207 → fldR (f_43 b) 11 = fldR (f b) 11 := fun b kb => ((congrArg (fun x => fldR x 11) (congrFun ef_43 b)).trans (fr_up (by rw [hfo_41]; rfl) b)).trans (hrr207_11 b kb)
  have hfo_45 : f_43 o0 = .inr (7, [.ref a_2, .int 0, .ref a_4, .ref a_5, .ref a_6, .ref a_7, .int 0, .ref a_9, .ref a_10, .ref a_11, .ref a_12, .ref a_13, .int v_14, .ref a_15, .ref a_16, .ref a_17]) := by rw [ef_43]; exact up_self
  refine lv_aload_n hx hb dX7_clear_34 rfl (lv_at hl 0 rfl) ?_
  refine tk_getP (D := (dC, dI)) (ci := 7) (v := .ref a_9) (C := RX7) (T := TX7) (N := 16) hx hb hU inlX7 hown hK hP mo0 hfo_45 rfl 7 (by decide) (hU _ wd_77) (fun _ h9 => h9) rfl dX7_clear_35 ?_
  refine lv_iconst (v := 0) hx hb dX7_clear_38 (by decide) ?_
  refine tk_SvP (As := [.ref a_9, .int 0]) (rest := []) (n := 2) hx hb hml hown hU hN hZ (s_J7_fill_53178_a570 l (dC, dI) cI cL cZ cR cG cH Z kd L f_43 hG a_9 ma_9 ka_9 0 (by decide)) wd_265 wd_266 wd_267 wd_268 (by decide +kernel) ⟨Nat.le_of_ble_eq_true rfl, Nat.le_of_ble_eq_true rfl⟩ hK hP hD hS rfl hl.1 rfl (Nat.le_of_ble_eq_true rfl) dX7_clear_39 ⟨Nat.le_of_ble_eq_true rfl, Nat.le_of_ble_eq_true rfl⟩ (fun f_47 H locs hw hP hD hS => ?_)
  obtain ⟨hG, hkc_48⟩ := hw
  have hfo_50 : f_47 a_2 = .inl (cI, 26, .inl g_25) := by rw [hkc_48 a_2 (by rw [ka_2]; decide)]; exact hfo_44
  have hfo_51 : f_47 o0 = .inr (7, [.ref a_2, .int 0, .ref a_4, .ref a_5, .ref a_6, .ref a_7, .int 0, .ref a_9, .ref a_10, .ref a_11, .ref a_12, .ref a_13, .int v_14, .ref a_15, .ref a_16, .ref a_17]) := by rw [hkc_48 o0 (by rw [ko0]; decide)]; exact hfo_45
  have hfr0 : ∀ b, kd b ≠ 207 → kd b ≠ 209 → kd b ≠ 213 → kd b ≠ 566 → kd b ≠ 567 → kd b ≠ 568 → kd b ≠ 570 → kd b ≠ 571 → kd b ≠ 572 → f_47 b = f b := fun b q207 q209 q213 q566 q567 q568 q570 q571 q572 => (hkc_48 b q570).trans (hfr0 b q207 q209 q213 q566 q567 q568 q570 q571 q572)
  have hrr207_0 : ∀ b, kd b = 207 → fldR (f_47 b) 0 = fldR (f b) 0 := fun b kb => (congrArg (fun x => fldR x 0) (hkc_48 b (by rw [kb]; decide))).trans (hrr207_0 b kb)
  have hrr207_3 : ∀ b, kd b = 207 → fldR (f_47 b) 3 = fldR (f b) 3 := fun b kb => (congrArg (fun x => fldR x 3) (hkc_48 b (by rw [kb]; decide))).trans (hrr207_3 b kb)
  have hrr207_11 : ∀ b, kd b = 207 → fldR (f_47 b) 11 = fldR (f b) 11 := fun b kb => (congrArg (fun x => fldR x 11) (hkc_48 b (by rw [kb]; decide))).trans (hrr207_11 b kb)
  refine lv_aload_n hx hb dX7_clear_42 rfl (lv_at hl 0 rfl) ?_
  refine tk_getP (D := (dC, dI)) (ci := 7) (v := .ref a_10) (C := RX7) (T := TX7) (N := 16) hx hb hU inlX7 hown hK hP mo0 hfo_51 rfl 8 (by decide) (hU _ wd_78) (fun _ h9 => h9) rfl dX7_clear_43 ?_
  refine lv_iconst (v := 0) hx hb dX7_clear_46 (by decide) ?_
  refine tk_SvP (As := [.ref a_10, .int 0]) (rest := []) (n := 2) hx hb hml hown hU hN hZ (s_J7_fill_53178_a571 l (dC, dI) cI cL cZ cR cG cH Z kd L f_47 hG a_10 ma_10 ka_10 0 (by decide)) wd_265 wd_266 wd_267 wd_268 (by decide +kernel) ⟨Nat.le_of_ble_eq_true rfl, Nat.le_of_ble_eq_true rfl⟩ hK hP hD hS rfl hl.1 rfl (Nat.le_of_ble_eq_true rfl) dX7_clear_47 ⟨Nat.le_of_ble_eq_true rfl, Nat.le_of_ble_eq_true rfl⟩ (fun f_53 H locs hw hP hD hS => ?_)
  obtain ⟨hG, hkc_54⟩ := hw
  have hfo_56 : f_53 a_2 = .inl (cI, 26, .inl g_25) := by rw [hkc_54 a_2 (by rw [ka_2]; decide)]; exact hfo_50
  have hfo_57 : f_53 o0 = .inr (7, [.ref a_2, .int 0, .ref a_4, .ref a_5, .ref a_6, .ref a_7, .int 0, .ref a_9, .ref a_10, .ref a_11, .ref a_12, .ref a_13, .int v_14, .ref a_15, .ref a_16, .ref a_17]) := by rw [hkc_54 o0 (by rw [ko0]; decide)]; exact hfo_51
  have hfr0 : ∀ b, kd b ≠ 207 → kd b ≠ 209 → kd b ≠ 213 → kd b ≠ 566 → kd b ≠ 567 → kd b ≠ 568 → kd b ≠ 570 → kd b ≠ 571 → kd b ≠ 572 → f_53 b = f b := fun b q207 q209 q213 q566 q567 q568 q570 q571 q572 => (hkc_54 b q571).trans (hfr0 b q207 q209 q213 q566 q567 q568 q570 q571 q572)
  have hrr207_0 : ∀ b, kd b = 207 → fldR (f_53 b) 0 = fldR (f b) 0 := fun b kb => (congrArg (fun x => fldR x 0) (hkc_54 b (by rw [kb]; decide))).trans (hrr207_0 b kb)
  have hrr207_3 : ∀ b, kd b = 207 → fldR (f_53 b) 3 = fldR (f b) 3 := fun b kb => (congrArg (fun x => fldR x 3) (hkc_54 b (by rw [kb]; decide))).trans (hrr207_3 b kb)
  have hrr207_11 : ∀ b, kd b = 207 → fldR (f_53 b) 11 = fldR (f b) 11 := fun b kb => (congrArg (fun x => fldR x 11) (hkc_54 b (by rw [kb]; decide))).trans (hrr207_11 b kb)
  refine lv_aload_n hx hb dX7_clear_50 rfl (lv_at hl 0 rfl) ?_
  refine tk_getP (D := (dC, dI)) (ci := 7) (v := .ref a_11) (C := RX7) (T := TX7) (N := 16) hx hb hU inlX7 hown hK hP mo0 hfo_57 rfl 9 (by decide) (hU _ wd_79) (fun _ h9 => h9) rfl dX7_clear_51 ?_
  refine lv_iconst (v := 0) hx hb dX7_clear_54 (by decide) ?_
  refine tk_SvP (As := [.ref a_11, .int 0]) (rest := []) (n := 2) hx hb hml hown hU hN hZ (s_J7_fill_53178_a572 l (dC, dI) cI cL cZ cR cG cH Z kd L f_53 hG a_11 ma_11 ka_11 0 (by decide)) wd_265 wd_266 wd_267 wd_268 (by decide +kernel) ⟨Nat.le_of_ble_eq_true rfl, Nat.le_of_ble_eq_true rfl⟩ hK hP hD hS rfl hl.1 rfl (Nat.le_of_ble_eq_true rfl) dX7_clear_55 ⟨Nat.le_of_ble_eq_true rfl, Nat.le_of_ble_eq_true rfl⟩ (fun f_59 H locs hw hP hD hS => ?_)
  obtain ⟨hG, hkc_60⟩ := hw
  have hfo_62 : f_59 a_2 = .inl (cI, 26, .inl g_25) := by rw [hkc_60 a_2 (by rw [ka_2]; decide)]; exact hfo_56
  have hfo_63 : f_59 o0 = .inr (7, [.ref a_2, .int 0, .ref a_4, .ref a_5, .ref a_6, .ref a_7, .int 0, .ref a_9, .ref a_10, .ref a_11, .ref a_12, .ref a_13, .int v_14, .ref a_15, .ref a_16, .ref a_17]) := by rw [hkc_60 o0 (by rw [ko0]; decide)]; exact hfo_57
  have hfr0 : ∀ b, kd b ≠ 207 → kd b ≠ 209 → kd b ≠ 213 → kd b ≠ 566 → kd b ≠ 567 → kd b ≠ 568 → kd b ≠ 570 → kd b ≠ 571 → kd b ≠ 572 → f_59 b = f b := fun b q207 q209 q213 q566 q567 q568 q570 q571 q572 => (hkc_60 b q572).trans (hfr0 b q207 q209 q213 q566 q567 q568 q570 q571 q572)
  have hrr207_0 : ∀ b, kd b = 207 → fldR (f_59 b) 0 = fldR (f b) 0 := fun b kb => (congrArg (fun x => fldR x 0) (hkc_60 b (by rw [kb]; decide))).trans (hrr207_0 b kb)
  have hrr207_3 : ∀ b, kd b = 207 → fldR (f_59 b) 3 = fldR (f b) 3 := fun b kb => (congrArg (fun x => fldR x 3) (hkc_60 b (by rw [kb]; decide))).trans (hrr207_3 b kb)
  have hrr207_11 : ∀ b, kd b = 207 → fldR (f_59 b) 11 = fldR (f b) 11 := fun b kb => (congrArg (fun x => fldR x 11) (hkc_60 b (by rw [kb]; decide))).trans (hrr207_11 b kb)
  refine lv_aload_n hx hb dX7_clear_58 rfl (lv_at hl 0 rfl) ?_
  refine tk_getP (D := (dC, dI)) (ci := 7) (v := .ref a_12) (C := RX7) (T := TX7) (N := 16) hx hb hU inlX7 hown hK hP mo0 hfo_63 rfl 10 (by decide) (hU _ wd_80) (fun _ h9 => h9) rfl dX7_clear_59 ?_
  refine lv_iconst (v := 0) hx hb dX7_clear_62 (by decide) ?_
  refine tk_SvP (As := [.ref a_12, .int 0]) (rest := []) (n := 2) hx hb hml hown hU hN hZ (s_J7_fill_53178_a572 l (dC, dI) cI cL cZ cR cG cH Z kd L f_59 hG a_12 ma_12 ka_12 0 (by decide)) wd_265 wd_266 wd_267 wd_268 (by decide +kernel) ⟨Nat.le_of_ble_eq_true rfl, Nat.le_of_ble_eq_true rfl⟩ hK hP hD hS rfl hl.1 rfl (Nat.le_of_ble_eq_true rfl) dX7_clear_63 ⟨Nat.le_of_ble_eq_true rfl, Nat.le_of_ble_eq_true rfl⟩ (fun f_65 H locs hw hP hD hS => ?_)
  obtain ⟨hG, hkc_66⟩ := hw
  have hfo_68 : f_65 a_2 = .inl (cI, 26, .inl g_25) := by rw [hkc_66 a_2 (by rw [ka_2]; decide)]; exact hfo_62
  have hfo_69 : f_65 o0 = .inr (7, [.ref a_2, .int 0, .ref a_4, .ref a_5, .ref a_6, .ref a_7, .int 0, .ref a_9, .ref a_10, .ref a_11, .ref a_12, .ref a_13, .int v_14, .ref a_15, .ref a_16, .ref a_17]) := by rw [hkc_66 o0 (by rw [ko0]; decide)]; exact hfo_63
  have hfr0 : ∀ b, kd b ≠ 207 → kd b ≠ 209 → kd b ≠ 213 → kd b ≠ 566 → kd b ≠ 567 → kd b ≠ 568 → kd b ≠ 570 → kd b ≠ 571 → kd b ≠ 572 → f_65 b = f b := fun b q207 q209 q213 q566 q567 q568 q570 q571 q572 => (hkc_66 b q572).trans (hfr0 b q207 q209 q213 q566 q567 q568 q570 q571 q572)
  have hrr207_0 : ∀ b, kd b = 207 → fldR (f_65 b) 0 = fldR (f b) 0 := fun b kb => (congrArg (fun x => fldR x 0) (hkc_66 b (by rw [kb]; decide))).trans (hrr207_0 b kb)
  have hrr207_3 : ∀ b, kd b = 207 → fldR (f_65 b) 3 = fldR (f b) 3 := fun b kb => (congrArg (fun x => fldR x 3) (hkc_66 b (by rw [kb]; decide))).trans (hrr207_3 b kb)
  have hrr207_11 : ∀ b, kd b = 207 → fldR (f_65 b) 11 = fldR (f b) 11 := fun b kb => (congrArg (fun x => fldR x 11) (hkc_66 b (by rw [kb]; decide))).trans (hrr207_11 b kb)
  refine lv_aload_n hx hb dX7_clear_66 rfl (lv_at hl 0 rfl) ?_
  refine lv_iconst (v := 0) hx hb dX7_clear_67 (by decide) ?_
  refine tk_putP (D := (dC, dI)) (ci := 7) (v := .int 0) (ty := .int) (C := RX7) (T := TX7) (N := 16) hx hb hU inlX7 tyX7 tyX7_ok nmX7 hown hK hP hD hS mo0 hfo_69 rfl 12 (by decide) (hU _ wd_264) (fun _ h9 => h9) rfl (by decide +kernel) rfl rfl (Nat.le_of_ble_eq_true rfl) dX7_clear_68 (fun H locs hP hD hS => ?_)
  obtain ⟨f_71, ef_71⟩ : ∃ y : Nat → va_E, y = va_up f_65 o0 (.inr (7, [.ref a_2, .int 0, .ref a_4, .ref a_5, .ref a_6, .ref a_7, .int 0, .ref a_9, .ref a_10, .ref a_11, .ref a_12, .ref a_13, .int 0, .ref a_15, .ref a_16, .ref a_17])) := ⟨_, rfl⟩
  have hP : va_P (dC, dI) vwCl (va_pl L f_71) H := by rw [ef_71]; exact hP
  have hD : va_D (fun q => q ∈ L) (va_pl L f_71) := by rw [ef_71]; exact hD
  have hG : GI (okc cI cL cZ cR cG cH L kd) kd L f_71 := by rw [ef_71]; exact hG.set o0 (mk_207 ko0 ⟨a_2, 0, a_4, a_5, a_6, a_7, 0, a_9, a_10, a_11, a_12, a_13, 0, a_15, a_16, a_17, rfl, ⟨ma_2, ka_2⟩, (by decide), ⟨ma_4, ka_4⟩, ⟨ma_5, ka_5⟩, ⟨ma_6, ka_6⟩, ⟨ma_7, ka_7⟩, (by decide), ⟨ma_9, ka_9⟩, ⟨ma_10, ka_10⟩, ⟨ma_11, ka_11⟩, ⟨ma_12, ka_12⟩, ⟨ma_13, ka_13⟩, (by decide), ⟨ma_15, ka_15⟩, ⟨ma_16, ka_16⟩, ⟨ma_17, ka_17⟩⟩)
  have hfo_72 : f_71 a_2 = .inl (cI, 26, .inl g_25) := by rw [ef_71, up_ne (kd_ne ko0 ka_2 (by decide))]; exact hfo_68
  have hfr0 : ∀ b, kd b ≠ 207 → kd b ≠ 209 → kd b ≠ 213 → kd b ≠ 566 → kd b ≠ 567 → kd b ≠ 568 → kd b ≠ 570 → kd b ≠ 571 → kd b ≠ 572 → f_71 b = f b := fun b q207 q209 q213 q566 q567 q568 q570 q571 q572 => (congrFun ef_71 b).trans ((up_ne (fun e9 => q207 (by rw [e9]; exact ko0))).trans (hfr0 b q207 q209 q213 q566 q567 q568 q570 q571 q572))
  have hrr207_0 : ∀ b, kd b = 207 → fldR (f_71 b) 0 = fldR (f b) 0 := fun b kb => ((congrArg (fun x => fldR x 0) (congrFun ef_71 b)).trans (fr_up (by rw [hfo_69]; rfl) b)).trans (hrr207_0 b kb)
  have hrr207_3 : ∀ b, kd b = 207 → fldR (f_71 b) 3 = fldR (f b) 3 := fun b kb => ((congrArg (fun x => fldR x 3) (congrFun ef_71 b)).trans (fr_up (by rw [hfo_69]; rfl) b)).trans (hrr207_3 b kb)
  have hrr207_11 : ∀ b, kd b = 207 → fldR (f_71 b) 11 = fldR (f b) 11 := fun b kb => ((congrArg (fun x => fldR x 11) (congrFun ef_71 b)).trans (fr_up (by rw [hfo_69]; rfl) b)).trans (hrr207_11 b kb)
  have hfo_73 : f_71 o0 = .inr (7, [.ref a_2, .int 0, .ref a_4, .ref a_5, .ref a_6, .ref a_7, .int 0, .ref a_9, .ref a_10, .ref a_11, .ref a_12, .ref a_13, .int 0, .ref a_15, .ref a_16, .ref a_17]) := by rw [ef_71]; exact up_self
  refine lv_aload_n hx hb dX7_clear_71 rfl (lv_at hl 0 rfl) ?_
  refine tk_getP (D := (dC, dI)) (ci := 7) (v := .ref a_15) (C := RX7) (T := TX7) (N := 16) hx hb hU inlX7 hown hK hP mo0 hfo_73 rfl 13 (by decide) (hU _ wd_86) (fun _ h9 => h9) rfl dX7_clear_72 ?_
  obtain ⟨a_75, a_76, v_77, hfo_74, ⟨ma_75, ka_75⟩, ⟨ma_76, ka_76⟩, bv_77⟩ := un_209 (hG _ ma_15) ka_15
  refine tk_VvP (As := []) (rest := []) (n := 0) hx hb hml hown hU hN hZ (s_X9_clear_k209 l (dC, dI) cI cL cZ cR cG cH Z kd L f_71 hG a_15 ma_15 ka_15) wd_269 wd_270 wd_271 wd_85 wd_272 (by decide +kernel) ⟨Nat.le_of_ble_eq_true rfl, Nat.le_of_ble_eq_true rfl⟩ hK hP hD hS ma_15 hfo_74 9 rfl rfl rfl hl.1 rfl (Nat.le_of_ble_eq_true rfl) dX7_clear_75 ⟨Nat.le_of_ble_eq_true rfl, Nat.le_of_ble_eq_true rfl⟩ (fun f_79 H locs hw hP hD hS => ?_)
  obtain ⟨hG, hkc_80⟩ := hw
  have hfo_82 : f_79 a_2 = .inl (cI, 26, .inl g_25) := by rw [hkc_80 a_2 (by rw [ka_2]; decide)]; exact hfo_72
  have hfo_83 : f_79 o0 = .inr (7, [.ref a_2, .int 0, .ref a_4, .ref a_5, .ref a_6, .ref a_7, .int 0, .ref a_9, .ref a_10, .ref a_11, .ref a_12, .ref a_13, .int 0, .ref a_15, .ref a_16, .ref a_17]) := by rw [hkc_80 o0 (by rw [ko0]; decide)]; exact hfo_73
  have hfr0 : ∀ b, kd b ≠ 207 → kd b ≠ 209 → kd b ≠ 213 → kd b ≠ 566 → kd b ≠ 567 → kd b ≠ 568 → kd b ≠ 570 → kd b ≠ 571 → kd b ≠ 572 → f_79 b = f b := fun b q207 q209 q213 q566 q567 q568 q570 q571 q572 => (hkc_80 b q209).trans (hfr0 b q207 q209 q213 q566 q567 q568 q570 q571 q572)
  have hrr207_0 : ∀ b, kd b = 207 → fldR (f_79 b) 0 = fldR (f b) 0 := fun b kb => (congrArg (fun x => fldR x 0) (hkc_80 b (by rw [kb]; decide))).trans (hrr207_0 b kb)
  have hrr207_3 : ∀ b, kd b = 207 → fldR (f_79 b) 3 = fldR (f b) 3 := fun b kb => (congrArg (fun x => fldR x 3) (hkc_80 b (by rw [kb]; decide))).trans (hrr207_3 b kb)
  have hrr207_11 : ∀ b, kd b = 207 → fldR (f_79 b) 11 = fldR (f b) 11 := fun b kb => (congrArg (fun x => fldR x 11) (hkc_80 b (by rw [kb]; decide))).trans (hrr207_11 b kb)
  refine lv_aload_n hx hb dX7_clear_78 rfl (lv_at hl 0 rfl) ?_
  refine tk_getP (D := (dC, dI)) (ci := 7) (v := .ref a_16) (C := RX7) (T := TX7) (N := 16) hx hb hU inlX7 hown hK hP mo0 hfo_83 rfl 14 (by decide) (hU _ wd_87) (fun _ h9 => h9) rfl dX7_clear_79 ?_
  obtain ⟨a_85, a_86, v_87, hfo_84, ⟨ma_85, ka_85⟩, ⟨ma_86, ka_86⟩, bv_87⟩ := un_213 (hG _ ma_16) ka_16
  refine tk_VvP (As := []) (rest := []) (n := 0) hx hb hml hown hU hN hZ (s_X9_clear_k213 l (dC, dI) cI cL cZ cR cG cH Z kd L f_79 hG a_16 ma_16 ka_16) wd_269 wd_270 wd_271 wd_85 wd_272 (by decide +kernel) ⟨Nat.le_of_ble_eq_true rfl, Nat.le_of_ble_eq_true rfl⟩ hK hP hD hS ma_16 hfo_84 9 rfl rfl rfl hl.1 rfl (Nat.le_of_ble_eq_true rfl) dX7_clear_82 ⟨Nat.le_of_ble_eq_true rfl, Nat.le_of_ble_eq_true rfl⟩ (fun f_89 H locs hw hP hD hS => ?_)
  obtain ⟨hG, hkc_90⟩ := hw
  have hfo_92 : f_89 a_2 = .inl (cI, 26, .inl g_25) := by rw [hkc_90 a_2 (by rw [ka_2]; decide)]; exact hfo_82
  have hfo_93 : f_89 o0 = .inr (7, [.ref a_2, .int 0, .ref a_4, .ref a_5, .ref a_6, .ref a_7, .int 0, .ref a_9, .ref a_10, .ref a_11, .ref a_12, .ref a_13, .int 0, .ref a_15, .ref a_16, .ref a_17]) := by rw [hkc_90 o0 (by rw [ko0]; decide)]; exact hfo_83
  have hfr0 : ∀ b, kd b ≠ 207 → kd b ≠ 209 → kd b ≠ 213 → kd b ≠ 566 → kd b ≠ 567 → kd b ≠ 568 → kd b ≠ 570 → kd b ≠ 571 → kd b ≠ 572 → f_89 b = f b := fun b q207 q209 q213 q566 q567 q568 q570 q571 q572 => (hkc_90 b q213).trans (hfr0 b q207 q209 q213 q566 q567 q568 q570 q571 q572)
  have hrr207_0 : ∀ b, kd b = 207 → fldR (f_89 b) 0 = fldR (f b) 0 := fun b kb => (congrArg (fun x => fldR x 0) (hkc_90 b (by rw [kb]; decide))).trans (hrr207_0 b kb)
  have hrr207_3 : ∀ b, kd b = 207 → fldR (f_89 b) 3 = fldR (f b) 3 := fun b kb => (congrArg (fun x => fldR x 3) (hkc_90 b (by rw [kb]; decide))).trans (hrr207_3 b kb)
  have hrr207_11 : ∀ b, kd b = 207 → fldR (f_89 b) 11 = fldR (f b) 11 := fun b kb => (congrArg (fun x => fldR x 11) (hkc_90 b (by rw [kb]; decide))).trans (hrr207_11 b kb)
  obtain ⟨g_95, hfo_94, hbg_95⟩ := un_568 (hG _ ma_5) ka_5
  obtain ⟨g_97, hfo_96, hbg_97⟩ := un_573 (hG _ ma_13) ka_13
  exact W.vret hx hb hr (fun t ht hW => ⟨⟨f_89, rfl, ⟨hG, hfr0, hrr207_0, hrr207_3, hrr207_11, ⟨0, 0, 0, a_2, a_5, a_13, g_25, g_95, g_97, ⟨ko0, ka_2, ka_5, ka_13⟩, (by rw [hfo_93]; exact ⟨rfl, rfl, rfl, rfl, rfl, rfl⟩), ⟨by rw [hfo_92]; rfl, by rw [hfo_94]; rfl, by rw [hfo_96]; rfl⟩, (by decide), (fun j hj => by rw [hzg_25 j hj]; decide), (fun i h1 h2 => by exfalso; have h3 : ((0 : Int32)).toInt = 0 := rfl; omega), (fun k9 h1 => by exfalso; have h3 : ((0 : Int32)).toInt = 0 := rfl; omega)⟩⟩, by rw [ht]; exact hP, va_K.moved hW.alike hK, pl_in hD⟩, hS.F ht⟩) hS.2.2 dX7_clear_85
