set_option maxHeartbeats 8000000 in
set_option maxRecDepth 100000 in
theorem s_J7_fill_53178_a558 (l : Launch) (D : va_G) (cI cL cZ cR cG cH : ClassId) (Z : zT) (kd : Nat → Nat) (L : List Nat) (f : Nat → va_E) (hG : GI (okc cI cL cZ cR cG cH L kd) kd L f) (o0 : Nat) (mo0 : o0 ∈ L) (ko0 : kd o0 = 558) (p1 : Int32) (bp1 : (0 ≤ p1.toInt ∧ p1.toInt ≤ 0)) : mPV l D cI cL cZ cR cG cH Z yJ7_fill_53178 cJ7_fill_53178 4 none 0 0 [.ref o0, .int p1] L f (fun (f9 : Nat → va_E) => GI (okc cI cL cZ cR cG cH L kd) kd L f9 ∧ (∀ b, kd b ≠ 558 → f9 b = f b)) := by
  obtain ⟨dC, dI⟩ := D
  refine Met.ofW (cc := cJ7_fill_53178) (maxL := 4) (ret := none) (by decide) rfl ?_
  intro p e s m args below meth c s₁ B hml hv
  obtain ⟨rfl, hP, hK, hD0, hN, hZ⟩ := hv
  have hx := B.exec
  have hb := B.bytes
  have hr := B.returns
  have hU : ∀ w ∈ wsU, w.before _ s = true := fun w h => atoms_spec (ws := wU yJ7_fill_53178 cJ7_fill_53178 4 none) B.pre w (List.mem_cons_of_mem _ h)
  have hown : s.vm.findClass RJ7 = some m.cls := findClass_of_methodNamed B.named
  have hlocks := B.notSynchronized
  have hD := pl_in hD0
  have hS : va_S (fun q => q ∈ L) s.heap s.heap [] := va_S.rf
  have hl := lv_entry ([.ref o0, .int p1]) (n := 4) (Nat.le_of_ble_eq_true rfl)
  rw [lg_entry_eq]
  generalize (lg_sl ([.ref o0, .int p1]) ++ List.replicate (4 - (lg_sl ([.ref o0, .int p1])).length) Slot.unset).toArray = ls at hl ⊢
  have hl : lv_has ls 4 [(0, .ref o0), (1, .int p1)] := hl
  have hfr0 : ∀ b, kd b ≠ 558 → f b = f b := fun _ _ => rfl
  refine lv_iconst (v := 0) hx hb dJ7_fill_53178_0 (by decide) ?_
  refine lv_istore_n (lv' := [(2, .int 0), (0, .ref o0), (1, .int p1)]) hx hb dJ7_fill_53178_1 rfl hl (by decide) rfl (fun ls hl => ?_)
  refine lv_aload_n hx hb dJ7_fill_53178_2 rfl (lv_at hl 1 rfl) ?_
  obtain ⟨g_2, hfo_1, hbg_2⟩ := un_558 (hG _ mo0) ko0
  refine tk_alenP (v := 18) hx hb hK hP 0 mo0 hfo_1 rfl rfl dJ7_fill_53178_3 ?_
  refine lv_istore_n (lv' := [(3, .int 18), (2, .int 0), (0, .ref o0), (1, .int p1)]) hx hb dJ7_fill_53178_4 rfl hl (by decide) rfl (fun ls hl => ?_)
  have hloop_16 : ∀ (n : Nat), ∀ (y_17 : Int32), (0 ≤ y_17.toInt ∧ y_17.toInt ≤ 18) → ∀ (f_19 : Nat → va_E), GI (okc cI cL cZ cR cG cH L kd) kd L f_19 → ∀ (H : Heap) (locs : List Loc), va_P (dC, dI) vwCl (va_pl L f_19) H → va_S (fun q => q ∈ L) s.heap H locs → va_D (fun q => q ∈ L) (va_pl L f_19) → (∀ b, kd b ≠ 558 → f_19 b = f b) → 18 - y_17.toInt < (n : Int) → ∀ (ls : Array Slot), lv_has ls 4 [(3, .int 18), (2, .int y_17), (0, .ref o0), (1, .int p1)] → W p l e (headSpec (wU yJ7_fill_53178 cJ7_fill_53178 4 none) { frames := 0, cells := 0, slots := 0, locals := 0 }).room s m [.ref o0, .int p1].toArray below meth c H locs 0 0 (MQ below (va_Qv (fun (f9 : Nat → va_E) => GI (okc cI cL cZ cR cG cH L kd) kd L f9 ∧ (∀ b, kd b ≠ 558 → f9 b = f b)) (qP (dC, dI) cI cL cZ cR cG cH L) (fun q => q ∈ L)) [.ref o0, .int p1].toArray s 0 0 (fun q => q ∈ L)) (F0 m 5 ls []) := by
    intro n
    induction n with
    | zero => intro y_17 by_17 f_19 hG H locs hP hS hD hfr0 hmuhloop_16 ls hl; exfalso; omega
    | succ n ih_hloop_16 =>
      intro y_17 by_17 f_19 hG H locs hP hS hD hfr0 hmuhloop_16 ls hl
      refine lv_iload_n hx hb dJ7_fill_53178_5 rfl (lv_at hl 1 rfl) ?_
      refine lv_iload_n hx hb dJ7_fill_53178_6 rfl (lv_at hl 0 rfl) ?_
      refine lv_icmp_ge (tgt := 20) hx hb dJ7_fill_53178_7 (by decide) (fun c_20 => ?_) (fun c_20 => ?_)
      · skip
        rw [Int32.le_iff_toInt_le, ti_18] at c_20
        exact W.vret hx hb hr (fun t ht hW => ⟨⟨f_19, rfl, ⟨hG, hfr0⟩, by rw [ht]; exact hP, va_K.moved hW.alike hK, pl_in hD⟩, hS.F ht⟩) hS.2.2 dJ7_fill_53178_20
      · skip
        rw [Int32.le_iff_toInt_le, ti_18] at c_20
        refine lv_aload_n hx hb dJ7_fill_53178_10 rfl (lv_at hl 2 rfl) ?_
        refine lv_iload_n hx hb dJ7_fill_53178_11 rfl (lv_at hl 1 rfl) ?_
        refine lv_iload_n hx hb dJ7_fill_53178_12 rfl (lv_at hl 3 rfl) ?_
        obtain ⟨g_22, hfo_21, hbg_22⟩ := un_558 (hG _ mo0) ko0
        refine tk_istP hx hb hK hP hD hS 0 mo0 hfo_21 rfl (vp_in_iff.mpr (by constructor <;> omega)) dJ7_fill_53178_13 (fun H locs hP hD hS => ?_)
        obtain ⟨f_24, ef_24⟩ : ∃ y : Nat → va_E, y = va_up f_19 o0 (.inl (cI, 18, .inl (upd g_22 (Int32.toNatClampNeg y_17) p1))) := ⟨_, rfl⟩
        have hP : va_P (dC, dI) vwCl (va_pl L f_24) H := by rw [ef_24]; exact hP
        have hD : va_D (fun q => q ∈ L) (va_pl L f_24) := by rw [ef_24]; exact hD
        have hG : GI (okc cI cL cZ cR cG cH L kd) kd L f_24 := by rw [ef_24]; exact hG.set o0 (mk_558 ko0 ⟨_, rfl, okI_up hbg_22 ⟨i32_lo _, i32_hi _⟩ _⟩)
        have hfr0 : ∀ b, kd b ≠ 558 → f_24 b = f b := fun b q558 => (congrFun ef_24 b).trans ((up_ne (fun e9 => q558 (by rw [e9]; exact ko0))).trans (hfr0 b q558))
        have hfo_25 : f_24 o0 = .inl (cI, 18, .inl (upd g_22 (Int32.toNatClampNeg y_17) p1)) := by rw [ef_24]; exact up_self
        obtain ⟨x_26, ex_26⟩ : ∃ y : Int32, y_17 + 1 = y := ⟨_, rfl⟩
        have hx_26 : x_26.toInt = y_17.toInt + 1 := by rw [← ex_26, ad_I (by rw [ti_1]; omega) (by rw [ti_1]; omega), ti_1]
        have bx_26 : (1 ≤ x_26.toInt ∧ x_26.toInt ≤ 18) := by constructor <;> omega
        refine lv_iinc (v := x_26) (lv' := [(2, .int x_26), (3, .int 18), (0, .ref o0), (1, .int p1)]) hx hb dJ7_fill_53178_14 hl (k := 1) rfl ex_26 (by decide) rfl (fun ls hl => ?_)
        refine lv_goto (tgt := 5) hx hb dJ7_fill_53178_17 (by decide) ?_
        exact ih_hloop_16 x_26 (by constructor <;> omega) f_24 hG _ _ hP hS hD hfr0 (by (try rw [ti_18]) <;> omega) ls (lv_sub hl [1, 0, 2, 3] rfl)
  exact hloop_16 19 0 (by decide) f hG _ _ hP hS hD hfr0 (by (try rw [ti_18]) <;> (try rw [ti_0]) <;> omega) ls hl
set_option maxHeartbeats 8000000 in
set_option maxRecDepth 100000 in
theorem s_J7_fill_53178_a559 (l : Launch) (D : va_G) (cI cL cZ cR cG cH : ClassId) (Z : zT) (kd : Nat → Nat) (L : List Nat) (f : Nat → va_E) (hG : GI (okc cI cL cZ cR cG cH L kd) kd L f) (o0 : Nat) (mo0 : o0 ∈ L) (ko0 : kd o0 = 559) (p1 : Int32) (bp1 : (0 ≤ p1.toInt ∧ p1.toInt ≤ 0)) : mPV l D cI cL cZ cR cG cH Z yJ7_fill_53178 cJ7_fill_53178 4 none 0 0 [.ref o0, .int p1] L f (fun (f9 : Nat → va_E) => GI (okc cI cL cZ cR cG cH L kd) kd L f9 ∧ (∀ b, kd b ≠ 559 → f9 b = f b)) := by
  obtain ⟨dC, dI⟩ := D
  refine Met.ofW (cc := cJ7_fill_53178) (maxL := 4) (ret := none) (by decide) rfl ?_
  intro p e s m args below meth c s₁ B hml hv
  obtain ⟨rfl, hP, hK, hD0, hN, hZ⟩ := hv
  have hx := B.exec
  have hb := B.bytes
  have hr := B.returns
  have hU : ∀ w ∈ wsU, w.before _ s = true := fun w h => atoms_spec (ws := wU yJ7_fill_53178 cJ7_fill_53178 4 none) B.pre w (List.mem_cons_of_mem _ h)
  have hown : s.vm.findClass RJ7 = some m.cls := findClass_of_methodNamed B.named
  have hlocks := B.notSynchronized
  have hD := pl_in hD0
  have hS : va_S (fun q => q ∈ L) s.heap s.heap [] := va_S.rf
  have hl := lv_entry ([.ref o0, .int p1]) (n := 4) (Nat.le_of_ble_eq_true rfl)
  rw [lg_entry_eq]
  generalize (lg_sl ([.ref o0, .int p1]) ++ List.replicate (4 - (lg_sl ([.ref o0, .int p1])).length) Slot.unset).toArray = ls at hl ⊢
  have hl : lv_has ls 4 [(0, .ref o0), (1, .int p1)] := hl
  have hfr0 : ∀ b, kd b ≠ 559 → f b = f b := fun _ _ => rfl
  refine lv_iconst (v := 0) hx hb dJ7_fill_53178_0 (by decide) ?_
  refine lv_istore_n (lv' := [(2, .int 0), (0, .ref o0), (1, .int p1)]) hx hb dJ7_fill_53178_1 rfl hl (by decide) rfl (fun ls hl => ?_)
  refine lv_aload_n hx hb dJ7_fill_53178_2 rfl (lv_at hl 1 rfl) ?_
  obtain ⟨g_2, hfo_1, hbg_2⟩ := un_559 (hG _ mo0) ko0
  refine tk_alenP (v := 20) hx hb hK hP 0 mo0 hfo_1 rfl rfl dJ7_fill_53178_3 ?_
  refine lv_istore_n (lv' := [(3, .int 20), (2, .int 0), (0, .ref o0), (1, .int p1)]) hx hb dJ7_fill_53178_4 rfl hl (by decide) rfl (fun ls hl => ?_)
  have hloop_16 : ∀ (n : Nat), ∀ (y_17 : Int32), (0 ≤ y_17.toInt ∧ y_17.toInt ≤ 20) → ∀ (f_19 : Nat → va_E), GI (okc cI cL cZ cR cG cH L kd) kd L f_19 → ∀ (H : Heap) (locs : List Loc), va_P (dC, dI) vwCl (va_pl L f_19) H → va_S (fun q => q ∈ L) s.heap H locs → va_D (fun q => q ∈ L) (va_pl L f_19) → (∀ b, kd b ≠ 559 → f_19 b = f b) → 20 - y_17.toInt < (n : Int) → ∀ (ls : Array Slot), lv_has ls 4 [(3, .int 20), (2, .int y_17), (0, .ref o0), (1, .int p1)] → W p l e (headSpec (wU yJ7_fill_53178 cJ7_fill_53178 4 none) { frames := 0, cells := 0, slots := 0, locals := 0 }).room s m [.ref o0, .int p1].toArray below meth c H locs 0 0 (MQ below (va_Qv (fun (f9 : Nat → va_E) => GI (okc cI cL cZ cR cG cH L kd) kd L f9 ∧ (∀ b, kd b ≠ 559 → f9 b = f b)) (qP (dC, dI) cI cL cZ cR cG cH L) (fun q => q ∈ L)) [.ref o0, .int p1].toArray s 0 0 (fun q => q ∈ L)) (F0 m 5 ls []) := by
    intro n
    induction n with
    | zero => intro y_17 by_17 f_19 hG H locs hP hS hD hfr0 hmuhloop_16 ls hl; exfalso; omega
    | succ n ih_hloop_16 =>
      intro y_17 by_17 f_19 hG H locs hP hS hD hfr0 hmuhloop_16 ls hl
      refine lv_iload_n hx hb dJ7_fill_53178_5 rfl (lv_at hl 1 rfl) ?_
      refine lv_iload_n hx hb dJ7_fill_53178_6 rfl (lv_at hl 0 rfl) ?_
      refine lv_icmp_ge (tgt := 20) hx hb dJ7_fill_53178_7 (by decide) (fun c_20 => ?_) (fun c_20 => ?_)
      · skip
        rw [Int32.le_iff_toInt_le, ti_20] at c_20
        exact W.vret hx hb hr (fun t ht hW => ⟨⟨f_19, rfl, ⟨hG, hfr0⟩, by rw [ht]; exact hP, va_K.moved hW.alike hK, pl_in hD⟩, hS.F ht⟩) hS.2.2 dJ7_fill_53178_20
      · skip
        rw [Int32.le_iff_toInt_le, ti_20] at c_20
        refine lv_aload_n hx hb dJ7_fill_53178_10 rfl (lv_at hl 2 rfl) ?_
        refine lv_iload_n hx hb dJ7_fill_53178_11 rfl (lv_at hl 1 rfl) ?_
        refine lv_iload_n hx hb dJ7_fill_53178_12 rfl (lv_at hl 3 rfl) ?_
        obtain ⟨g_22, hfo_21, hbg_22⟩ := un_559 (hG _ mo0) ko0
        refine tk_istP hx hb hK hP hD hS 0 mo0 hfo_21 rfl (vp_in_iff.mpr (by constructor <;> omega)) dJ7_fill_53178_13 (fun H locs hP hD hS => ?_)
        obtain ⟨f_24, ef_24⟩ : ∃ y : Nat → va_E, y = va_up f_19 o0 (.inl (cI, 20, .inl (upd g_22 (Int32.toNatClampNeg y_17) p1))) := ⟨_, rfl⟩
        have hP : va_P (dC, dI) vwCl (va_pl L f_24) H := by rw [ef_24]; exact hP
        have hD : va_D (fun q => q ∈ L) (va_pl L f_24) := by rw [ef_24]; exact hD
        have hG : GI (okc cI cL cZ cR cG cH L kd) kd L f_24 := by rw [ef_24]; exact hG.set o0 (mk_559 ko0 ⟨_, rfl, okI_up hbg_22 ⟨i32_lo _, i32_hi _⟩ _⟩)
        have hfr0 : ∀ b, kd b ≠ 559 → f_24 b = f b := fun b q559 => (congrFun ef_24 b).trans ((up_ne (fun e9 => q559 (by rw [e9]; exact ko0))).trans (hfr0 b q559))
        have hfo_25 : f_24 o0 = .inl (cI, 20, .inl (upd g_22 (Int32.toNatClampNeg y_17) p1)) := by rw [ef_24]; exact up_self
        obtain ⟨x_26, ex_26⟩ : ∃ y : Int32, y_17 + 1 = y := ⟨_, rfl⟩
        have hx_26 : x_26.toInt = y_17.toInt + 1 := by rw [← ex_26, ad_I (by rw [ti_1]; omega) (by rw [ti_1]; omega), ti_1]
        have bx_26 : (1 ≤ x_26.toInt ∧ x_26.toInt ≤ 20) := by constructor <;> omega
        refine lv_iinc (v := x_26) (lv' := [(2, .int x_26), (3, .int 20), (0, .ref o0), (1, .int p1)]) hx hb dJ7_fill_53178_14 hl (k := 1) rfl ex_26 (by decide) rfl (fun ls hl => ?_)
        refine lv_goto (tgt := 5) hx hb dJ7_fill_53178_17 (by decide) ?_
        exact ih_hloop_16 x_26 (by constructor <;> omega) f_24 hG _ _ hP hS hD hfr0 (by (try rw [ti_20]) <;> omega) ls (lv_sub hl [1, 0, 2, 3] rfl)
  exact hloop_16 21 0 (by decide) f hG _ _ hP hS hD hfr0 (by (try rw [ti_20]) <;> (try rw [ti_0]) <;> omega) ls hl
set_option maxHeartbeats 8000000 in
set_option maxRecDepth 100000 in
theorem s_J7_fill_53178_a566 (l : Launch) (D : va_G) (cI cL cZ cR cG cH : ClassId) (Z : zT) (kd : Nat → Nat) (L : List Nat) (f : Nat → va_E) (hG : GI (okc cI cL cZ cR cG cH L kd) kd L f) (o0 : Nat) (mo0 : o0 ∈ L) (ko0 : kd o0 = 566) (p1 : Int32) (bp1 : (0 ≤ p1.toInt ∧ p1.toInt ≤ 0)) : mPV l D cI cL cZ cR cG cH Z yJ7_fill_53178 cJ7_fill_53178 4 none 0 0 [.ref o0, .int p1] L f (fun (f9 : Nat → va_E) => GI (okc cI cL cZ cR cG cH L kd) kd L f9 ∧ (∀ b, kd b ≠ 566 → f9 b = f b)) := by
  obtain ⟨dC, dI⟩ := D
  refine Met.ofW (cc := cJ7_fill_53178) (maxL := 4) (ret := none) (by decide) rfl ?_
  intro p e s m args below meth c s₁ B hml hv
  obtain ⟨rfl, hP, hK, hD0, hN, hZ⟩ := hv
  have hx := B.exec
  have hb := B.bytes
  have hr := B.returns
  have hU : ∀ w ∈ wsU, w.before _ s = true := fun w h => atoms_spec (ws := wU yJ7_fill_53178 cJ7_fill_53178 4 none) B.pre w (List.mem_cons_of_mem _ h)
  have hown : s.vm.findClass RJ7 = some m.cls := findClass_of_methodNamed B.named
  have hlocks := B.notSynchronized
  have hD := pl_in hD0
  have hS : va_S (fun q => q ∈ L) s.heap s.heap [] := va_S.rf
  have hl := lv_entry ([.ref o0, .int p1]) (n := 4) (Nat.le_of_ble_eq_true rfl)
  rw [lg_entry_eq]
  generalize (lg_sl ([.ref o0, .int p1]) ++ List.replicate (4 - (lg_sl ([.ref o0, .int p1])).length) Slot.unset).toArray = ls at hl ⊢
  have hl : lv_has ls 4 [(0, .ref o0), (1, .int p1)] := hl
  have hfr0 : ∀ b, kd b ≠ 566 → f b = f b := fun _ _ => rfl
  refine lv_iconst (v := 0) hx hb dJ7_fill_53178_0 (by decide) ?_
  refine lv_istore_n (lv' := [(2, .int 0), (0, .ref o0), (1, .int p1)]) hx hb dJ7_fill_53178_1 rfl hl (by decide) rfl (fun ls hl => ?_)
  refine lv_aload_n hx hb dJ7_fill_53178_2 rfl (lv_at hl 1 rfl) ?_
  obtain ⟨g_2, hfo_1, hbg_2⟩ := un_566 (hG _ mo0) ko0
  refine tk_alenP (v := 26) hx hb hK hP 0 mo0 hfo_1 rfl rfl dJ7_fill_53178_3 ?_
  refine lv_istore_n (lv' := [(3, .int 26), (2, .int 0), (0, .ref o0), (1, .int p1)]) hx hb dJ7_fill_53178_4 rfl hl (by decide) rfl (fun ls hl => ?_)
  have hloop_16 : ∀ (n : Nat), ∀ (y_17 : Int32), (0 ≤ y_17.toInt ∧ y_17.toInt ≤ 26) → ∀ (f_19 : Nat → va_E), GI (okc cI cL cZ cR cG cH L kd) kd L f_19 → ∀ (H : Heap) (locs : List Loc), va_P (dC, dI) vwCl (va_pl L f_19) H → va_S (fun q => q ∈ L) s.heap H locs → va_D (fun q => q ∈ L) (va_pl L f_19) → (∀ b, kd b ≠ 566 → f_19 b = f b) → 26 - y_17.toInt < (n : Int) → ∀ (ls : Array Slot), lv_has ls 4 [(3, .int 26), (2, .int y_17), (0, .ref o0), (1, .int p1)] → W p l e (headSpec (wU yJ7_fill_53178 cJ7_fill_53178 4 none) { frames := 0, cells := 0, slots := 0, locals := 0 }).room s m [.ref o0, .int p1].toArray below meth c H locs 0 0 (MQ below (va_Qv (fun (f9 : Nat → va_E) => GI (okc cI cL cZ cR cG cH L kd) kd L f9 ∧ (∀ b, kd b ≠ 566 → f9 b = f b)) (qP (dC, dI) cI cL cZ cR cG cH L) (fun q => q ∈ L)) [.ref o0, .int p1].toArray s 0 0 (fun q => q ∈ L)) (F0 m 5 ls []) := by
    intro n
    induction n with
    | zero => intro y_17 by_17 f_19 hG H locs hP hS hD hfr0 hmuhloop_16 ls hl; exfalso; omega
    | succ n ih_hloop_16 =>
      intro y_17 by_17 f_19 hG H locs hP hS hD hfr0 hmuhloop_16 ls hl
      refine lv_iload_n hx hb dJ7_fill_53178_5 rfl (lv_at hl 1 rfl) ?_
      refine lv_iload_n hx hb dJ7_fill_53178_6 rfl (lv_at hl 0 rfl) ?_
      refine lv_icmp_ge (tgt := 20) hx hb dJ7_fill_53178_7 (by decide) (fun c_20 => ?_) (fun c_20 => ?_)
      · skip
        rw [Int32.le_iff_toInt_le, ti_26] at c_20
        exact W.vret hx hb hr (fun t ht hW => ⟨⟨f_19, rfl, ⟨hG, hfr0⟩, by rw [ht]; exact hP, va_K.moved hW.alike hK, pl_in hD⟩, hS.F ht⟩) hS.2.2 dJ7_fill_53178_20
      · skip
        rw [Int32.le_iff_toInt_le, ti_26] at c_20
        refine lv_aload_n hx hb dJ7_fill_53178_10 rfl (lv_at hl 2 rfl) ?_
        refine lv_iload_n hx hb dJ7_fill_53178_11 rfl (lv_at hl 1 rfl) ?_
        refine lv_iload_n hx hb dJ7_fill_53178_12 rfl (lv_at hl 3 rfl) ?_
        obtain ⟨g_22, hfo_21, hbg_22⟩ := un_566 (hG _ mo0) ko0
        refine tk_istP hx hb hK hP hD hS 0 mo0 hfo_21 rfl (vp_in_iff.mpr (by constructor <;> omega)) dJ7_fill_53178_13 (fun H locs hP hD hS => ?_)
        obtain ⟨f_24, ef_24⟩ : ∃ y : Nat → va_E, y = va_up f_19 o0 (.inl (cI, 26, .inl (upd g_22 (Int32.toNatClampNeg y_17) p1))) := ⟨_, rfl⟩
        have hP : va_P (dC, dI) vwCl (va_pl L f_24) H := by rw [ef_24]; exact hP
        have hD : va_D (fun q => q ∈ L) (va_pl L f_24) := by rw [ef_24]; exact hD
        have hG : GI (okc cI cL cZ cR cG cH L kd) kd L f_24 := by rw [ef_24]; exact hG.set o0 (mk_566 ko0 ⟨_, rfl, okI_up hbg_22 (by constructor <;> omega) _⟩)
        have hfr0 : ∀ b, kd b ≠ 566 → f_24 b = f b := fun b q566 => (congrFun ef_24 b).trans ((up_ne (fun e9 => q566 (by rw [e9]; exact ko0))).trans (hfr0 b q566))
        have hfo_25 : f_24 o0 = .inl (cI, 26, .inl (upd g_22 (Int32.toNatClampNeg y_17) p1)) := by rw [ef_24]; exact up_self
        obtain ⟨x_26, ex_26⟩ : ∃ y : Int32, y_17 + 1 = y := ⟨_, rfl⟩
        have hx_26 : x_26.toInt = y_17.toInt + 1 := by rw [← ex_26, ad_I (by rw [ti_1]; omega) (by rw [ti_1]; omega), ti_1]
        have bx_26 : (1 ≤ x_26.toInt ∧ x_26.toInt ≤ 26) := by constructor <;> omega
        refine lv_iinc (v := x_26) (lv' := [(2, .int x_26), (3, .int 26), (0, .ref o0), (1, .int p1)]) hx hb dJ7_fill_53178_14 hl (k := 1) rfl ex_26 (by decide) rfl (fun ls hl => ?_)
        refine lv_goto (tgt := 5) hx hb dJ7_fill_53178_17 (by decide) ?_
        exact ih_hloop_16 x_26 (by constructor <;> omega) f_24 hG _ _ hP hS hD hfr0 (by (try rw [ti_26]) <;> omega) ls (lv_sub hl [1, 0, 2, 3] rfl)
  exact hloop_16 27 0 (by decide) f hG _ _ hP hS hD hfr0 (by (try rw [ti_26]) <;> (try rw [ti_0]) <;> omega) ls hl
set_option maxHeartbeats 8000000 in
set_option maxRecDepth 100000 in
theorem s_J7_fill_53178_a567 (l : Launch) (D : va_G) (cI cL cZ cR cG cH : ClassId) (Z : zT) (kd : Nat → Nat) (L : List Nat) (f : Nat → va_E) (hG : GI (okc cI cL cZ cR cG cH L kd) kd L f) (o0 : Nat) (mo0 : o0 ∈ L) (ko0 : kd o0 = 567) (p1 : Int32) (bp1 : (0 ≤ p1.toInt ∧ p1.toInt ≤ 0)) : mPV l D cI cL cZ cR cG cH Z yJ7_fill_53178 cJ7_fill_53178 4 none 0 0 [.ref o0, .int p1] L f (fun (f9 : Nat → va_E) => GI (okc cI cL cZ cR cG cH L kd) kd L f9 ∧ (∀ b, kd b ≠ 567 → f9 b = f b)) := by
  obtain ⟨dC, dI⟩ := D
  refine Met.ofW (cc := cJ7_fill_53178) (maxL := 4) (ret := none) (by decide) rfl ?_
  intro p e s m args below meth c s₁ B hml hv
  obtain ⟨rfl, hP, hK, hD0, hN, hZ⟩ := hv
  have hx := B.exec
  have hb := B.bytes
  have hr := B.returns
  have hU : ∀ w ∈ wsU, w.before _ s = true := fun w h => atoms_spec (ws := wU yJ7_fill_53178 cJ7_fill_53178 4 none) B.pre w (List.mem_cons_of_mem _ h)
  have hown : s.vm.findClass RJ7 = some m.cls := findClass_of_methodNamed B.named
  have hlocks := B.notSynchronized
  have hD := pl_in hD0
  have hS : va_S (fun q => q ∈ L) s.heap s.heap [] := va_S.rf
  have hl := lv_entry ([.ref o0, .int p1]) (n := 4) (Nat.le_of_ble_eq_true rfl)
  rw [lg_entry_eq]
  generalize (lg_sl ([.ref o0, .int p1]) ++ List.replicate (4 - (lg_sl ([.ref o0, .int p1])).length) Slot.unset).toArray = ls at hl ⊢
  have hl : lv_has ls 4 [(0, .ref o0), (1, .int p1)] := hl
  have hfr0 : ∀ b, kd b ≠ 567 → f b = f b := fun _ _ => rfl
  refine lv_iconst (v := 0) hx hb dJ7_fill_53178_0 (by decide) ?_
  refine lv_istore_n (lv' := [(2, .int 0), (0, .ref o0), (1, .int p1)]) hx hb dJ7_fill_53178_1 rfl hl (by decide) rfl (fun ls hl => ?_)
  refine lv_aload_n hx hb dJ7_fill_53178_2 rfl (lv_at hl 1 rfl) ?_
  obtain ⟨g_2, hfo_1, hbg_2⟩ := un_567 (hG _ mo0) ko0
  refine tk_alenP (v := 6) hx hb hK hP 0 mo0 hfo_1 rfl rfl dJ7_fill_53178_3 ?_
  refine lv_istore_n (lv' := [(3, .int 6), (2, .int 0), (0, .ref o0), (1, .int p1)]) hx hb dJ7_fill_53178_4 rfl hl (by decide) rfl (fun ls hl => ?_)
  have hloop_16 : ∀ (n : Nat), ∀ (y_17 : Int32), (0 ≤ y_17.toInt ∧ y_17.toInt ≤ 6) → ∀ (f_19 : Nat → va_E), GI (okc cI cL cZ cR cG cH L kd) kd L f_19 → ∀ (H : Heap) (locs : List Loc), va_P (dC, dI) vwCl (va_pl L f_19) H → va_S (fun q => q ∈ L) s.heap H locs → va_D (fun q => q ∈ L) (va_pl L f_19) → (∀ b, kd b ≠ 567 → f_19 b = f b) → 6 - y_17.toInt < (n : Int) → ∀ (ls : Array Slot), lv_has ls 4 [(3, .int 6), (2, .int y_17), (0, .ref o0), (1, .int p1)] → W p l e (headSpec (wU yJ7_fill_53178 cJ7_fill_53178 4 none) { frames := 0, cells := 0, slots := 0, locals := 0 }).room s m [.ref o0, .int p1].toArray below meth c H locs 0 0 (MQ below (va_Qv (fun (f9 : Nat → va_E) => GI (okc cI cL cZ cR cG cH L kd) kd L f9 ∧ (∀ b, kd b ≠ 567 → f9 b = f b)) (qP (dC, dI) cI cL cZ cR cG cH L) (fun q => q ∈ L)) [.ref o0, .int p1].toArray s 0 0 (fun q => q ∈ L)) (F0 m 5 ls []) := by
    intro n
    induction n with
    | zero => intro y_17 by_17 f_19 hG H locs hP hS hD hfr0 hmuhloop_16 ls hl; exfalso; omega
    | succ n ih_hloop_16 =>
      intro y_17 by_17 f_19 hG H locs hP hS hD hfr0 hmuhloop_16 ls hl
      refine lv_iload_n hx hb dJ7_fill_53178_5 rfl (lv_at hl 1 rfl) ?_
      refine lv_iload_n hx hb dJ7_fill_53178_6 rfl (lv_at hl 0 rfl) ?_
      refine lv_icmp_ge (tgt := 20) hx hb dJ7_fill_53178_7 (by decide) (fun c_20 => ?_) (fun c_20 => ?_)
      · skip
        rw [Int32.le_iff_toInt_le, ti_6] at c_20
        exact W.vret hx hb hr (fun t ht hW => ⟨⟨f_19, rfl, ⟨hG, hfr0⟩, by rw [ht]; exact hP, va_K.moved hW.alike hK, pl_in hD⟩, hS.F ht⟩) hS.2.2 dJ7_fill_53178_20
      · skip
        rw [Int32.le_iff_toInt_le, ti_6] at c_20
        refine lv_aload_n hx hb dJ7_fill_53178_10 rfl (lv_at hl 2 rfl) ?_
        refine lv_iload_n hx hb dJ7_fill_53178_11 rfl (lv_at hl 1 rfl) ?_
        refine lv_iload_n hx hb dJ7_fill_53178_12 rfl (lv_at hl 3 rfl) ?_
        obtain ⟨g_22, hfo_21, hbg_22⟩ := un_567 (hG _ mo0) ko0
        refine tk_istP hx hb hK hP hD hS 0 mo0 hfo_21 rfl (vp_in_iff.mpr (by constructor <;> omega)) dJ7_fill_53178_13 (fun H locs hP hD hS => ?_)
        obtain ⟨f_24, ef_24⟩ : ∃ y : Nat → va_E, y = va_up f_19 o0 (.inl (cI, 6, .inl (upd g_22 (Int32.toNatClampNeg y_17) p1))) := ⟨_, rfl⟩
        have hP : va_P (dC, dI) vwCl (va_pl L f_24) H := by rw [ef_24]; exact hP
        have hD : va_D (fun q => q ∈ L) (va_pl L f_24) := by rw [ef_24]; exact hD
        have hG : GI (okc cI cL cZ cR cG cH L kd) kd L f_24 := by rw [ef_24]; exact hG.set o0 (mk_567 ko0 ⟨_, rfl, okI_up hbg_22 ⟨i32_lo _, i32_hi _⟩ _⟩)
        have hfr0 : ∀ b, kd b ≠ 567 → f_24 b = f b := fun b q567 => (congrFun ef_24 b).trans ((up_ne (fun e9 => q567 (by rw [e9]; exact ko0))).trans (hfr0 b q567))
        have hfo_25 : f_24 o0 = .inl (cI, 6, .inl (upd g_22 (Int32.toNatClampNeg y_17) p1)) := by rw [ef_24]; exact up_self
        obtain ⟨x_26, ex_26⟩ : ∃ y : Int32, y_17 + 1 = y := ⟨_, rfl⟩
        have hx_26 : x_26.toInt = y_17.toInt + 1 := by rw [← ex_26, ad_I (by rw [ti_1]; omega) (by rw [ti_1]; omega), ti_1]
        have bx_26 : (1 ≤ x_26.toInt ∧ x_26.toInt ≤ 6) := by constructor <;> omega
        refine lv_iinc (v := x_26) (lv' := [(2, .int x_26), (3, .int 6), (0, .ref o0), (1, .int p1)]) hx hb dJ7_fill_53178_14 hl (k := 1) rfl ex_26 (by decide) rfl (fun ls hl => ?_)
        refine lv_goto (tgt := 5) hx hb dJ7_fill_53178_17 (by decide) ?_
        exact ih_hloop_16 x_26 (by constructor <;> omega) f_24 hG _ _ hP hS hD hfr0 (by (try rw [ti_6]) <;> omega) ls (lv_sub hl [1, 0, 2, 3] rfl)
  exact hloop_16 7 0 (by decide) f hG _ _ hP hS hD hfr0 (by (try rw [ti_6]) <;> (try rw [ti_0]) <;> omega) ls hl
set_option maxHeartbeats 8000000 in
set_option maxRecDepth 100000 in
theorem s_J7_fill_53178_a568 (l : Launch) (D : va_G) (cI cL cZ cR cG cH : ClassId) (Z : zT) (kd : Nat → Nat) (L : List Nat) (f : Nat → va_E) (hG : GI (okc cI cL cZ cR cG cH L kd) kd L f) (o0 : Nat) (mo0 : o0 ∈ L) (ko0 : kd o0 = 568) (p1 : Int32) (bp1 : (0 ≤ p1.toInt ∧ p1.toInt ≤ 0)) : mPV l D cI cL cZ cR cG cH Z yJ7_fill_53178 cJ7_fill_53178 4 none 0 0 [.ref o0, .int p1] L f (fun (f9 : Nat → va_E) => GI (okc cI cL cZ cR cG cH L kd) kd L f9 ∧ (∀ b, kd b ≠ 568 → f9 b = f b)) := by
  obtain ⟨dC, dI⟩ := D
  refine Met.ofW (cc := cJ7_fill_53178) (maxL := 4) (ret := none) (by decide) rfl ?_
  intro p e s m args below meth c s₁ B hml hv
  obtain ⟨rfl, hP, hK, hD0, hN, hZ⟩ := hv
  have hx := B.exec
  have hb := B.bytes
  have hr := B.returns
  have hU : ∀ w ∈ wsU, w.before _ s = true := fun w h => atoms_spec (ws := wU yJ7_fill_53178 cJ7_fill_53178 4 none) B.pre w (List.mem_cons_of_mem _ h)
  have hown : s.vm.findClass RJ7 = some m.cls := findClass_of_methodNamed B.named
  have hlocks := B.notSynchronized
  have hD := pl_in hD0
  have hS : va_S (fun q => q ∈ L) s.heap s.heap [] := va_S.rf
  have hl := lv_entry ([.ref o0, .int p1]) (n := 4) (Nat.le_of_ble_eq_true rfl)
  rw [lg_entry_eq]
  generalize (lg_sl ([.ref o0, .int p1]) ++ List.replicate (4 - (lg_sl ([.ref o0, .int p1])).length) Slot.unset).toArray = ls at hl ⊢
  have hl : lv_has ls 4 [(0, .ref o0), (1, .int p1)] := hl
  have hfr0 : ∀ b, kd b ≠ 568 → f b = f b := fun _ _ => rfl
  refine lv_iconst (v := 0) hx hb dJ7_fill_53178_0 (by decide) ?_
  refine lv_istore_n (lv' := [(2, .int 0), (0, .ref o0), (1, .int p1)]) hx hb dJ7_fill_53178_1 rfl hl (by decide) rfl (fun ls hl => ?_)
  refine lv_aload_n hx hb dJ7_fill_53178_2 rfl (lv_at hl 1 rfl) ?_
  obtain ⟨g_2, hfo_1, hbg_2⟩ := un_568 (hG _ mo0) ko0
  refine tk_alenP (v := 81) hx hb hK hP 0 mo0 hfo_1 rfl rfl dJ7_fill_53178_3 ?_
  refine lv_istore_n (lv' := [(3, .int 81), (2, .int 0), (0, .ref o0), (1, .int p1)]) hx hb dJ7_fill_53178_4 rfl hl (by decide) rfl (fun ls hl => ?_)
  have hloop_16 : ∀ (n : Nat), ∀ (y_17 : Int32), (0 ≤ y_17.toInt ∧ y_17.toInt ≤ 81) → ∀ (f_19 : Nat → va_E), GI (okc cI cL cZ cR cG cH L kd) kd L f_19 → ∀ (H : Heap) (locs : List Loc), va_P (dC, dI) vwCl (va_pl L f_19) H → va_S (fun q => q ∈ L) s.heap H locs → va_D (fun q => q ∈ L) (va_pl L f_19) → (∀ b, kd b ≠ 568 → f_19 b = f b) → 81 - y_17.toInt < (n : Int) → ∀ (ls : Array Slot), lv_has ls 4 [(3, .int 81), (2, .int y_17), (0, .ref o0), (1, .int p1)] → W p l e (headSpec (wU yJ7_fill_53178 cJ7_fill_53178 4 none) { frames := 0, cells := 0, slots := 0, locals := 0 }).room s m [.ref o0, .int p1].toArray below meth c H locs 0 0 (MQ below (va_Qv (fun (f9 : Nat → va_E) => GI (okc cI cL cZ cR cG cH L kd) kd L f9 ∧ (∀ b, kd b ≠ 568 → f9 b = f b)) (qP (dC, dI) cI cL cZ cR cG cH L) (fun q => q ∈ L)) [.ref o0, .int p1].toArray s 0 0 (fun q => q ∈ L)) (F0 m 5 ls []) := by
    intro n
    induction n with
    | zero => intro y_17 by_17 f_19 hG H locs hP hS hD hfr0 hmuhloop_16 ls hl; exfalso; omega
    | succ n ih_hloop_16 =>
      intro y_17 by_17 f_19 hG H locs hP hS hD hfr0 hmuhloop_16 ls hl
      refine lv_iload_n hx hb dJ7_fill_53178_5 rfl (lv_at hl 1 rfl) ?_
      refine lv_iload_n hx hb dJ7_fill_53178_6 rfl (lv_at hl 0 rfl) ?_
      refine lv_icmp_ge (tgt := 20) hx hb dJ7_fill_53178_7 (by decide) (fun c_20 => ?_) (fun c_20 => ?_)
      · skip
        rw [Int32.le_iff_toInt_le, ti_81] at c_20
        exact W.vret hx hb hr (fun t ht hW => ⟨⟨f_19, rfl, ⟨hG, hfr0⟩, by rw [ht]; exact hP, va_K.moved hW.alike hK, pl_in hD⟩, hS.F ht⟩) hS.2.2 dJ7_fill_53178_20
      · skip
        rw [Int32.le_iff_toInt_le, ti_81] at c_20
        refine lv_aload_n hx hb dJ7_fill_53178_10 rfl (lv_at hl 2 rfl) ?_
        refine lv_iload_n hx hb dJ7_fill_53178_11 rfl (lv_at hl 1 rfl) ?_
        refine lv_iload_n hx hb dJ7_fill_53178_12 rfl (lv_at hl 3 rfl) ?_
        obtain ⟨g_22, hfo_21, hbg_22⟩ := un_568 (hG _ mo0) ko0
        refine tk_istP hx hb hK hP hD hS 0 mo0 hfo_21 rfl (vp_in_iff.mpr (by constructor <;> omega)) dJ7_fill_53178_13 (fun H locs hP hD hS => ?_)
        obtain ⟨f_24, ef_24⟩ : ∃ y : Nat → va_E, y = va_up f_19 o0 (.inl (cI, 81, .inl (upd g_22 (Int32.toNatClampNeg y_17) p1))) := ⟨_, rfl⟩
        have hP : va_P (dC, dI) vwCl (va_pl L f_24) H := by rw [ef_24]; exact hP
        have hD : va_D (fun q => q ∈ L) (va_pl L f_24) := by rw [ef_24]; exact hD
        have hG : GI (okc cI cL cZ cR cG cH L kd) kd L f_24 := by rw [ef_24]; exact hG.set o0 (mk_568 ko0 ⟨_, rfl, okI_up hbg_22 (by constructor <;> omega) _⟩)
        have hfr0 : ∀ b, kd b ≠ 568 → f_24 b = f b := fun b q568 => (congrFun ef_24 b).trans ((up_ne (fun e9 => q568 (by rw [e9]; exact ko0))).trans (hfr0 b q568))
        have hfo_25 : f_24 o0 = .inl (cI, 81, .inl (upd g_22 (Int32.toNatClampNeg y_17) p1)) := by rw [ef_24]; exact up_self
        obtain ⟨x_26, ex_26⟩ : ∃ y : Int32, y_17 + 1 = y := ⟨_, rfl⟩
        have hx_26 : x_26.toInt = y_17.toInt + 1 := by rw [← ex_26, ad_I (by rw [ti_1]; omega) (by rw [ti_1]; omega), ti_1]
        have bx_26 : (1 ≤ x_26.toInt ∧ x_26.toInt ≤ 81) := by constructor <;> omega
        refine lv_iinc (v := x_26) (lv' := [(2, .int x_26), (3, .int 81), (0, .ref o0), (1, .int p1)]) hx hb dJ7_fill_53178_14 hl (k := 1) rfl ex_26 (by decide) rfl (fun ls hl => ?_)
        refine lv_goto (tgt := 5) hx hb dJ7_fill_53178_17 (by decide) ?_
        exact ih_hloop_16 x_26 (by constructor <;> omega) f_24 hG _ _ hP hS hD hfr0 (by (try rw [ti_81]) <;> omega) ls (lv_sub hl [1, 0, 2, 3] rfl)
  exact hloop_16 82 0 (by decide) f hG _ _ hP hS hD hfr0 (by (try rw [ti_81]) <;> (try rw [ti_0]) <;> omega) ls hl
set_option maxHeartbeats 8000000 in
set_option maxRecDepth 100000 in
theorem s_J7_fill_53178_a570 (l : Launch) (D : va_G) (cI cL cZ cR cG cH : ClassId) (Z : zT) (kd : Nat → Nat) (L : List Nat) (f : Nat → va_E) (hG : GI (okc cI cL cZ cR cG cH L kd) kd L f) (o0 : Nat) (mo0 : o0 ∈ L) (ko0 : kd o0 = 570) (p1 : Int32) (bp1 : (0 ≤ p1.toInt ∧ p1.toInt ≤ 0)) : mPV l D cI cL cZ cR cG cH Z yJ7_fill_53178 cJ7_fill_53178 4 none 0 0 [.ref o0, .int p1] L f (fun (f9 : Nat → va_E) => GI (okc cI cL cZ cR cG cH L kd) kd L f9 ∧ (∀ b, kd b ≠ 570 → f9 b = f b)) := by
  obtain ⟨dC, dI⟩ := D
  refine Met.ofW (cc := cJ7_fill_53178) (maxL := 4) (ret := none) (by decide) rfl ?_
  intro p e s m args below meth c s₁ B hml hv
  obtain ⟨rfl, hP, hK, hD0, hN, hZ⟩ := hv
  have hx := B.exec
  have hb := B.bytes
  have hr := B.returns
  have hU : ∀ w ∈ wsU, w.before _ s = true := fun w h => atoms_spec (ws := wU yJ7_fill_53178 cJ7_fill_53178 4 none) B.pre w (List.mem_cons_of_mem _ h)
  have hown : s.vm.findClass RJ7 = some m.cls := findClass_of_methodNamed B.named
  have hlocks := B.notSynchronized
  have hD := pl_in hD0
  have hS : va_S (fun q => q ∈ L) s.heap s.heap [] := va_S.rf
  have hl := lv_entry ([.ref o0, .int p1]) (n := 4) (Nat.le_of_ble_eq_true rfl)
  rw [lg_entry_eq]
  generalize (lg_sl ([.ref o0, .int p1]) ++ List.replicate (4 - (lg_sl ([.ref o0, .int p1])).length) Slot.unset).toArray = ls at hl ⊢
  have hl : lv_has ls 4 [(0, .ref o0), (1, .int p1)] := hl
  have hfr0 : ∀ b, kd b ≠ 570 → f b = f b := fun _ _ => rfl
  refine lv_iconst (v := 0) hx hb dJ7_fill_53178_0 (by decide) ?_
  refine lv_istore_n (lv' := [(2, .int 0), (0, .ref o0), (1, .int p1)]) hx hb dJ7_fill_53178_1 rfl hl (by decide) rfl (fun ls hl => ?_)
  refine lv_aload_n hx hb dJ7_fill_53178_2 rfl (lv_at hl 1 rfl) ?_
  obtain ⟨g_2, hfo_1, hbg_2⟩ := un_570 (hG _ mo0) ko0
  refine tk_alenP (v := 9) hx hb hK hP 0 mo0 hfo_1 rfl rfl dJ7_fill_53178_3 ?_
  refine lv_istore_n (lv' := [(3, .int 9), (2, .int 0), (0, .ref o0), (1, .int p1)]) hx hb dJ7_fill_53178_4 rfl hl (by decide) rfl (fun ls hl => ?_)
  have hloop_16 : ∀ (n : Nat), ∀ (y_17 : Int32), (0 ≤ y_17.toInt ∧ y_17.toInt ≤ 9) → ∀ (f_19 : Nat → va_E), GI (okc cI cL cZ cR cG cH L kd) kd L f_19 → ∀ (H : Heap) (locs : List Loc), va_P (dC, dI) vwCl (va_pl L f_19) H → va_S (fun q => q ∈ L) s.heap H locs → va_D (fun q => q ∈ L) (va_pl L f_19) → (∀ b, kd b ≠ 570 → f_19 b = f b) → 9 - y_17.toInt < (n : Int) → ∀ (ls : Array Slot), lv_has ls 4 [(3, .int 9), (2, .int y_17), (0, .ref o0), (1, .int p1)] → W p l e (headSpec (wU yJ7_fill_53178 cJ7_fill_53178 4 none) { frames := 0, cells := 0, slots := 0, locals := 0 }).room s m [.ref o0, .int p1].toArray below meth c H locs 0 0 (MQ below (va_Qv (fun (f9 : Nat → va_E) => GI (okc cI cL cZ cR cG cH L kd) kd L f9 ∧ (∀ b, kd b ≠ 570 → f9 b = f b)) (qP (dC, dI) cI cL cZ cR cG cH L) (fun q => q ∈ L)) [.ref o0, .int p1].toArray s 0 0 (fun q => q ∈ L)) (F0 m 5 ls []) := by
    intro n
    induction n with
    | zero => intro y_17 by_17 f_19 hG H locs hP hS hD hfr0 hmuhloop_16 ls hl; exfalso; omega
    | succ n ih_hloop_16 =>
      intro y_17 by_17 f_19 hG H locs hP hS hD hfr0 hmuhloop_16 ls hl
      refine lv_iload_n hx hb dJ7_fill_53178_5 rfl (lv_at hl 1 rfl) ?_
      refine lv_iload_n hx hb dJ7_fill_53178_6 rfl (lv_at hl 0 rfl) ?_
      refine lv_icmp_ge (tgt := 20) hx hb dJ7_fill_53178_7 (by decide) (fun c_20 => ?_) (fun c_20 => ?_)
      · skip
        rw [Int32.le_iff_toInt_le, ti_9] at c_20
        exact W.vret hx hb hr (fun t ht hW => ⟨⟨f_19, rfl, ⟨hG, hfr0⟩, by rw [ht]; exact hP, va_K.moved hW.alike hK, pl_in hD⟩, hS.F ht⟩) hS.2.2 dJ7_fill_53178_20
      · skip
        rw [Int32.le_iff_toInt_le, ti_9] at c_20
        refine lv_aload_n hx hb dJ7_fill_53178_10 rfl (lv_at hl 2 rfl) ?_
        refine lv_iload_n hx hb dJ7_fill_53178_11 rfl (lv_at hl 1 rfl) ?_
        refine lv_iload_n hx hb dJ7_fill_53178_12 rfl (lv_at hl 3 rfl) ?_
        obtain ⟨g_22, hfo_21, hbg_22⟩ := un_570 (hG _ mo0) ko0
        refine tk_istP hx hb hK hP hD hS 0 mo0 hfo_21 rfl (vp_in_iff.mpr (by constructor <;> omega)) dJ7_fill_53178_13 (fun H locs hP hD hS => ?_)
        obtain ⟨f_24, ef_24⟩ : ∃ y : Nat → va_E, y = va_up f_19 o0 (.inl (cI, 9, .inl (upd g_22 (Int32.toNatClampNeg y_17) p1))) := ⟨_, rfl⟩
        have hP : va_P (dC, dI) vwCl (va_pl L f_24) H := by rw [ef_24]; exact hP
        have hD : va_D (fun q => q ∈ L) (va_pl L f_24) := by rw [ef_24]; exact hD
        have hG : GI (okc cI cL cZ cR cG cH L kd) kd L f_24 := by rw [ef_24]; exact hG.set o0 (mk_570 ko0 ⟨_, rfl, okI_up hbg_22 (by constructor <;> omega) _⟩)
        have hfr0 : ∀ b, kd b ≠ 570 → f_24 b = f b := fun b q570 => (congrFun ef_24 b).trans ((up_ne (fun e9 => q570 (by rw [e9]; exact ko0))).trans (hfr0 b q570))
        have hfo_25 : f_24 o0 = .inl (cI, 9, .inl (upd g_22 (Int32.toNatClampNeg y_17) p1)) := by rw [ef_24]; exact up_self
        obtain ⟨x_26, ex_26⟩ : ∃ y : Int32, y_17 + 1 = y := ⟨_, rfl⟩
        have hx_26 : x_26.toInt = y_17.toInt + 1 := by rw [← ex_26, ad_I (by rw [ti_1]; omega) (by rw [ti_1]; omega), ti_1]
        have bx_26 : (1 ≤ x_26.toInt ∧ x_26.toInt ≤ 9) := by constructor <;> omega
        refine lv_iinc (v := x_26) (lv' := [(2, .int x_26), (3, .int 9), (0, .ref o0), (1, .int p1)]) hx hb dJ7_fill_53178_14 hl (k := 1) rfl ex_26 (by decide) rfl (fun ls hl => ?_)
        refine lv_goto (tgt := 5) hx hb dJ7_fill_53178_17 (by decide) ?_
        exact ih_hloop_16 x_26 (by constructor <;> omega) f_24 hG _ _ hP hS hD hfr0 (by (try rw [ti_9]) <;> omega) ls (lv_sub hl [1, 0, 2, 3] rfl)
  exact hloop_16 10 0 (by decide) f hG _ _ hP hS hD hfr0 (by (try rw [ti_9]) <;> (try rw [ti_0]) <;> omega) ls hl
set_option maxHeartbeats 8000000 in
set_option maxRecDepth 100000 in
theorem s_J7_fill_53178_a571 (l : Launch) (D : va_G) (cI cL cZ cR cG cH : ClassId) (Z : zT) (kd : Nat → Nat) (L : List Nat) (f : Nat → va_E) (hG : GI (okc cI cL cZ cR cG cH L kd) kd L f) (o0 : Nat) (mo0 : o0 ∈ L) (ko0 : kd o0 = 571) (p1 : Int32) (bp1 : (0 ≤ p1.toInt ∧ p1.toInt ≤ 0)) : mPV l D cI cL cZ cR cG cH Z yJ7_fill_53178 cJ7_fill_53178 4 none 0 0 [.ref o0, .int p1] L f (fun (f9 : Nat → va_E) => GI (okc cI cL cZ cR cG cH L kd) kd L f9 ∧ (∀ b, kd b ≠ 571 → f9 b = f b)) := by
  obtain ⟨dC, dI⟩ := D
  refine Met.ofW (cc := cJ7_fill_53178) (maxL := 4) (ret := none) (by decide) rfl ?_
  intro p e s m args below meth c s₁ B hml hv
  obtain ⟨rfl, hP, hK, hD0, hN, hZ⟩ := hv
  have hx := B.exec
  have hb := B.bytes
  have hr := B.returns
  have hU : ∀ w ∈ wsU, w.before _ s = true := fun w h => atoms_spec (ws := wU yJ7_fill_53178 cJ7_fill_53178 4 none) B.pre w (List.mem_cons_of_mem _ h)
  have hown : s.vm.findClass RJ7 = some m.cls := findClass_of_methodNamed B.named
  have hlocks := B.notSynchronized
  have hD := pl_in hD0
  have hS : va_S (fun q => q ∈ L) s.heap s.heap [] := va_S.rf
  have hl := lv_entry ([.ref o0, .int p1]) (n := 4) (Nat.le_of_ble_eq_true rfl)
  rw [lg_entry_eq]
  generalize (lg_sl ([.ref o0, .int p1]) ++ List.replicate (4 - (lg_sl ([.ref o0, .int p1])).length) Slot.unset).toArray = ls at hl ⊢
  have hl : lv_has ls 4 [(0, .ref o0), (1, .int p1)] := hl
  have hfr0 : ∀ b, kd b ≠ 571 → f b = f b := fun _ _ => rfl
  refine lv_iconst (v := 0) hx hb dJ7_fill_53178_0 (by decide) ?_
  refine lv_istore_n (lv' := [(2, .int 0), (0, .ref o0), (1, .int p1)]) hx hb dJ7_fill_53178_1 rfl hl (by decide) rfl (fun ls hl => ?_)
  refine lv_aload_n hx hb dJ7_fill_53178_2 rfl (lv_at hl 1 rfl) ?_
  obtain ⟨g_2, hfo_1, hbg_2⟩ := un_571 (hG _ mo0) ko0
  refine tk_alenP (v := 9) hx hb hK hP 0 mo0 hfo_1 rfl rfl dJ7_fill_53178_3 ?_
  refine lv_istore_n (lv' := [(3, .int 9), (2, .int 0), (0, .ref o0), (1, .int p1)]) hx hb dJ7_fill_53178_4 rfl hl (by decide) rfl (fun ls hl => ?_)
  have hloop_16 : ∀ (n : Nat), ∀ (y_17 : Int32), (0 ≤ y_17.toInt ∧ y_17.toInt ≤ 9) → ∀ (f_19 : Nat → va_E), GI (okc cI cL cZ cR cG cH L kd) kd L f_19 → ∀ (H : Heap) (locs : List Loc), va_P (dC, dI) vwCl (va_pl L f_19) H → va_S (fun q => q ∈ L) s.heap H locs → va_D (fun q => q ∈ L) (va_pl L f_19) → (∀ b, kd b ≠ 571 → f_19 b = f b) → 9 - y_17.toInt < (n : Int) → ∀ (ls : Array Slot), lv_has ls 4 [(3, .int 9), (2, .int y_17), (0, .ref o0), (1, .int p1)] → W p l e (headSpec (wU yJ7_fill_53178 cJ7_fill_53178 4 none) { frames := 0, cells := 0, slots := 0, locals := 0 }).room s m [.ref o0, .int p1].toArray below meth c H locs 0 0 (MQ below (va_Qv (fun (f9 : Nat → va_E) => GI (okc cI cL cZ cR cG cH L kd) kd L f9 ∧ (∀ b, kd b ≠ 571 → f9 b = f b)) (qP (dC, dI) cI cL cZ cR cG cH L) (fun q => q ∈ L)) [.ref o0, .int p1].toArray s 0 0 (fun q => q ∈ L)) (F0 m 5 ls []) := by
    intro n
    induction n with
    | zero => intro y_17 by_17 f_19 hG H locs hP hS hD hfr0 hmuhloop_16 ls hl; exfalso; omega
    | succ n ih_hloop_16 =>
      intro y_17 by_17 f_19 hG H locs hP hS hD hfr0 hmuhloop_16 ls hl
      refine lv_iload_n hx hb dJ7_fill_53178_5 rfl (lv_at hl 1 rfl) ?_
      refine lv_iload_n hx hb dJ7_fill_53178_6 rfl (lv_at hl 0 rfl) ?_
      refine lv_icmp_ge (tgt := 20) hx hb dJ7_fill_53178_7 (by decide) (fun c_20 => ?_) (fun c_20 => ?_)
      · skip
        rw [Int32.le_iff_toInt_le, ti_9] at c_20
        exact W.vret hx hb hr (fun t ht hW => ⟨⟨f_19, rfl, ⟨hG, hfr0⟩, by rw [ht]; exact hP, va_K.moved hW.alike hK, pl_in hD⟩, hS.F ht⟩) hS.2.2 dJ7_fill_53178_20
      · skip
        rw [Int32.le_iff_toInt_le, ti_9] at c_20
        refine lv_aload_n hx hb dJ7_fill_53178_10 rfl (lv_at hl 2 rfl) ?_
        refine lv_iload_n hx hb dJ7_fill_53178_11 rfl (lv_at hl 1 rfl) ?_
        refine lv_iload_n hx hb dJ7_fill_53178_12 rfl (lv_at hl 3 rfl) ?_
        obtain ⟨g_22, hfo_21, hbg_22⟩ := un_571 (hG _ mo0) ko0
        refine tk_istP hx hb hK hP hD hS 0 mo0 hfo_21 rfl (vp_in_iff.mpr (by constructor <;> omega)) dJ7_fill_53178_13 (fun H locs hP hD hS => ?_)
        obtain ⟨f_24, ef_24⟩ : ∃ y : Nat → va_E, y = va_up f_19 o0 (.inl (cI, 9, .inl (upd g_22 (Int32.toNatClampNeg y_17) p1))) := ⟨_, rfl⟩
        have hP : va_P (dC, dI) vwCl (va_pl L f_24) H := by rw [ef_24]; exact hP
        have hD : va_D (fun q => q ∈ L) (va_pl L f_24) := by rw [ef_24]; exact hD
        have hG : GI (okc cI cL cZ cR cG cH L kd) kd L f_24 := by rw [ef_24]; exact hG.set o0 (mk_571 ko0 ⟨_, rfl, okI_up hbg_22 (by constructor <;> omega) _⟩)
        have hfr0 : ∀ b, kd b ≠ 571 → f_24 b = f b := fun b q571 => (congrFun ef_24 b).trans ((up_ne (fun e9 => q571 (by rw [e9]; exact ko0))).trans (hfr0 b q571))
        have hfo_25 : f_24 o0 = .inl (cI, 9, .inl (upd g_22 (Int32.toNatClampNeg y_17) p1)) := by rw [ef_24]; exact up_self
        obtain ⟨x_26, ex_26⟩ : ∃ y : Int32, y_17 + 1 = y := ⟨_, rfl⟩
        have hx_26 : x_26.toInt = y_17.toInt + 1 := by rw [← ex_26, ad_I (by rw [ti_1]; omega) (by rw [ti_1]; omega), ti_1]
        have bx_26 : (1 ≤ x_26.toInt ∧ x_26.toInt ≤ 9) := by constructor <;> omega
        refine lv_iinc (v := x_26) (lv' := [(2, .int x_26), (3, .int 9), (0, .ref o0), (1, .int p1)]) hx hb dJ7_fill_53178_14 hl (k := 1) rfl ex_26 (by decide) rfl (fun ls hl => ?_)
        refine lv_goto (tgt := 5) hx hb dJ7_fill_53178_17 (by decide) ?_
        exact ih_hloop_16 x_26 (by constructor <;> omega) f_24 hG _ _ hP hS hD hfr0 (by (try rw [ti_9]) <;> omega) ls (lv_sub hl [1, 0, 2, 3] rfl)
  exact hloop_16 10 0 (by decide) f hG _ _ hP hS hD hfr0 (by (try rw [ti_9]) <;> (try rw [ti_0]) <;> omega) ls hl
set_option maxHeartbeats 8000000 in
set_option maxRecDepth 100000 in
theorem s_J7_fill_53178_a572 (l : Launch) (D : va_G) (cI cL cZ cR cG cH : ClassId) (Z : zT) (kd : Nat → Nat) (L : List Nat) (f : Nat → va_E) (hG : GI (okc cI cL cZ cR cG cH L kd) kd L f) (o0 : Nat) (mo0 : o0 ∈ L) (ko0 : kd o0 = 572) (p1 : Int32) (bp1 : (0 ≤ p1.toInt ∧ p1.toInt ≤ 0)) : mPV l D cI cL cZ cR cG cH Z yJ7_fill_53178 cJ7_fill_53178 4 none 0 0 [.ref o0, .int p1] L f (fun (f9 : Nat → va_E) => GI (okc cI cL cZ cR cG cH L kd) kd L f9 ∧ (∀ b, kd b ≠ 572 → f9 b = f b)) := by
  obtain ⟨dC, dI⟩ := D
  refine Met.ofW (cc := cJ7_fill_53178) (maxL := 4) (ret := none) (by decide) rfl ?_
  intro p e s m args below meth c s₁ B hml hv
  obtain ⟨rfl, hP, hK, hD0, hN, hZ⟩ := hv
  have hx := B.exec
  have hb := B.bytes
  have hr := B.returns
  have hU : ∀ w ∈ wsU, w.before _ s = true := fun w h => atoms_spec (ws := wU yJ7_fill_53178 cJ7_fill_53178 4 none) B.pre w (List.mem_cons_of_mem _ h)
  have hown : s.vm.findClass RJ7 = some m.cls := findClass_of_methodNamed B.named
  have hlocks := B.notSynchronized
  have hD := pl_in hD0
  have hS : va_S (fun q => q ∈ L) s.heap s.heap [] := va_S.rf
  have hl := lv_entry ([.ref o0, .int p1]) (n := 4) (Nat.le_of_ble_eq_true rfl)
  rw [lg_entry_eq]
  generalize (lg_sl ([.ref o0, .int p1]) ++ List.replicate (4 - (lg_sl ([.ref o0, .int p1])).length) Slot.unset).toArray = ls at hl ⊢
  have hl : lv_has ls 4 [(0, .ref o0), (1, .int p1)] := hl
  have hfr0 : ∀ b, kd b ≠ 572 → f b = f b := fun _ _ => rfl
  refine lv_iconst (v := 0) hx hb dJ7_fill_53178_0 (by decide) ?_
  refine lv_istore_n (lv' := [(2, .int 0), (0, .ref o0), (1, .int p1)]) hx hb dJ7_fill_53178_1 rfl hl (by decide) rfl (fun ls hl => ?_)
  refine lv_aload_n hx hb dJ7_fill_53178_2 rfl (lv_at hl 1 rfl) ?_
  obtain ⟨g_2, hfo_1, hbg_2⟩ := un_572 (hG _ mo0) ko0
  refine tk_alenP (v := 36) hx hb hK hP 0 mo0 hfo_1 rfl rfl dJ7_fill_53178_3 ?_
  refine lv_istore_n (lv' := [(3, .int 36), (2, .int 0), (0, .ref o0), (1, .int p1)]) hx hb dJ7_fill_53178_4 rfl hl (by decide) rfl (fun ls hl => ?_)
  have hloop_16 : ∀ (n : Nat), ∀ (y_17 : Int32), (0 ≤ y_17.toInt ∧ y_17.toInt ≤ 36) → ∀ (f_19 : Nat → va_E), GI (okc cI cL cZ cR cG cH L kd) kd L f_19 → ∀ (H : Heap) (locs : List Loc), va_P (dC, dI) vwCl (va_pl L f_19) H → va_S (fun q => q ∈ L) s.heap H locs → va_D (fun q => q ∈ L) (va_pl L f_19) → (∀ b, kd b ≠ 572 → f_19 b = f b) → 36 - y_17.toInt < (n : Int) → ∀ (ls : Array Slot), lv_has ls 4 [(3, .int 36), (2, .int y_17), (0, .ref o0), (1, .int p1)] → W p l e (headSpec (wU yJ7_fill_53178 cJ7_fill_53178 4 none) { frames := 0, cells := 0, slots := 0, locals := 0 }).room s m [.ref o0, .int p1].toArray below meth c H locs 0 0 (MQ below (va_Qv (fun (f9 : Nat → va_E) => GI (okc cI cL cZ cR cG cH L kd) kd L f9 ∧ (∀ b, kd b ≠ 572 → f9 b = f b)) (qP (dC, dI) cI cL cZ cR cG cH L) (fun q => q ∈ L)) [.ref o0, .int p1].toArray s 0 0 (fun q => q ∈ L)) (F0 m 5 ls []) := by
    intro n
    induction n with
    | zero => intro y_17 by_17 f_19 hG H locs hP hS hD hfr0 hmuhloop_16 ls hl; exfalso; omega
    | succ n ih_hloop_16 =>
      intro y_17 by_17 f_19 hG H locs hP hS hD hfr0 hmuhloop_16 ls hl
      refine lv_iload_n hx hb dJ7_fill_53178_5 rfl (lv_at hl 1 rfl) ?_
      refine lv_iload_n hx hb dJ7_fill_53178_6 rfl (lv_at hl 0 rfl) ?_
      refine lv_icmp_ge (tgt := 20) hx hb dJ7_fill_53178_7 (by decide) (fun c_20 => ?_) (fun c_20 => ?_)
      · skip
        rw [Int32.le_iff_toInt_le, ti_36] at c_20
        exact W.vret hx hb hr (fun t ht hW => ⟨⟨f_19, rfl, ⟨hG, hfr0⟩, by rw [ht]; exact hP, va_K.moved hW.alike hK, pl_in hD⟩, hS.F ht⟩) hS.2.2 dJ7_fill_53178_20
      · skip
        rw [Int32.le_iff_toInt_le, ti_36] at c_20
        refine lv_aload_n hx hb dJ7_fill_53178_10 rfl (lv_at hl 2 rfl) ?_
        refine lv_iload_n hx hb dJ7_fill_53178_11 rfl (lv_at hl 1 rfl) ?_
        refine lv_iload_n hx hb dJ7_fill_53178_12 rfl (lv_at hl 3 rfl) ?_
        obtain ⟨g_22, hfo_21, hbg_22⟩ := un_572 (hG _ mo0) ko0
        refine tk_istP hx hb hK hP hD hS 0 mo0 hfo_21 rfl (vp_in_iff.mpr (by constructor <;> omega)) dJ7_fill_53178_13 (fun H locs hP hD hS => ?_)
        obtain ⟨f_24, ef_24⟩ : ∃ y : Nat → va_E, y = va_up f_19 o0 (.inl (cI, 36, .inl (upd g_22 (Int32.toNatClampNeg y_17) p1))) := ⟨_, rfl⟩
        have hP : va_P (dC, dI) vwCl (va_pl L f_24) H := by rw [ef_24]; exact hP
        have hD : va_D (fun q => q ∈ L) (va_pl L f_24) := by rw [ef_24]; exact hD
        have hG : GI (okc cI cL cZ cR cG cH L kd) kd L f_24 := by rw [ef_24]; exact hG.set o0 (mk_572 ko0 ⟨_, rfl, okI_up hbg_22 (by constructor <;> omega) _⟩)
        have hfr0 : ∀ b, kd b ≠ 572 → f_24 b = f b := fun b q572 => (congrFun ef_24 b).trans ((up_ne (fun e9 => q572 (by rw [e9]; exact ko0))).trans (hfr0 b q572))
        have hfo_25 : f_24 o0 = .inl (cI, 36, .inl (upd g_22 (Int32.toNatClampNeg y_17) p1)) := by rw [ef_24]; exact up_self
        obtain ⟨x_26, ex_26⟩ : ∃ y : Int32, y_17 + 1 = y := ⟨_, rfl⟩
        have hx_26 : x_26.toInt = y_17.toInt + 1 := by rw [← ex_26, ad_I (by rw [ti_1]; omega) (by rw [ti_1]; omega), ti_1]
        have bx_26 : (1 ≤ x_26.toInt ∧ x_26.toInt ≤ 36) := by constructor <;> omega
        refine lv_iinc (v := x_26) (lv' := [(2, .int x_26), (3, .int 36), (0, .ref o0), (1, .int p1)]) hx hb dJ7_fill_53178_14 hl (k := 1) rfl ex_26 (by decide) rfl (fun ls hl => ?_)
        refine lv_goto (tgt := 5) hx hb dJ7_fill_53178_17 (by decide) ?_
        exact ih_hloop_16 x_26 (by constructor <;> omega) f_24 hG _ _ hP hS hD hfr0 (by (try rw [ti_36]) <;> omega) ls (lv_sub hl [1, 0, 2, 3] rfl)
  exact hloop_16 37 0 (by decide) f hG _ _ hP hS hD hfr0 (by (try rw [ti_36]) <;> (try rw [ti_0]) <;> omega) ls hl
set_option maxHeartbeats 8000000 in
set_option maxRecDepth 100000 in
theorem s_J7_fill_53178_a521 (l : Launch) (D : va_G) (cI cL cZ cR cG cH : ClassId) (Z : zT) (kd : Nat → Nat) (L : List Nat) (f : Nat → va_E) (hG : GI (okc cI cL cZ cR cG cH L kd) kd L f) (o0 : Nat) (mo0 : o0 ∈ L) (ko0 : kd o0 = 521) (p1 : Int32) (bp1 : (0 ≤ p1.toInt ∧ p1.toInt ≤ 0)) : mPV l D cI cL cZ cR cG cH Z yJ7_fill_53178 cJ7_fill_53178 4 none 0 0 [.ref o0, .int p1] L f (fun (f9 : Nat → va_E) => GI (okc cI cL cZ cR cG cH L kd) kd L f9 ∧ (∀ b, kd b ≠ 521 → f9 b = f b)) := by
  obtain ⟨dC, dI⟩ := D
  refine Met.ofW (cc := cJ7_fill_53178) (maxL := 4) (ret := none) (by decide) rfl ?_
  intro p e s m args below meth c s₁ B hml hv
  obtain ⟨rfl, hP, hK, hD0, hN, hZ⟩ := hv
  have hx := B.exec
  have hb := B.bytes
  have hr := B.returns
  have hU : ∀ w ∈ wsU, w.before _ s = true := fun w h => atoms_spec (ws := wU yJ7_fill_53178 cJ7_fill_53178 4 none) B.pre w (List.mem_cons_of_mem _ h)
  have hown : s.vm.findClass RJ7 = some m.cls := findClass_of_methodNamed B.named
  have hlocks := B.notSynchronized
  have hD := pl_in hD0
  have hS : va_S (fun q => q ∈ L) s.heap s.heap [] := va_S.rf
  have hl := lv_entry ([.ref o0, .int p1]) (n := 4) (Nat.le_of_ble_eq_true rfl)
  rw [lg_entry_eq]
  generalize (lg_sl ([.ref o0, .int p1]) ++ List.replicate (4 - (lg_sl ([.ref o0, .int p1])).length) Slot.unset).toArray = ls at hl ⊢
  have hl : lv_has ls 4 [(0, .ref o0), (1, .int p1)] := hl
  have hfr0 : ∀ b, kd b ≠ 521 → f b = f b := fun _ _ => rfl
  refine lv_iconst (v := 0) hx hb dJ7_fill_53178_0 (by decide) ?_
  refine lv_istore_n (lv' := [(2, .int 0), (0, .ref o0), (1, .int p1)]) hx hb dJ7_fill_53178_1 rfl hl (by decide) rfl (fun ls hl => ?_)
  refine lv_aload_n hx hb dJ7_fill_53178_2 rfl (lv_at hl 1 rfl) ?_
  obtain ⟨g_2, hfo_1, hbg_2⟩ := un_521 (hG _ mo0) ko0
  refine tk_alenP (v := 4096) hx hb hK hP 0 mo0 hfo_1 rfl rfl dJ7_fill_53178_3 ?_
  refine lv_istore_n (lv' := [(3, .int 4096), (2, .int 0), (0, .ref o0), (1, .int p1)]) hx hb dJ7_fill_53178_4 rfl hl (by decide) rfl (fun ls hl => ?_)
  have hloop_16 : ∀ (n : Nat), ∀ (y_17 : Int32), (0 ≤ y_17.toInt ∧ y_17.toInt ≤ 4096) → ∀ (f_19 : Nat → va_E), GI (okc cI cL cZ cR cG cH L kd) kd L f_19 → ∀ (H : Heap) (locs : List Loc), va_P (dC, dI) vwCl (va_pl L f_19) H → va_S (fun q => q ∈ L) s.heap H locs → va_D (fun q => q ∈ L) (va_pl L f_19) → (∀ b, kd b ≠ 521 → f_19 b = f b) → 4096 - y_17.toInt < (n : Int) → ∀ (ls : Array Slot), lv_has ls 4 [(3, .int 4096), (2, .int y_17), (0, .ref o0), (1, .int p1)] → W p l e (headSpec (wU yJ7_fill_53178 cJ7_fill_53178 4 none) { frames := 0, cells := 0, slots := 0, locals := 0 }).room s m [.ref o0, .int p1].toArray below meth c H locs 0 0 (MQ below (va_Qv (fun (f9 : Nat → va_E) => GI (okc cI cL cZ cR cG cH L kd) kd L f9 ∧ (∀ b, kd b ≠ 521 → f9 b = f b)) (qP (dC, dI) cI cL cZ cR cG cH L) (fun q => q ∈ L)) [.ref o0, .int p1].toArray s 0 0 (fun q => q ∈ L)) (F0 m 5 ls []) := by
    intro n
    induction n with
    | zero => intro y_17 by_17 f_19 hG H locs hP hS hD hfr0 hmuhloop_16 ls hl; exfalso; omega
    | succ n ih_hloop_16 =>
      intro y_17 by_17 f_19 hG H locs hP hS hD hfr0 hmuhloop_16 ls hl
      refine lv_iload_n hx hb dJ7_fill_53178_5 rfl (lv_at hl 1 rfl) ?_
      refine lv_iload_n hx hb dJ7_fill_53178_6 rfl (lv_at hl 0 rfl) ?_
      refine lv_icmp_ge (tgt := 20) hx hb dJ7_fill_53178_7 (by decide) (fun c_20 => ?_) (fun c_20 => ?_)
      · skip
        rw [Int32.le_iff_toInt_le, ti_4096] at c_20
        exact W.vret hx hb hr (fun t ht hW => ⟨⟨f_19, rfl, ⟨hG, hfr0⟩, by rw [ht]; exact hP, va_K.moved hW.alike hK, pl_in hD⟩, hS.F ht⟩) hS.2.2 dJ7_fill_53178_20
      · skip
        rw [Int32.le_iff_toInt_le, ti_4096] at c_20
        refine lv_aload_n hx hb dJ7_fill_53178_10 rfl (lv_at hl 2 rfl) ?_
        refine lv_iload_n hx hb dJ7_fill_53178_11 rfl (lv_at hl 1 rfl) ?_
        refine lv_iload_n hx hb dJ7_fill_53178_12 rfl (lv_at hl 3 rfl) ?_
        obtain ⟨g_22, hfo_21, hbg_22⟩ := un_521 (hG _ mo0) ko0
        refine tk_istP hx hb hK hP hD hS 0 mo0 hfo_21 rfl (vp_in_iff.mpr (by constructor <;> omega)) dJ7_fill_53178_13 (fun H locs hP hD hS => ?_)
        obtain ⟨f_24, ef_24⟩ : ∃ y : Nat → va_E, y = va_up f_19 o0 (.inl (cI, 4096, .inl (upd g_22 (Int32.toNatClampNeg y_17) p1))) := ⟨_, rfl⟩
        have hP : va_P (dC, dI) vwCl (va_pl L f_24) H := by rw [ef_24]; exact hP
        have hD : va_D (fun q => q ∈ L) (va_pl L f_24) := by rw [ef_24]; exact hD
        have hG : GI (okc cI cL cZ cR cG cH L kd) kd L f_24 := by rw [ef_24]; exact hG.set o0 (mk_521 ko0 ⟨_, rfl, okI_up hbg_22 (by constructor <;> omega) _⟩)
        have hfr0 : ∀ b, kd b ≠ 521 → f_24 b = f b := fun b q521 => (congrFun ef_24 b).trans ((up_ne (fun e9 => q521 (by rw [e9]; exact ko0))).trans (hfr0 b q521))
        have hfo_25 : f_24 o0 = .inl (cI, 4096, .inl (upd g_22 (Int32.toNatClampNeg y_17) p1)) := by rw [ef_24]; exact up_self
        obtain ⟨x_26, ex_26⟩ : ∃ y : Int32, y_17 + 1 = y := ⟨_, rfl⟩
        have hx_26 : x_26.toInt = y_17.toInt + 1 := by rw [← ex_26, ad_I (by rw [ti_1]; omega) (by rw [ti_1]; omega), ti_1]
        have bx_26 : (1 ≤ x_26.toInt ∧ x_26.toInt ≤ 4096) := by constructor <;> omega
        refine lv_iinc (v := x_26) (lv' := [(2, .int x_26), (3, .int 4096), (0, .ref o0), (1, .int p1)]) hx hb dJ7_fill_53178_14 hl (k := 1) rfl ex_26 (by decide) rfl (fun ls hl => ?_)
        refine lv_goto (tgt := 5) hx hb dJ7_fill_53178_17 (by decide) ?_
        exact ih_hloop_16 x_26 (by constructor <;> omega) f_24 hG _ _ hP hS hD hfr0 (by (try rw [ti_4096]) <;> omega) ls (lv_sub hl [1, 0, 2, 3] rfl)
  exact hloop_16 4097 0 (by decide) f hG _ _ hP hS hD hfr0 (by (try rw [ti_4096]) <;> (try rw [ti_0]) <;> omega) ls hl
set_option maxHeartbeats 8000000 in
set_option maxRecDepth 100000 in
theorem s_J7_fill_53178_a529 (l : Launch) (D : va_G) (cI cL cZ cR cG cH : ClassId) (Z : zT) (kd : Nat → Nat) (L : List Nat) (f : Nat → va_E) (hG : GI (okc cI cL cZ cR cG cH L kd) kd L f) (o0 : Nat) (mo0 : o0 ∈ L) (ko0 : kd o0 = 529) (p1 : Int32) (bp1 : (0 ≤ p1.toInt ∧ p1.toInt ≤ 0)) : mPV l D cI cL cZ cR cG cH Z yJ7_fill_53178 cJ7_fill_53178 4 none 0 0 [.ref o0, .int p1] L f (fun (f9 : Nat → va_E) => GI (okc cI cL cZ cR cG cH L kd) kd L f9 ∧ (∀ b, kd b ≠ 529 → f9 b = f b)) := by
  obtain ⟨dC, dI⟩ := D
  refine Met.ofW (cc := cJ7_fill_53178) (maxL := 4) (ret := none) (by decide) rfl ?_
  intro p e s m args below meth c s₁ B hml hv
  obtain ⟨rfl, hP, hK, hD0, hN, hZ⟩ := hv
  have hx := B.exec
  have hb := B.bytes
  have hr := B.returns
  have hU : ∀ w ∈ wsU, w.before _ s = true := fun w h => atoms_spec (ws := wU yJ7_fill_53178 cJ7_fill_53178 4 none) B.pre w (List.mem_cons_of_mem _ h)
  have hown : s.vm.findClass RJ7 = some m.cls := findClass_of_methodNamed B.named
  have hlocks := B.notSynchronized
  have hD := pl_in hD0
  have hS : va_S (fun q => q ∈ L) s.heap s.heap [] := va_S.rf
  have hl := lv_entry ([.ref o0, .int p1]) (n := 4) (Nat.le_of_ble_eq_true rfl)
  rw [lg_entry_eq]
  generalize (lg_sl ([.ref o0, .int p1]) ++ List.replicate (4 - (lg_sl ([.ref o0, .int p1])).length) Slot.unset).toArray = ls at hl ⊢
  have hl : lv_has ls 4 [(0, .ref o0), (1, .int p1)] := hl
  have hfr0 : ∀ b, kd b ≠ 529 → f b = f b := fun _ _ => rfl
  refine lv_iconst (v := 0) hx hb dJ7_fill_53178_0 (by decide) ?_
  refine lv_istore_n (lv' := [(2, .int 0), (0, .ref o0), (1, .int p1)]) hx hb dJ7_fill_53178_1 rfl hl (by decide) rfl (fun ls hl => ?_)
  refine lv_aload_n hx hb dJ7_fill_53178_2 rfl (lv_at hl 1 rfl) ?_
  obtain ⟨g_2, hfo_1, hbg_2⟩ := un_529 (hG _ mo0) ko0
  refine tk_alenP (v := 256) hx hb hK hP 0 mo0 hfo_1 rfl rfl dJ7_fill_53178_3 ?_
  refine lv_istore_n (lv' := [(3, .int 256), (2, .int 0), (0, .ref o0), (1, .int p1)]) hx hb dJ7_fill_53178_4 rfl hl (by decide) rfl (fun ls hl => ?_)
  have hloop_16 : ∀ (n : Nat), ∀ (y_17 : Int32), (0 ≤ y_17.toInt ∧ y_17.toInt ≤ 256) → ∀ (f_19 : Nat → va_E), GI (okc cI cL cZ cR cG cH L kd) kd L f_19 → ∀ (H : Heap) (locs : List Loc), va_P (dC, dI) vwCl (va_pl L f_19) H → va_S (fun q => q ∈ L) s.heap H locs → va_D (fun q => q ∈ L) (va_pl L f_19) → (∀ b, kd b ≠ 529 → f_19 b = f b) → 256 - y_17.toInt < (n : Int) → ∀ (ls : Array Slot), lv_has ls 4 [(3, .int 256), (2, .int y_17), (0, .ref o0), (1, .int p1)] → W p l e (headSpec (wU yJ7_fill_53178 cJ7_fill_53178 4 none) { frames := 0, cells := 0, slots := 0, locals := 0 }).room s m [.ref o0, .int p1].toArray below meth c H locs 0 0 (MQ below (va_Qv (fun (f9 : Nat → va_E) => GI (okc cI cL cZ cR cG cH L kd) kd L f9 ∧ (∀ b, kd b ≠ 529 → f9 b = f b)) (qP (dC, dI) cI cL cZ cR cG cH L) (fun q => q ∈ L)) [.ref o0, .int p1].toArray s 0 0 (fun q => q ∈ L)) (F0 m 5 ls []) := by
    intro n
    induction n with
    | zero => intro y_17 by_17 f_19 hG H locs hP hS hD hfr0 hmuhloop_16 ls hl; exfalso; omega
    | succ n ih_hloop_16 =>
      intro y_17 by_17 f_19 hG H locs hP hS hD hfr0 hmuhloop_16 ls hl
      refine lv_iload_n hx hb dJ7_fill_53178_5 rfl (lv_at hl 1 rfl) ?_
      refine lv_iload_n hx hb dJ7_fill_53178_6 rfl (lv_at hl 0 rfl) ?_
      refine lv_icmp_ge (tgt := 20) hx hb dJ7_fill_53178_7 (by decide) (fun c_20 => ?_) (fun c_20 => ?_)
      · skip
        rw [Int32.le_iff_toInt_le, ti_256] at c_20
        exact W.vret hx hb hr (fun t ht hW => ⟨⟨f_19, rfl, ⟨hG, hfr0⟩, by rw [ht]; exact hP, va_K.moved hW.alike hK, pl_in hD⟩, hS.F ht⟩) hS.2.2 dJ7_fill_53178_20
      · skip
        rw [Int32.le_iff_toInt_le, ti_256] at c_20
        refine lv_aload_n hx hb dJ7_fill_53178_10 rfl (lv_at hl 2 rfl) ?_
        refine lv_iload_n hx hb dJ7_fill_53178_11 rfl (lv_at hl 1 rfl) ?_
        refine lv_iload_n hx hb dJ7_fill_53178_12 rfl (lv_at hl 3 rfl) ?_
        obtain ⟨g_22, hfo_21, hbg_22⟩ := un_529 (hG _ mo0) ko0
        refine tk_istP hx hb hK hP hD hS 0 mo0 hfo_21 rfl (vp_in_iff.mpr (by constructor <;> omega)) dJ7_fill_53178_13 (fun H locs hP hD hS => ?_)
        obtain ⟨f_24, ef_24⟩ : ∃ y : Nat → va_E, y = va_up f_19 o0 (.inl (cI, 256, .inl (upd g_22 (Int32.toNatClampNeg y_17) p1))) := ⟨_, rfl⟩
        have hP : va_P (dC, dI) vwCl (va_pl L f_24) H := by rw [ef_24]; exact hP
        have hD : va_D (fun q => q ∈ L) (va_pl L f_24) := by rw [ef_24]; exact hD
        have hG : GI (okc cI cL cZ cR cG cH L kd) kd L f_24 := by rw [ef_24]; exact hG.set o0 (mk_529 ko0 ⟨_, rfl, okI_up hbg_22 ⟨i32_lo _, i32_hi _⟩ _⟩)
        have hfr0 : ∀ b, kd b ≠ 529 → f_24 b = f b := fun b q529 => (congrFun ef_24 b).trans ((up_ne (fun e9 => q529 (by rw [e9]; exact ko0))).trans (hfr0 b q529))
        have hfo_25 : f_24 o0 = .inl (cI, 256, .inl (upd g_22 (Int32.toNatClampNeg y_17) p1)) := by rw [ef_24]; exact up_self
        obtain ⟨x_26, ex_26⟩ : ∃ y : Int32, y_17 + 1 = y := ⟨_, rfl⟩
        have hx_26 : x_26.toInt = y_17.toInt + 1 := by rw [← ex_26, ad_I (by rw [ti_1]; omega) (by rw [ti_1]; omega), ti_1]
        have bx_26 : (1 ≤ x_26.toInt ∧ x_26.toInt ≤ 256) := by constructor <;> omega
        refine lv_iinc (v := x_26) (lv' := [(2, .int x_26), (3, .int 256), (0, .ref o0), (1, .int p1)]) hx hb dJ7_fill_53178_14 hl (k := 1) rfl ex_26 (by decide) rfl (fun ls hl => ?_)
        refine lv_goto (tgt := 5) hx hb dJ7_fill_53178_17 (by decide) ?_
        exact ih_hloop_16 x_26 (by constructor <;> omega) f_24 hG _ _ hP hS hD hfr0 (by (try rw [ti_256]) <;> omega) ls (lv_sub hl [1, 0, 2, 3] rfl)
  exact hloop_16 257 0 (by decide) f hG _ _ hP hS hD hfr0 (by (try rw [ti_256]) <;> (try rw [ti_0]) <;> omega) ls hl
set_option maxHeartbeats 8000000 in
set_option maxRecDepth 100000 in
theorem s_J7_fill_53178_a535 (l : Launch) (D : va_G) (cI cL cZ cR cG cH : ClassId) (Z : zT) (kd : Nat → Nat) (L : List Nat) (f : Nat → va_E) (hG : GI (okc cI cL cZ cR cG cH L kd) kd L f) (o0 : Nat) (mo0 : o0 ∈ L) (ko0 : kd o0 = 535) (p1 : Int32) (bp1 : (0 ≤ p1.toInt ∧ p1.toInt ≤ 0)) : mPV l D cI cL cZ cR cG cH Z yJ7_fill_53178 cJ7_fill_53178 4 none 0 0 [.ref o0, .int p1] L f (fun (f9 : Nat → va_E) => GI (okc cI cL cZ cR cG cH L kd) kd L f9 ∧ (∀ b, kd b ≠ 535 → f9 b = f b)) := by
  obtain ⟨dC, dI⟩ := D
  refine Met.ofW (cc := cJ7_fill_53178) (maxL := 4) (ret := none) (by decide) rfl ?_
  intro p e s m args below meth c s₁ B hml hv
  obtain ⟨rfl, hP, hK, hD0, hN, hZ⟩ := hv
  have hx := B.exec
  have hb := B.bytes
  have hr := B.returns
  have hU : ∀ w ∈ wsU, w.before _ s = true := fun w h => atoms_spec (ws := wU yJ7_fill_53178 cJ7_fill_53178 4 none) B.pre w (List.mem_cons_of_mem _ h)
  have hown : s.vm.findClass RJ7 = some m.cls := findClass_of_methodNamed B.named
  have hlocks := B.notSynchronized
  have hD := pl_in hD0
  have hS : va_S (fun q => q ∈ L) s.heap s.heap [] := va_S.rf
  have hl := lv_entry ([.ref o0, .int p1]) (n := 4) (Nat.le_of_ble_eq_true rfl)
  rw [lg_entry_eq]
  generalize (lg_sl ([.ref o0, .int p1]) ++ List.replicate (4 - (lg_sl ([.ref o0, .int p1])).length) Slot.unset).toArray = ls at hl ⊢
  have hl : lv_has ls 4 [(0, .ref o0), (1, .int p1)] := hl
  have hfr0 : ∀ b, kd b ≠ 535 → f b = f b := fun _ _ => rfl
  refine lv_iconst (v := 0) hx hb dJ7_fill_53178_0 (by decide) ?_
  refine lv_istore_n (lv' := [(2, .int 0), (0, .ref o0), (1, .int p1)]) hx hb dJ7_fill_53178_1 rfl hl (by decide) rfl (fun ls hl => ?_)
  refine lv_aload_n hx hb dJ7_fill_53178_2 rfl (lv_at hl 1 rfl) ?_
  obtain ⟨g_2, hfo_1, hbg_2⟩ := un_535 (hG _ mo0) ko0
  refine tk_alenP (v := 5329) hx hb hK hP 0 mo0 hfo_1 rfl rfl dJ7_fill_53178_3 ?_
  refine lv_istore_n (lv' := [(3, .int 5329), (2, .int 0), (0, .ref o0), (1, .int p1)]) hx hb dJ7_fill_53178_4 rfl hl (by decide) rfl (fun ls hl => ?_)
  have hloop_16 : ∀ (n : Nat), ∀ (y_17 : Int32), (0 ≤ y_17.toInt ∧ y_17.toInt ≤ 5329) → ∀ (f_19 : Nat → va_E), GI (okc cI cL cZ cR cG cH L kd) kd L f_19 → ∀ (H : Heap) (locs : List Loc), va_P (dC, dI) vwCl (va_pl L f_19) H → va_S (fun q => q ∈ L) s.heap H locs → va_D (fun q => q ∈ L) (va_pl L f_19) → (∀ b, kd b ≠ 535 → f_19 b = f b) → 5329 - y_17.toInt < (n : Int) → ∀ (ls : Array Slot), lv_has ls 4 [(3, .int 5329), (2, .int y_17), (0, .ref o0), (1, .int p1)] → W p l e (headSpec (wU yJ7_fill_53178 cJ7_fill_53178 4 none) { frames := 0, cells := 0, slots := 0, locals := 0 }).room s m [.ref o0, .int p1].toArray below meth c H locs 0 0 (MQ below (va_Qv (fun (f9 : Nat → va_E) => GI (okc cI cL cZ cR cG cH L kd) kd L f9 ∧ (∀ b, kd b ≠ 535 → f9 b = f b)) (qP (dC, dI) cI cL cZ cR cG cH L) (fun q => q ∈ L)) [.ref o0, .int p1].toArray s 0 0 (fun q => q ∈ L)) (F0 m 5 ls []) := by
    intro n
    induction n with
    | zero => intro y_17 by_17 f_19 hG H locs hP hS hD hfr0 hmuhloop_16 ls hl; exfalso; omega
    | succ n ih_hloop_16 =>
      intro y_17 by_17 f_19 hG H locs hP hS hD hfr0 hmuhloop_16 ls hl
      refine lv_iload_n hx hb dJ7_fill_53178_5 rfl (lv_at hl 1 rfl) ?_
      refine lv_iload_n hx hb dJ7_fill_53178_6 rfl (lv_at hl 0 rfl) ?_
      refine lv_icmp_ge (tgt := 20) hx hb dJ7_fill_53178_7 (by decide) (fun c_20 => ?_) (fun c_20 => ?_)
      · skip
        rw [Int32.le_iff_toInt_le, ti_5329] at c_20
        exact W.vret hx hb hr (fun t ht hW => ⟨⟨f_19, rfl, ⟨hG, hfr0⟩, by rw [ht]; exact hP, va_K.moved hW.alike hK, pl_in hD⟩, hS.F ht⟩) hS.2.2 dJ7_fill_53178_20
      · skip
        rw [Int32.le_iff_toInt_le, ti_5329] at c_20
        refine lv_aload_n hx hb dJ7_fill_53178_10 rfl (lv_at hl 2 rfl) ?_
        refine lv_iload_n hx hb dJ7_fill_53178_11 rfl (lv_at hl 1 rfl) ?_
        refine lv_iload_n hx hb dJ7_fill_53178_12 rfl (lv_at hl 3 rfl) ?_
        obtain ⟨g_22, hfo_21, hbg_22⟩ := un_535 (hG _ mo0) ko0
        refine tk_istP hx hb hK hP hD hS 0 mo0 hfo_21 rfl (vp_in_iff.mpr (by constructor <;> omega)) dJ7_fill_53178_13 (fun H locs hP hD hS => ?_)
        obtain ⟨f_24, ef_24⟩ : ∃ y : Nat → va_E, y = va_up f_19 o0 (.inl (cI, 5329, .inl (upd g_22 (Int32.toNatClampNeg y_17) p1))) := ⟨_, rfl⟩
        have hP : va_P (dC, dI) vwCl (va_pl L f_24) H := by rw [ef_24]; exact hP
        have hD : va_D (fun q => q ∈ L) (va_pl L f_24) := by rw [ef_24]; exact hD
        have hG : GI (okc cI cL cZ cR cG cH L kd) kd L f_24 := by rw [ef_24]; exact hG.set o0 (mk_535 ko0 ⟨_, rfl, okI_up hbg_22 (by constructor <;> omega) _⟩)
        have hfr0 : ∀ b, kd b ≠ 535 → f_24 b = f b := fun b q535 => (congrFun ef_24 b).trans ((up_ne (fun e9 => q535 (by rw [e9]; exact ko0))).trans (hfr0 b q535))
        have hfo_25 : f_24 o0 = .inl (cI, 5329, .inl (upd g_22 (Int32.toNatClampNeg y_17) p1)) := by rw [ef_24]; exact up_self
        obtain ⟨x_26, ex_26⟩ : ∃ y : Int32, y_17 + 1 = y := ⟨_, rfl⟩
        have hx_26 : x_26.toInt = y_17.toInt + 1 := by rw [← ex_26, ad_I (by rw [ti_1]; omega) (by rw [ti_1]; omega), ti_1]
        have bx_26 : (1 ≤ x_26.toInt ∧ x_26.toInt ≤ 5329) := by constructor <;> omega
        refine lv_iinc (v := x_26) (lv' := [(2, .int x_26), (3, .int 5329), (0, .ref o0), (1, .int p1)]) hx hb dJ7_fill_53178_14 hl (k := 1) rfl ex_26 (by decide) rfl (fun ls hl => ?_)
        refine lv_goto (tgt := 5) hx hb dJ7_fill_53178_17 (by decide) ?_
        exact ih_hloop_16 x_26 (by constructor <;> omega) f_24 hG _ _ hP hS hD hfr0 (by (try rw [ti_5329]) <;> omega) ls (lv_sub hl [1, 0, 2, 3] rfl)
  exact hloop_16 5330 0 (by decide) f hG _ _ hP hS hD hfr0 (by (try rw [ti_5329]) <;> (try rw [ti_0]) <;> omega) ls hl
