set_option maxHeartbeats 8000000 in
set_option maxRecDepth 100000 in
theorem s_J7_fill_53178_k20 (l : Launch) (D : va_G) (cI cL cZ cR : ClassId) (kd : Nat → Nat) (L : List Nat) (f : Nat → va_E) (hG : GI (okc cI cL cZ cR L kd) kd L f) (o0 : Nat) (mo0 : o0 ∈ L) (ko0 : kd o0 = 20) (p1 : Int32) (bp1 : (0 ≤ p1.toInt ∧ p1.toInt ≤ 0)) : mPV l D cI cL cZ cR yJ7_fill_53178 cJ7_fill_53178 4 none 0 0 [.ref o0, .int p1] L f (fun (f9 : Nat → va_E) => GI (okc cI cL cZ cR L kd) kd L f9) := by
  obtain ⟨dC, dI⟩ := D
  refine Met.ofW (cc := cJ7_fill_53178) (maxL := 4) (ret := none) (by decide) rfl ?_
  intro p e s m args below meth c s₁ B hml hv
  obtain ⟨rfl, hP, hK, hD0, hN⟩ := hv
  have hx := B.exec
  have hb := B.bytes
  have hr := B.returns
  have hU : ∀ w ∈ wsU, w.before _ s = true := fun w h => atoms_spec (ws := wU yJ7_fill_53178 cJ7_fill_53178 4 none) B.pre w (List.mem_cons_of_mem _ h)
  have hown : s.vm.findClass RJ7 = some m.cls := findClass_of_methodNamed B.named
  have hlocks := B.notSynchronized
  have hD := pl_in hD0
  have hS : va_S (fun q => q ∈ L) s.heap s.heap [] := va_S.rf
  have hl := lv_entry ([.ref o0, .int p1]) (n := 4) (Nat.le_of_ble_eq_true rfl)
  rw [lg_entry_eq]
  generalize (lg_sl ([.ref o0, .int p1]) ++ List.replicate (4 - (lg_sl ([.ref o0, .int p1])).length) Slot.unset).toArray = ls at hl ⊢
  have hl : lv_has ls 4 [(0, .ref o0), (1, .int p1)] := hl
  refine lv_iconst (v := 0) hx hb dJ7_fill_53178_0 (by decide) ?_
  refine lv_istore_n (lv' := [(2, .int 0), (0, .ref o0), (1, .int p1)]) hx hb dJ7_fill_53178_1 rfl hl (by decide) rfl (fun ls hl => ?_)
  refine lv_aload_n hx hb dJ7_fill_53178_2 rfl (lv_at hl 1 rfl) ?_
  obtain ⟨g_2, hfo_1, hbg_2⟩ := un_20 (hG _ mo0) ko0
  refine tk_alenP (v := 18) hx hb hK hP 0 mo0 hfo_1 rfl rfl dJ7_fill_53178_3 ?_
  refine lv_istore_n (lv' := [(3, .int 18), (2, .int 0), (0, .ref o0), (1, .int p1)]) hx hb dJ7_fill_53178_4 rfl hl (by decide) rfl (fun ls hl => ?_)
  have hloop_11 : ∀ (n : Nat), ∀ (y_9 : Int32), (0 ≤ y_9.toInt ∧ y_9.toInt ≤ 18) → ∀ (f_10 : Nat → va_E), GI (okc cI cL cZ cR L kd) kd L f_10 → ∀ (H : Heap) (locs : List Loc), va_P (dC, dI) vwCl (va_pl L f_10) H → va_D (fun q => q ∈ L) (va_pl L f_10) → va_S (fun q => q ∈ L) s.heap H locs → (∀ b, kd b ≠ 20 → f_10 b = f b) → 18 - y_9.toInt < (n : Int) → ∀ (ls : Array Slot), lv_has ls 4 [(3, .int 18), (2, .int y_9), (0, .ref o0), (1, .int p1)] → W p l e (headSpec (wU yJ7_fill_53178 cJ7_fill_53178 4 none) { frames := 0, cells := 0, slots := 0, locals := 0 }).room s m [.ref o0, .int p1].toArray below meth c H locs 0 0 (MQ below (va_Qv (fun (f9 : Nat → va_E) => GI (okc cI cL cZ cR L kd) kd L f9) (qP (dC, dI) cI cL cZ cR L) (fun q => q ∈ L)) [.ref o0, .int p1].toArray s 0 0 (fun q => q ∈ L)) (F0 m 5 ls []) := by
    intro n
    induction n with
    | zero => intro y_9 by_9 f_10 hG H locs hP hD hS hfr_hloop_11 hmuhloop_11 ls hl; exfalso; omega
    | succ n ih_hloop_11 =>
      intro y_9 by_9 f_10 hG H locs hP hD hS hfr_hloop_11 hmuhloop_11 ls hl
      refine lv_iload_n hx hb dJ7_fill_53178_5 rfl (lv_at hl 1 rfl) ?_
      refine lv_iload_n hx hb dJ7_fill_53178_6 rfl (lv_at hl 0 rfl) ?_
      refine lv_icmp_ge (tgt := 20) hx hb dJ7_fill_53178_7 (by decide) (fun c_12 => ?_) (fun c_12 => ?_)
      · skip
        rw [Int32.le_iff_toInt_le, ti_18] at c_12
        exact W.vret hx hb hr (fun t ht hW => ⟨⟨f_10, rfl, hG, by rw [ht]; exact hP, va_K.moved hW.alike hK, pl_in hD⟩, hS.F ht⟩) hS.2.2 dJ7_fill_53178_20
      · skip
        rw [Int32.le_iff_toInt_le, ti_18] at c_12
        refine lv_aload_n hx hb dJ7_fill_53178_10 rfl (lv_at hl 2 rfl) ?_
        refine lv_iload_n hx hb dJ7_fill_53178_11 rfl (lv_at hl 1 rfl) ?_
        refine lv_iload_n hx hb dJ7_fill_53178_12 rfl (lv_at hl 3 rfl) ?_
        obtain ⟨g_14, hfo_13, hbg_14⟩ := un_20 (hG _ mo0) ko0
        refine tk_istP hx hb hK hP hD hS 0 mo0 hfo_13 rfl (vp_in_iff.mpr (by constructor <;> omega)) dJ7_fill_53178_13 (fun H locs hP hD hS => ?_)
        obtain ⟨f_15, ef_15⟩ : ∃ y : Nat → va_E, y = va_up f_10 o0 (.inl (cI, 18, .inl (upd g_14 (Int32.toNatClampNeg y_9) p1))) := ⟨_, rfl⟩
        have hP : va_P (dC, dI) vwCl (va_pl L f_15) H := by rw [ef_15]; exact hP
        have hD : va_D (fun q => q ∈ L) (va_pl L f_15) := by rw [ef_15]; exact hD
        have hG : GI (okc cI cL cZ cR L kd) kd L f_15 := by rw [ef_15]; exact hG.set o0 (mk_20 ko0 ⟨_, rfl, okI_up hbg_14 ⟨i32_lo _, i32_hi _⟩ _⟩)
        have hfr_hloop_11 : ∀ b, kd b ≠ 20 → f_15 b = f b := fun b q20 => by rw [ef_15, up_ne (fun e9 => q20 (by rw [e9]; exact ko0))]; exact hfr_hloop_11 b q20
        have hfo_16 : f_15 o0 = .inl (cI, 18, .inl (upd g_14 (Int32.toNatClampNeg y_9) p1)) := by rw [ef_15]; exact up_self
        obtain ⟨x_17, ex_17⟩ : ∃ y : Int32, y_9 + 1 = y := ⟨_, rfl⟩
        have hx_17 : x_17.toInt = y_9.toInt + 1 := by rw [← ex_17, ad_I (by rw [ti_1]; omega) (by rw [ti_1]; omega), ti_1]
        have bx_17 : (1 ≤ x_17.toInt ∧ x_17.toInt ≤ 18) := by constructor <;> omega
        refine lv_iinc (v := x_17) (lv' := [(2, .int x_17), (3, .int 18), (0, .ref o0), (1, .int p1)]) hx hb dJ7_fill_53178_14 hl (k := 1) rfl ex_17 (by decide) rfl (fun ls hl => ?_)
        refine lv_goto (tgt := 5) hx hb dJ7_fill_53178_17 (by decide) ?_
        exact ih_hloop_11 x_17 (by constructor <;> omega) f_15 hG _ _ hP hD hS hfr_hloop_11 (by omega) ls (lv_sub hl [1, 0, 2, 3] rfl)
  exact hloop_11 19 0 (by decide) f hG _ _ hP hD hS (fun _ _ => rfl) (by (try simp only [ti_18, ti_0]); omega) ls hl
set_option maxHeartbeats 8000000 in
set_option maxRecDepth 100000 in
theorem s_J7_fill_53178_k21 (l : Launch) (D : va_G) (cI cL cZ cR : ClassId) (kd : Nat → Nat) (L : List Nat) (f : Nat → va_E) (hG : GI (okc cI cL cZ cR L kd) kd L f) (o0 : Nat) (mo0 : o0 ∈ L) (ko0 : kd o0 = 21) (p1 : Int32) (bp1 : (0 ≤ p1.toInt ∧ p1.toInt ≤ 0)) : mPV l D cI cL cZ cR yJ7_fill_53178 cJ7_fill_53178 4 none 0 0 [.ref o0, .int p1] L f (fun (f9 : Nat → va_E) => GI (okc cI cL cZ cR L kd) kd L f9) := by
  obtain ⟨dC, dI⟩ := D
  refine Met.ofW (cc := cJ7_fill_53178) (maxL := 4) (ret := none) (by decide) rfl ?_
  intro p e s m args below meth c s₁ B hml hv
  obtain ⟨rfl, hP, hK, hD0, hN⟩ := hv
  have hx := B.exec
  have hb := B.bytes
  have hr := B.returns
  have hU : ∀ w ∈ wsU, w.before _ s = true := fun w h => atoms_spec (ws := wU yJ7_fill_53178 cJ7_fill_53178 4 none) B.pre w (List.mem_cons_of_mem _ h)
  have hown : s.vm.findClass RJ7 = some m.cls := findClass_of_methodNamed B.named
  have hlocks := B.notSynchronized
  have hD := pl_in hD0
  have hS : va_S (fun q => q ∈ L) s.heap s.heap [] := va_S.rf
  have hl := lv_entry ([.ref o0, .int p1]) (n := 4) (Nat.le_of_ble_eq_true rfl)
  rw [lg_entry_eq]
  generalize (lg_sl ([.ref o0, .int p1]) ++ List.replicate (4 - (lg_sl ([.ref o0, .int p1])).length) Slot.unset).toArray = ls at hl ⊢
  have hl : lv_has ls 4 [(0, .ref o0), (1, .int p1)] := hl
  refine lv_iconst (v := 0) hx hb dJ7_fill_53178_0 (by decide) ?_
  refine lv_istore_n (lv' := [(2, .int 0), (0, .ref o0), (1, .int p1)]) hx hb dJ7_fill_53178_1 rfl hl (by decide) rfl (fun ls hl => ?_)
  refine lv_aload_n hx hb dJ7_fill_53178_2 rfl (lv_at hl 1 rfl) ?_
  obtain ⟨g_2, hfo_1, hbg_2⟩ := un_21 (hG _ mo0) ko0
  refine tk_alenP (v := 20) hx hb hK hP 0 mo0 hfo_1 rfl rfl dJ7_fill_53178_3 ?_
  refine lv_istore_n (lv' := [(3, .int 20), (2, .int 0), (0, .ref o0), (1, .int p1)]) hx hb dJ7_fill_53178_4 rfl hl (by decide) rfl (fun ls hl => ?_)
  have hloop_11 : ∀ (n : Nat), ∀ (y_9 : Int32), (0 ≤ y_9.toInt ∧ y_9.toInt ≤ 20) → ∀ (f_10 : Nat → va_E), GI (okc cI cL cZ cR L kd) kd L f_10 → ∀ (H : Heap) (locs : List Loc), va_P (dC, dI) vwCl (va_pl L f_10) H → va_D (fun q => q ∈ L) (va_pl L f_10) → va_S (fun q => q ∈ L) s.heap H locs → (∀ b, kd b ≠ 21 → f_10 b = f b) → 20 - y_9.toInt < (n : Int) → ∀ (ls : Array Slot), lv_has ls 4 [(3, .int 20), (2, .int y_9), (0, .ref o0), (1, .int p1)] → W p l e (headSpec (wU yJ7_fill_53178 cJ7_fill_53178 4 none) { frames := 0, cells := 0, slots := 0, locals := 0 }).room s m [.ref o0, .int p1].toArray below meth c H locs 0 0 (MQ below (va_Qv (fun (f9 : Nat → va_E) => GI (okc cI cL cZ cR L kd) kd L f9) (qP (dC, dI) cI cL cZ cR L) (fun q => q ∈ L)) [.ref o0, .int p1].toArray s 0 0 (fun q => q ∈ L)) (F0 m 5 ls []) := by
    intro n
    induction n with
    | zero => intro y_9 by_9 f_10 hG H locs hP hD hS hfr_hloop_11 hmuhloop_11 ls hl; exfalso; omega
    | succ n ih_hloop_11 =>
      intro y_9 by_9 f_10 hG H locs hP hD hS hfr_hloop_11 hmuhloop_11 ls hl
      refine lv_iload_n hx hb dJ7_fill_53178_5 rfl (lv_at hl 1 rfl) ?_
      refine lv_iload_n hx hb dJ7_fill_53178_6 rfl (lv_at hl 0 rfl) ?_
      refine lv_icmp_ge (tgt := 20) hx hb dJ7_fill_53178_7 (by decide) (fun c_12 => ?_) (fun c_12 => ?_)
      · skip
        rw [Int32.le_iff_toInt_le, ti_20] at c_12
        exact W.vret hx hb hr (fun t ht hW => ⟨⟨f_10, rfl, hG, by rw [ht]; exact hP, va_K.moved hW.alike hK, pl_in hD⟩, hS.F ht⟩) hS.2.2 dJ7_fill_53178_20
      · skip
        rw [Int32.le_iff_toInt_le, ti_20] at c_12
        refine lv_aload_n hx hb dJ7_fill_53178_10 rfl (lv_at hl 2 rfl) ?_
        refine lv_iload_n hx hb dJ7_fill_53178_11 rfl (lv_at hl 1 rfl) ?_
        refine lv_iload_n hx hb dJ7_fill_53178_12 rfl (lv_at hl 3 rfl) ?_
        obtain ⟨g_14, hfo_13, hbg_14⟩ := un_21 (hG _ mo0) ko0
        refine tk_istP hx hb hK hP hD hS 0 mo0 hfo_13 rfl (vp_in_iff.mpr (by constructor <;> omega)) dJ7_fill_53178_13 (fun H locs hP hD hS => ?_)
        obtain ⟨f_15, ef_15⟩ : ∃ y : Nat → va_E, y = va_up f_10 o0 (.inl (cI, 20, .inl (upd g_14 (Int32.toNatClampNeg y_9) p1))) := ⟨_, rfl⟩
        have hP : va_P (dC, dI) vwCl (va_pl L f_15) H := by rw [ef_15]; exact hP
        have hD : va_D (fun q => q ∈ L) (va_pl L f_15) := by rw [ef_15]; exact hD
        have hG : GI (okc cI cL cZ cR L kd) kd L f_15 := by rw [ef_15]; exact hG.set o0 (mk_21 ko0 ⟨_, rfl, okI_up hbg_14 ⟨i32_lo _, i32_hi _⟩ _⟩)
        have hfr_hloop_11 : ∀ b, kd b ≠ 21 → f_15 b = f b := fun b q21 => by rw [ef_15, up_ne (fun e9 => q21 (by rw [e9]; exact ko0))]; exact hfr_hloop_11 b q21
        have hfo_16 : f_15 o0 = .inl (cI, 20, .inl (upd g_14 (Int32.toNatClampNeg y_9) p1)) := by rw [ef_15]; exact up_self
        obtain ⟨x_17, ex_17⟩ : ∃ y : Int32, y_9 + 1 = y := ⟨_, rfl⟩
        have hx_17 : x_17.toInt = y_9.toInt + 1 := by rw [← ex_17, ad_I (by rw [ti_1]; omega) (by rw [ti_1]; omega), ti_1]
        have bx_17 : (1 ≤ x_17.toInt ∧ x_17.toInt ≤ 20) := by constructor <;> omega
        refine lv_iinc (v := x_17) (lv' := [(2, .int x_17), (3, .int 20), (0, .ref o0), (1, .int p1)]) hx hb dJ7_fill_53178_14 hl (k := 1) rfl ex_17 (by decide) rfl (fun ls hl => ?_)
        refine lv_goto (tgt := 5) hx hb dJ7_fill_53178_17 (by decide) ?_
        exact ih_hloop_11 x_17 (by constructor <;> omega) f_15 hG _ _ hP hD hS hfr_hloop_11 (by omega) ls (lv_sub hl [1, 0, 2, 3] rfl)
  exact hloop_11 21 0 (by decide) f hG _ _ hP hD hS (fun _ _ => rfl) (by (try simp only [ti_20, ti_0]); omega) ls hl
set_option maxHeartbeats 8000000 in
set_option maxRecDepth 100000 in
theorem s_J7_fill_53178_k28 (l : Launch) (D : va_G) (cI cL cZ cR : ClassId) (kd : Nat → Nat) (L : List Nat) (f : Nat → va_E) (hG : GI (okc cI cL cZ cR L kd) kd L f) (o0 : Nat) (mo0 : o0 ∈ L) (ko0 : kd o0 = 28) (p1 : Int32) (bp1 : (0 ≤ p1.toInt ∧ p1.toInt ≤ 0)) : mPV l D cI cL cZ cR yJ7_fill_53178 cJ7_fill_53178 4 none 0 0 [.ref o0, .int p1] L f (fun (f9 : Nat → va_E) => GI (okc cI cL cZ cR L kd) kd L f9) := by
  obtain ⟨dC, dI⟩ := D
  refine Met.ofW (cc := cJ7_fill_53178) (maxL := 4) (ret := none) (by decide) rfl ?_
  intro p e s m args below meth c s₁ B hml hv
  obtain ⟨rfl, hP, hK, hD0, hN⟩ := hv
  have hx := B.exec
  have hb := B.bytes
  have hr := B.returns
  have hU : ∀ w ∈ wsU, w.before _ s = true := fun w h => atoms_spec (ws := wU yJ7_fill_53178 cJ7_fill_53178 4 none) B.pre w (List.mem_cons_of_mem _ h)
  have hown : s.vm.findClass RJ7 = some m.cls := findClass_of_methodNamed B.named
  have hlocks := B.notSynchronized
  have hD := pl_in hD0
  have hS : va_S (fun q => q ∈ L) s.heap s.heap [] := va_S.rf
  have hl := lv_entry ([.ref o0, .int p1]) (n := 4) (Nat.le_of_ble_eq_true rfl)
  rw [lg_entry_eq]
  generalize (lg_sl ([.ref o0, .int p1]) ++ List.replicate (4 - (lg_sl ([.ref o0, .int p1])).length) Slot.unset).toArray = ls at hl ⊢
  have hl : lv_has ls 4 [(0, .ref o0), (1, .int p1)] := hl
  refine lv_iconst (v := 0) hx hb dJ7_fill_53178_0 (by decide) ?_
  refine lv_istore_n (lv' := [(2, .int 0), (0, .ref o0), (1, .int p1)]) hx hb dJ7_fill_53178_1 rfl hl (by decide) rfl (fun ls hl => ?_)
  refine lv_aload_n hx hb dJ7_fill_53178_2 rfl (lv_at hl 1 rfl) ?_
  obtain ⟨g_2, hfo_1, hbg_2⟩ := un_28 (hG _ mo0) ko0
  refine tk_alenP (v := 26) hx hb hK hP 0 mo0 hfo_1 rfl rfl dJ7_fill_53178_3 ?_
  refine lv_istore_n (lv' := [(3, .int 26), (2, .int 0), (0, .ref o0), (1, .int p1)]) hx hb dJ7_fill_53178_4 rfl hl (by decide) rfl (fun ls hl => ?_)
  have hloop_11 : ∀ (n : Nat), ∀ (y_9 : Int32), (0 ≤ y_9.toInt ∧ y_9.toInt ≤ 26) → ∀ (f_10 : Nat → va_E), GI (okc cI cL cZ cR L kd) kd L f_10 → ∀ (H : Heap) (locs : List Loc), va_P (dC, dI) vwCl (va_pl L f_10) H → va_D (fun q => q ∈ L) (va_pl L f_10) → va_S (fun q => q ∈ L) s.heap H locs → (∀ b, kd b ≠ 28 → f_10 b = f b) → 26 - y_9.toInt < (n : Int) → ∀ (ls : Array Slot), lv_has ls 4 [(3, .int 26), (2, .int y_9), (0, .ref o0), (1, .int p1)] → W p l e (headSpec (wU yJ7_fill_53178 cJ7_fill_53178 4 none) { frames := 0, cells := 0, slots := 0, locals := 0 }).room s m [.ref o0, .int p1].toArray below meth c H locs 0 0 (MQ below (va_Qv (fun (f9 : Nat → va_E) => GI (okc cI cL cZ cR L kd) kd L f9) (qP (dC, dI) cI cL cZ cR L) (fun q => q ∈ L)) [.ref o0, .int p1].toArray s 0 0 (fun q => q ∈ L)) (F0 m 5 ls []) := by
    intro n
    induction n with
    | zero => intro y_9 by_9 f_10 hG H locs hP hD hS hfr_hloop_11 hmuhloop_11 ls hl; exfalso; omega
    | succ n ih_hloop_11 =>
      intro y_9 by_9 f_10 hG H locs hP hD hS hfr_hloop_11 hmuhloop_11 ls hl
      refine lv_iload_n hx hb dJ7_fill_53178_5 rfl (lv_at hl 1 rfl) ?_
      refine lv_iload_n hx hb dJ7_fill_53178_6 rfl (lv_at hl 0 rfl) ?_
      refine lv_icmp_ge (tgt := 20) hx hb dJ7_fill_53178_7 (by decide) (fun c_12 => ?_) (fun c_12 => ?_)
      · skip
        rw [Int32.le_iff_toInt_le, ti_26] at c_12
        exact W.vret hx hb hr (fun t ht hW => ⟨⟨f_10, rfl, hG, by rw [ht]; exact hP, va_K.moved hW.alike hK, pl_in hD⟩, hS.F ht⟩) hS.2.2 dJ7_fill_53178_20
      · skip
        rw [Int32.le_iff_toInt_le, ti_26] at c_12
        refine lv_aload_n hx hb dJ7_fill_53178_10 rfl (lv_at hl 2 rfl) ?_
        refine lv_iload_n hx hb dJ7_fill_53178_11 rfl (lv_at hl 1 rfl) ?_
        refine lv_iload_n hx hb dJ7_fill_53178_12 rfl (lv_at hl 3 rfl) ?_
        obtain ⟨g_14, hfo_13, hbg_14⟩ := un_28 (hG _ mo0) ko0
        refine tk_istP hx hb hK hP hD hS 0 mo0 hfo_13 rfl (vp_in_iff.mpr (by constructor <;> omega)) dJ7_fill_53178_13 (fun H locs hP hD hS => ?_)
        obtain ⟨f_15, ef_15⟩ : ∃ y : Nat → va_E, y = va_up f_10 o0 (.inl (cI, 26, .inl (upd g_14 (Int32.toNatClampNeg y_9) p1))) := ⟨_, rfl⟩
        have hP : va_P (dC, dI) vwCl (va_pl L f_15) H := by rw [ef_15]; exact hP
        have hD : va_D (fun q => q ∈ L) (va_pl L f_15) := by rw [ef_15]; exact hD
        have hG : GI (okc cI cL cZ cR L kd) kd L f_15 := by rw [ef_15]; exact hG.set o0 (mk_28 ko0 ⟨_, rfl, okI_up hbg_14 (by constructor <;> omega) _⟩)
        have hfr_hloop_11 : ∀ b, kd b ≠ 28 → f_15 b = f b := fun b q28 => by rw [ef_15, up_ne (fun e9 => q28 (by rw [e9]; exact ko0))]; exact hfr_hloop_11 b q28
        have hfo_16 : f_15 o0 = .inl (cI, 26, .inl (upd g_14 (Int32.toNatClampNeg y_9) p1)) := by rw [ef_15]; exact up_self
        obtain ⟨x_17, ex_17⟩ : ∃ y : Int32, y_9 + 1 = y := ⟨_, rfl⟩
        have hx_17 : x_17.toInt = y_9.toInt + 1 := by rw [← ex_17, ad_I (by rw [ti_1]; omega) (by rw [ti_1]; omega), ti_1]
        have bx_17 : (1 ≤ x_17.toInt ∧ x_17.toInt ≤ 26) := by constructor <;> omega
        refine lv_iinc (v := x_17) (lv' := [(2, .int x_17), (3, .int 26), (0, .ref o0), (1, .int p1)]) hx hb dJ7_fill_53178_14 hl (k := 1) rfl ex_17 (by decide) rfl (fun ls hl => ?_)
        refine lv_goto (tgt := 5) hx hb dJ7_fill_53178_17 (by decide) ?_
        exact ih_hloop_11 x_17 (by constructor <;> omega) f_15 hG _ _ hP hD hS hfr_hloop_11 (by omega) ls (lv_sub hl [1, 0, 2, 3] rfl)
  exact hloop_11 27 0 (by decide) f hG _ _ hP hD hS (fun _ _ => rfl) (by (try simp only [ti_26, ti_0]); omega) ls hl
set_option maxHeartbeats 8000000 in
set_option maxRecDepth 100000 in
theorem s_J7_fill_53178_k29 (l : Launch) (D : va_G) (cI cL cZ cR : ClassId) (kd : Nat → Nat) (L : List Nat) (f : Nat → va_E) (hG : GI (okc cI cL cZ cR L kd) kd L f) (o0 : Nat) (mo0 : o0 ∈ L) (ko0 : kd o0 = 29) (p1 : Int32) (bp1 : (0 ≤ p1.toInt ∧ p1.toInt ≤ 0)) : mPV l D cI cL cZ cR yJ7_fill_53178 cJ7_fill_53178 4 none 0 0 [.ref o0, .int p1] L f (fun (f9 : Nat → va_E) => GI (okc cI cL cZ cR L kd) kd L f9) := by
  obtain ⟨dC, dI⟩ := D
  refine Met.ofW (cc := cJ7_fill_53178) (maxL := 4) (ret := none) (by decide) rfl ?_
  intro p e s m args below meth c s₁ B hml hv
  obtain ⟨rfl, hP, hK, hD0, hN⟩ := hv
  have hx := B.exec
  have hb := B.bytes
  have hr := B.returns
  have hU : ∀ w ∈ wsU, w.before _ s = true := fun w h => atoms_spec (ws := wU yJ7_fill_53178 cJ7_fill_53178 4 none) B.pre w (List.mem_cons_of_mem _ h)
  have hown : s.vm.findClass RJ7 = some m.cls := findClass_of_methodNamed B.named
  have hlocks := B.notSynchronized
  have hD := pl_in hD0
  have hS : va_S (fun q => q ∈ L) s.heap s.heap [] := va_S.rf
  have hl := lv_entry ([.ref o0, .int p1]) (n := 4) (Nat.le_of_ble_eq_true rfl)
  rw [lg_entry_eq]
  generalize (lg_sl ([.ref o0, .int p1]) ++ List.replicate (4 - (lg_sl ([.ref o0, .int p1])).length) Slot.unset).toArray = ls at hl ⊢
  have hl : lv_has ls 4 [(0, .ref o0), (1, .int p1)] := hl
  refine lv_iconst (v := 0) hx hb dJ7_fill_53178_0 (by decide) ?_
  refine lv_istore_n (lv' := [(2, .int 0), (0, .ref o0), (1, .int p1)]) hx hb dJ7_fill_53178_1 rfl hl (by decide) rfl (fun ls hl => ?_)
  refine lv_aload_n hx hb dJ7_fill_53178_2 rfl (lv_at hl 1 rfl) ?_
  obtain ⟨g_2, hfo_1, hbg_2⟩ := un_29 (hG _ mo0) ko0
  refine tk_alenP (v := 6) hx hb hK hP 0 mo0 hfo_1 rfl rfl dJ7_fill_53178_3 ?_
  refine lv_istore_n (lv' := [(3, .int 6), (2, .int 0), (0, .ref o0), (1, .int p1)]) hx hb dJ7_fill_53178_4 rfl hl (by decide) rfl (fun ls hl => ?_)
  have hloop_11 : ∀ (n : Nat), ∀ (y_9 : Int32), (0 ≤ y_9.toInt ∧ y_9.toInt ≤ 6) → ∀ (f_10 : Nat → va_E), GI (okc cI cL cZ cR L kd) kd L f_10 → ∀ (H : Heap) (locs : List Loc), va_P (dC, dI) vwCl (va_pl L f_10) H → va_D (fun q => q ∈ L) (va_pl L f_10) → va_S (fun q => q ∈ L) s.heap H locs → (∀ b, kd b ≠ 29 → f_10 b = f b) → 6 - y_9.toInt < (n : Int) → ∀ (ls : Array Slot), lv_has ls 4 [(3, .int 6), (2, .int y_9), (0, .ref o0), (1, .int p1)] → W p l e (headSpec (wU yJ7_fill_53178 cJ7_fill_53178 4 none) { frames := 0, cells := 0, slots := 0, locals := 0 }).room s m [.ref o0, .int p1].toArray below meth c H locs 0 0 (MQ below (va_Qv (fun (f9 : Nat → va_E) => GI (okc cI cL cZ cR L kd) kd L f9) (qP (dC, dI) cI cL cZ cR L) (fun q => q ∈ L)) [.ref o0, .int p1].toArray s 0 0 (fun q => q ∈ L)) (F0 m 5 ls []) := by
    intro n
    induction n with
    | zero => intro y_9 by_9 f_10 hG H locs hP hD hS hfr_hloop_11 hmuhloop_11 ls hl; exfalso; omega
    | succ n ih_hloop_11 =>
      intro y_9 by_9 f_10 hG H locs hP hD hS hfr_hloop_11 hmuhloop_11 ls hl
      refine lv_iload_n hx hb dJ7_fill_53178_5 rfl (lv_at hl 1 rfl) ?_
      refine lv_iload_n hx hb dJ7_fill_53178_6 rfl (lv_at hl 0 rfl) ?_
      refine lv_icmp_ge (tgt := 20) hx hb dJ7_fill_53178_7 (by decide) (fun c_12 => ?_) (fun c_12 => ?_)
      · skip
        rw [Int32.le_iff_toInt_le, ti_6] at c_12
        exact W.vret hx hb hr (fun t ht hW => ⟨⟨f_10, rfl, hG, by rw [ht]; exact hP, va_K.moved hW.alike hK, pl_in hD⟩, hS.F ht⟩) hS.2.2 dJ7_fill_53178_20
      · skip
        rw [Int32.le_iff_toInt_le, ti_6] at c_12
        refine lv_aload_n hx hb dJ7_fill_53178_10 rfl (lv_at hl 2 rfl) ?_
        refine lv_iload_n hx hb dJ7_fill_53178_11 rfl (lv_at hl 1 rfl) ?_
        refine lv_iload_n hx hb dJ7_fill_53178_12 rfl (lv_at hl 3 rfl) ?_
        obtain ⟨g_14, hfo_13, hbg_14⟩ := un_29 (hG _ mo0) ko0
        refine tk_istP hx hb hK hP hD hS 0 mo0 hfo_13 rfl (vp_in_iff.mpr (by constructor <;> omega)) dJ7_fill_53178_13 (fun H locs hP hD hS => ?_)
        obtain ⟨f_15, ef_15⟩ : ∃ y : Nat → va_E, y = va_up f_10 o0 (.inl (cI, 6, .inl (upd g_14 (Int32.toNatClampNeg y_9) p1))) := ⟨_, rfl⟩
        have hP : va_P (dC, dI) vwCl (va_pl L f_15) H := by rw [ef_15]; exact hP
        have hD : va_D (fun q => q ∈ L) (va_pl L f_15) := by rw [ef_15]; exact hD
        have hG : GI (okc cI cL cZ cR L kd) kd L f_15 := by rw [ef_15]; exact hG.set o0 (mk_29 ko0 ⟨_, rfl, okI_up hbg_14 ⟨i32_lo _, i32_hi _⟩ _⟩)
        have hfr_hloop_11 : ∀ b, kd b ≠ 29 → f_15 b = f b := fun b q29 => by rw [ef_15, up_ne (fun e9 => q29 (by rw [e9]; exact ko0))]; exact hfr_hloop_11 b q29
        have hfo_16 : f_15 o0 = .inl (cI, 6, .inl (upd g_14 (Int32.toNatClampNeg y_9) p1)) := by rw [ef_15]; exact up_self
        obtain ⟨x_17, ex_17⟩ : ∃ y : Int32, y_9 + 1 = y := ⟨_, rfl⟩
        have hx_17 : x_17.toInt = y_9.toInt + 1 := by rw [← ex_17, ad_I (by rw [ti_1]; omega) (by rw [ti_1]; omega), ti_1]
        have bx_17 : (1 ≤ x_17.toInt ∧ x_17.toInt ≤ 6) := by constructor <;> omega
        refine lv_iinc (v := x_17) (lv' := [(2, .int x_17), (3, .int 6), (0, .ref o0), (1, .int p1)]) hx hb dJ7_fill_53178_14 hl (k := 1) rfl ex_17 (by decide) rfl (fun ls hl => ?_)
        refine lv_goto (tgt := 5) hx hb dJ7_fill_53178_17 (by decide) ?_
        exact ih_hloop_11 x_17 (by constructor <;> omega) f_15 hG _ _ hP hD hS hfr_hloop_11 (by omega) ls (lv_sub hl [1, 0, 2, 3] rfl)
  exact hloop_11 7 0 (by decide) f hG _ _ hP hD hS (fun _ _ => rfl) (by (try simp only [ti_6, ti_0]); omega) ls hl
set_option maxHeartbeats 8000000 in
set_option maxRecDepth 100000 in
theorem s_J7_fill_53178_k30 (l : Launch) (D : va_G) (cI cL cZ cR : ClassId) (kd : Nat → Nat) (L : List Nat) (f : Nat → va_E) (hG : GI (okc cI cL cZ cR L kd) kd L f) (o0 : Nat) (mo0 : o0 ∈ L) (ko0 : kd o0 = 30) (p1 : Int32) (bp1 : (0 ≤ p1.toInt ∧ p1.toInt ≤ 0)) : mPV l D cI cL cZ cR yJ7_fill_53178 cJ7_fill_53178 4 none 0 0 [.ref o0, .int p1] L f (fun (f9 : Nat → va_E) => GI (okc cI cL cZ cR L kd) kd L f9) := by
  obtain ⟨dC, dI⟩ := D
  refine Met.ofW (cc := cJ7_fill_53178) (maxL := 4) (ret := none) (by decide) rfl ?_
  intro p e s m args below meth c s₁ B hml hv
  obtain ⟨rfl, hP, hK, hD0, hN⟩ := hv
  have hx := B.exec
  have hb := B.bytes
  have hr := B.returns
  have hU : ∀ w ∈ wsU, w.before _ s = true := fun w h => atoms_spec (ws := wU yJ7_fill_53178 cJ7_fill_53178 4 none) B.pre w (List.mem_cons_of_mem _ h)
  have hown : s.vm.findClass RJ7 = some m.cls := findClass_of_methodNamed B.named
  have hlocks := B.notSynchronized
  have hD := pl_in hD0
  have hS : va_S (fun q => q ∈ L) s.heap s.heap [] := va_S.rf
  have hl := lv_entry ([.ref o0, .int p1]) (n := 4) (Nat.le_of_ble_eq_true rfl)
  rw [lg_entry_eq]
  generalize (lg_sl ([.ref o0, .int p1]) ++ List.replicate (4 - (lg_sl ([.ref o0, .int p1])).length) Slot.unset).toArray = ls at hl ⊢
  have hl : lv_has ls 4 [(0, .ref o0), (1, .int p1)] := hl
  refine lv_iconst (v := 0) hx hb dJ7_fill_53178_0 (by decide) ?_
  refine lv_istore_n (lv' := [(2, .int 0), (0, .ref o0), (1, .int p1)]) hx hb dJ7_fill_53178_1 rfl hl (by decide) rfl (fun ls hl => ?_)
  refine lv_aload_n hx hb dJ7_fill_53178_2 rfl (lv_at hl 1 rfl) ?_
  obtain ⟨g_2, hfo_1, hbg_2⟩ := un_30 (hG _ mo0) ko0
  refine tk_alenP (v := 81) hx hb hK hP 0 mo0 hfo_1 rfl rfl dJ7_fill_53178_3 ?_
  refine lv_istore_n (lv' := [(3, .int 81), (2, .int 0), (0, .ref o0), (1, .int p1)]) hx hb dJ7_fill_53178_4 rfl hl (by decide) rfl (fun ls hl => ?_)
  have hloop_11 : ∀ (n : Nat), ∀ (y_9 : Int32), (0 ≤ y_9.toInt ∧ y_9.toInt ≤ 81) → ∀ (f_10 : Nat → va_E), GI (okc cI cL cZ cR L kd) kd L f_10 → ∀ (H : Heap) (locs : List Loc), va_P (dC, dI) vwCl (va_pl L f_10) H → va_D (fun q => q ∈ L) (va_pl L f_10) → va_S (fun q => q ∈ L) s.heap H locs → (∀ b, kd b ≠ 30 → f_10 b = f b) → 81 - y_9.toInt < (n : Int) → ∀ (ls : Array Slot), lv_has ls 4 [(3, .int 81), (2, .int y_9), (0, .ref o0), (1, .int p1)] → W p l e (headSpec (wU yJ7_fill_53178 cJ7_fill_53178 4 none) { frames := 0, cells := 0, slots := 0, locals := 0 }).room s m [.ref o0, .int p1].toArray below meth c H locs 0 0 (MQ below (va_Qv (fun (f9 : Nat → va_E) => GI (okc cI cL cZ cR L kd) kd L f9) (qP (dC, dI) cI cL cZ cR L) (fun q => q ∈ L)) [.ref o0, .int p1].toArray s 0 0 (fun q => q ∈ L)) (F0 m 5 ls []) := by
    intro n
    induction n with
    | zero => intro y_9 by_9 f_10 hG H locs hP hD hS hfr_hloop_11 hmuhloop_11 ls hl; exfalso; omega
    | succ n ih_hloop_11 =>
      intro y_9 by_9 f_10 hG H locs hP hD hS hfr_hloop_11 hmuhloop_11 ls hl
      refine lv_iload_n hx hb dJ7_fill_53178_5 rfl (lv_at hl 1 rfl) ?_
      refine lv_iload_n hx hb dJ7_fill_53178_6 rfl (lv_at hl 0 rfl) ?_
      refine lv_icmp_ge (tgt := 20) hx hb dJ7_fill_53178_7 (by decide) (fun c_12 => ?_) (fun c_12 => ?_)
      · skip
        rw [Int32.le_iff_toInt_le, ti_81] at c_12
        exact W.vret hx hb hr (fun t ht hW => ⟨⟨f_10, rfl, hG, by rw [ht]; exact hP, va_K.moved hW.alike hK, pl_in hD⟩, hS.F ht⟩) hS.2.2 dJ7_fill_53178_20
      · skip
        rw [Int32.le_iff_toInt_le, ti_81] at c_12
        refine lv_aload_n hx hb dJ7_fill_53178_10 rfl (lv_at hl 2 rfl) ?_
        refine lv_iload_n hx hb dJ7_fill_53178_11 rfl (lv_at hl 1 rfl) ?_
        refine lv_iload_n hx hb dJ7_fill_53178_12 rfl (lv_at hl 3 rfl) ?_
        obtain ⟨g_14, hfo_13, hbg_14⟩ := un_30 (hG _ mo0) ko0
        refine tk_istP hx hb hK hP hD hS 0 mo0 hfo_13 rfl (vp_in_iff.mpr (by constructor <;> omega)) dJ7_fill_53178_13 (fun H locs hP hD hS => ?_)
        obtain ⟨f_15, ef_15⟩ : ∃ y : Nat → va_E, y = va_up f_10 o0 (.inl (cI, 81, .inl (upd g_14 (Int32.toNatClampNeg y_9) p1))) := ⟨_, rfl⟩
        have hP : va_P (dC, dI) vwCl (va_pl L f_15) H := by rw [ef_15]; exact hP
        have hD : va_D (fun q => q ∈ L) (va_pl L f_15) := by rw [ef_15]; exact hD
        have hG : GI (okc cI cL cZ cR L kd) kd L f_15 := by rw [ef_15]; exact hG.set o0 (mk_30 ko0 ⟨_, rfl, okI_up hbg_14 (by constructor <;> omega) _⟩)
        have hfr_hloop_11 : ∀ b, kd b ≠ 30 → f_15 b = f b := fun b q30 => by rw [ef_15, up_ne (fun e9 => q30 (by rw [e9]; exact ko0))]; exact hfr_hloop_11 b q30
        have hfo_16 : f_15 o0 = .inl (cI, 81, .inl (upd g_14 (Int32.toNatClampNeg y_9) p1)) := by rw [ef_15]; exact up_self
        obtain ⟨x_17, ex_17⟩ : ∃ y : Int32, y_9 + 1 = y := ⟨_, rfl⟩
        have hx_17 : x_17.toInt = y_9.toInt + 1 := by rw [← ex_17, ad_I (by rw [ti_1]; omega) (by rw [ti_1]; omega), ti_1]
        have bx_17 : (1 ≤ x_17.toInt ∧ x_17.toInt ≤ 81) := by constructor <;> omega
        refine lv_iinc (v := x_17) (lv' := [(2, .int x_17), (3, .int 81), (0, .ref o0), (1, .int p1)]) hx hb dJ7_fill_53178_14 hl (k := 1) rfl ex_17 (by decide) rfl (fun ls hl => ?_)
        refine lv_goto (tgt := 5) hx hb dJ7_fill_53178_17 (by decide) ?_
        exact ih_hloop_11 x_17 (by constructor <;> omega) f_15 hG _ _ hP hD hS hfr_hloop_11 (by omega) ls (lv_sub hl [1, 0, 2, 3] rfl)
  exact hloop_11 82 0 (by decide) f hG _ _ hP hD hS (fun _ _ => rfl) (by (try simp only [ti_81, ti_0]); omega) ls hl
set_option maxHeartbeats 8000000 in
set_option maxRecDepth 100000 in
theorem s_J7_fill_53178_k32 (l : Launch) (D : va_G) (cI cL cZ cR : ClassId) (kd : Nat → Nat) (L : List Nat) (f : Nat → va_E) (hG : GI (okc cI cL cZ cR L kd) kd L f) (o0 : Nat) (mo0 : o0 ∈ L) (ko0 : kd o0 = 32) (p1 : Int32) (bp1 : (0 ≤ p1.toInt ∧ p1.toInt ≤ 0)) : mPV l D cI cL cZ cR yJ7_fill_53178 cJ7_fill_53178 4 none 0 0 [.ref o0, .int p1] L f (fun (f9 : Nat → va_E) => GI (okc cI cL cZ cR L kd) kd L f9) := by
  obtain ⟨dC, dI⟩ := D
  refine Met.ofW (cc := cJ7_fill_53178) (maxL := 4) (ret := none) (by decide) rfl ?_
  intro p e s m args below meth c s₁ B hml hv
  obtain ⟨rfl, hP, hK, hD0, hN⟩ := hv
  have hx := B.exec
  have hb := B.bytes
  have hr := B.returns
  have hU : ∀ w ∈ wsU, w.before _ s = true := fun w h => atoms_spec (ws := wU yJ7_fill_53178 cJ7_fill_53178 4 none) B.pre w (List.mem_cons_of_mem _ h)
  have hown : s.vm.findClass RJ7 = some m.cls := findClass_of_methodNamed B.named
  have hlocks := B.notSynchronized
  have hD := pl_in hD0
  have hS : va_S (fun q => q ∈ L) s.heap s.heap [] := va_S.rf
  have hl := lv_entry ([.ref o0, .int p1]) (n := 4) (Nat.le_of_ble_eq_true rfl)
  rw [lg_entry_eq]
  generalize (lg_sl ([.ref o0, .int p1]) ++ List.replicate (4 - (lg_sl ([.ref o0, .int p1])).length) Slot.unset).toArray = ls at hl ⊢
  have hl : lv_has ls 4 [(0, .ref o0), (1, .int p1)] := hl
  refine lv_iconst (v := 0) hx hb dJ7_fill_53178_0 (by decide) ?_
  refine lv_istore_n (lv' := [(2, .int 0), (0, .ref o0), (1, .int p1)]) hx hb dJ7_fill_53178_1 rfl hl (by decide) rfl (fun ls hl => ?_)
  refine lv_aload_n hx hb dJ7_fill_53178_2 rfl (lv_at hl 1 rfl) ?_
  obtain ⟨g_2, hfo_1, hbg_2⟩ := un_32 (hG _ mo0) ko0
  refine tk_alenP (v := 9) hx hb hK hP 0 mo0 hfo_1 rfl rfl dJ7_fill_53178_3 ?_
  refine lv_istore_n (lv' := [(3, .int 9), (2, .int 0), (0, .ref o0), (1, .int p1)]) hx hb dJ7_fill_53178_4 rfl hl (by decide) rfl (fun ls hl => ?_)
  have hloop_11 : ∀ (n : Nat), ∀ (y_9 : Int32), (0 ≤ y_9.toInt ∧ y_9.toInt ≤ 9) → ∀ (f_10 : Nat → va_E), GI (okc cI cL cZ cR L kd) kd L f_10 → ∀ (H : Heap) (locs : List Loc), va_P (dC, dI) vwCl (va_pl L f_10) H → va_D (fun q => q ∈ L) (va_pl L f_10) → va_S (fun q => q ∈ L) s.heap H locs → (∀ b, kd b ≠ 32 → f_10 b = f b) → 9 - y_9.toInt < (n : Int) → ∀ (ls : Array Slot), lv_has ls 4 [(3, .int 9), (2, .int y_9), (0, .ref o0), (1, .int p1)] → W p l e (headSpec (wU yJ7_fill_53178 cJ7_fill_53178 4 none) { frames := 0, cells := 0, slots := 0, locals := 0 }).room s m [.ref o0, .int p1].toArray below meth c H locs 0 0 (MQ below (va_Qv (fun (f9 : Nat → va_E) => GI (okc cI cL cZ cR L kd) kd L f9) (qP (dC, dI) cI cL cZ cR L) (fun q => q ∈ L)) [.ref o0, .int p1].toArray s 0 0 (fun q => q ∈ L)) (F0 m 5 ls []) := by
    intro n
    induction n with
    | zero => intro y_9 by_9 f_10 hG H locs hP hD hS hfr_hloop_11 hmuhloop_11 ls hl; exfalso; omega
    | succ n ih_hloop_11 =>
      intro y_9 by_9 f_10 hG H locs hP hD hS hfr_hloop_11 hmuhloop_11 ls hl
      refine lv_iload_n hx hb dJ7_fill_53178_5 rfl (lv_at hl 1 rfl) ?_
      refine lv_iload_n hx hb dJ7_fill_53178_6 rfl (lv_at hl 0 rfl) ?_
      refine lv_icmp_ge (tgt := 20) hx hb dJ7_fill_53178_7 (by decide) (fun c_12 => ?_) (fun c_12 => ?_)
      · skip
        rw [Int32.le_iff_toInt_le, ti_9] at c_12
        exact W.vret hx hb hr (fun t ht hW => ⟨⟨f_10, rfl, hG, by rw [ht]; exact hP, va_K.moved hW.alike hK, pl_in hD⟩, hS.F ht⟩) hS.2.2 dJ7_fill_53178_20
      · skip
        rw [Int32.le_iff_toInt_le, ti_9] at c_12
        refine lv_aload_n hx hb dJ7_fill_53178_10 rfl (lv_at hl 2 rfl) ?_
        refine lv_iload_n hx hb dJ7_fill_53178_11 rfl (lv_at hl 1 rfl) ?_
        refine lv_iload_n hx hb dJ7_fill_53178_12 rfl (lv_at hl 3 rfl) ?_
        obtain ⟨g_14, hfo_13, hbg_14⟩ := un_32 (hG _ mo0) ko0
        refine tk_istP hx hb hK hP hD hS 0 mo0 hfo_13 rfl (vp_in_iff.mpr (by constructor <;> omega)) dJ7_fill_53178_13 (fun H locs hP hD hS => ?_)
        obtain ⟨f_15, ef_15⟩ : ∃ y : Nat → va_E, y = va_up f_10 o0 (.inl (cI, 9, .inl (upd g_14 (Int32.toNatClampNeg y_9) p1))) := ⟨_, rfl⟩
        have hP : va_P (dC, dI) vwCl (va_pl L f_15) H := by rw [ef_15]; exact hP
        have hD : va_D (fun q => q ∈ L) (va_pl L f_15) := by rw [ef_15]; exact hD
        have hG : GI (okc cI cL cZ cR L kd) kd L f_15 := by rw [ef_15]; exact hG.set o0 (mk_32 ko0 ⟨_, rfl, okI_up hbg_14 (by constructor <;> omega) _⟩)
        have hfr_hloop_11 : ∀ b, kd b ≠ 32 → f_15 b = f b := fun b q32 => by rw [ef_15, up_ne (fun e9 => q32 (by rw [e9]; exact ko0))]; exact hfr_hloop_11 b q32
        have hfo_16 : f_15 o0 = .inl (cI, 9, .inl (upd g_14 (Int32.toNatClampNeg y_9) p1)) := by rw [ef_15]; exact up_self
        obtain ⟨x_17, ex_17⟩ : ∃ y : Int32, y_9 + 1 = y := ⟨_, rfl⟩
        have hx_17 : x_17.toInt = y_9.toInt + 1 := by rw [← ex_17, ad_I (by rw [ti_1]; omega) (by rw [ti_1]; omega), ti_1]
        have bx_17 : (1 ≤ x_17.toInt ∧ x_17.toInt ≤ 9) := by constructor <;> omega
        refine lv_iinc (v := x_17) (lv' := [(2, .int x_17), (3, .int 9), (0, .ref o0), (1, .int p1)]) hx hb dJ7_fill_53178_14 hl (k := 1) rfl ex_17 (by decide) rfl (fun ls hl => ?_)
        refine lv_goto (tgt := 5) hx hb dJ7_fill_53178_17 (by decide) ?_
        exact ih_hloop_11 x_17 (by constructor <;> omega) f_15 hG _ _ hP hD hS hfr_hloop_11 (by omega) ls (lv_sub hl [1, 0, 2, 3] rfl)
  exact hloop_11 10 0 (by decide) f hG _ _ hP hD hS (fun _ _ => rfl) (by (try simp only [ti_9, ti_0]); omega) ls hl
set_option maxHeartbeats 8000000 in
set_option maxRecDepth 100000 in
theorem s_J7_fill_53178_k33 (l : Launch) (D : va_G) (cI cL cZ cR : ClassId) (kd : Nat → Nat) (L : List Nat) (f : Nat → va_E) (hG : GI (okc cI cL cZ cR L kd) kd L f) (o0 : Nat) (mo0 : o0 ∈ L) (ko0 : kd o0 = 33) (p1 : Int32) (bp1 : (0 ≤ p1.toInt ∧ p1.toInt ≤ 0)) : mPV l D cI cL cZ cR yJ7_fill_53178 cJ7_fill_53178 4 none 0 0 [.ref o0, .int p1] L f (fun (f9 : Nat → va_E) => GI (okc cI cL cZ cR L kd) kd L f9) := by
  obtain ⟨dC, dI⟩ := D
  refine Met.ofW (cc := cJ7_fill_53178) (maxL := 4) (ret := none) (by decide) rfl ?_
  intro p e s m args below meth c s₁ B hml hv
  obtain ⟨rfl, hP, hK, hD0, hN⟩ := hv
  have hx := B.exec
  have hb := B.bytes
  have hr := B.returns
  have hU : ∀ w ∈ wsU, w.before _ s = true := fun w h => atoms_spec (ws := wU yJ7_fill_53178 cJ7_fill_53178 4 none) B.pre w (List.mem_cons_of_mem _ h)
  have hown : s.vm.findClass RJ7 = some m.cls := findClass_of_methodNamed B.named
  have hlocks := B.notSynchronized
  have hD := pl_in hD0
  have hS : va_S (fun q => q ∈ L) s.heap s.heap [] := va_S.rf
  have hl := lv_entry ([.ref o0, .int p1]) (n := 4) (Nat.le_of_ble_eq_true rfl)
  rw [lg_entry_eq]
  generalize (lg_sl ([.ref o0, .int p1]) ++ List.replicate (4 - (lg_sl ([.ref o0, .int p1])).length) Slot.unset).toArray = ls at hl ⊢
  have hl : lv_has ls 4 [(0, .ref o0), (1, .int p1)] := hl
  refine lv_iconst (v := 0) hx hb dJ7_fill_53178_0 (by decide) ?_
  refine lv_istore_n (lv' := [(2, .int 0), (0, .ref o0), (1, .int p1)]) hx hb dJ7_fill_53178_1 rfl hl (by decide) rfl (fun ls hl => ?_)
  refine lv_aload_n hx hb dJ7_fill_53178_2 rfl (lv_at hl 1 rfl) ?_
  obtain ⟨g_2, hfo_1, hbg_2⟩ := un_33 (hG _ mo0) ko0
  refine tk_alenP (v := 9) hx hb hK hP 0 mo0 hfo_1 rfl rfl dJ7_fill_53178_3 ?_
  refine lv_istore_n (lv' := [(3, .int 9), (2, .int 0), (0, .ref o0), (1, .int p1)]) hx hb dJ7_fill_53178_4 rfl hl (by decide) rfl (fun ls hl => ?_)
  have hloop_11 : ∀ (n : Nat), ∀ (y_9 : Int32), (0 ≤ y_9.toInt ∧ y_9.toInt ≤ 9) → ∀ (f_10 : Nat → va_E), GI (okc cI cL cZ cR L kd) kd L f_10 → ∀ (H : Heap) (locs : List Loc), va_P (dC, dI) vwCl (va_pl L f_10) H → va_D (fun q => q ∈ L) (va_pl L f_10) → va_S (fun q => q ∈ L) s.heap H locs → (∀ b, kd b ≠ 33 → f_10 b = f b) → 9 - y_9.toInt < (n : Int) → ∀ (ls : Array Slot), lv_has ls 4 [(3, .int 9), (2, .int y_9), (0, .ref o0), (1, .int p1)] → W p l e (headSpec (wU yJ7_fill_53178 cJ7_fill_53178 4 none) { frames := 0, cells := 0, slots := 0, locals := 0 }).room s m [.ref o0, .int p1].toArray below meth c H locs 0 0 (MQ below (va_Qv (fun (f9 : Nat → va_E) => GI (okc cI cL cZ cR L kd) kd L f9) (qP (dC, dI) cI cL cZ cR L) (fun q => q ∈ L)) [.ref o0, .int p1].toArray s 0 0 (fun q => q ∈ L)) (F0 m 5 ls []) := by
    intro n
    induction n with
    | zero => intro y_9 by_9 f_10 hG H locs hP hD hS hfr_hloop_11 hmuhloop_11 ls hl; exfalso; omega
    | succ n ih_hloop_11 =>
      intro y_9 by_9 f_10 hG H locs hP hD hS hfr_hloop_11 hmuhloop_11 ls hl
      refine lv_iload_n hx hb dJ7_fill_53178_5 rfl (lv_at hl 1 rfl) ?_
      refine lv_iload_n hx hb dJ7_fill_53178_6 rfl (lv_at hl 0 rfl) ?_
      refine lv_icmp_ge (tgt := 20) hx hb dJ7_fill_53178_7 (by decide) (fun c_12 => ?_) (fun c_12 => ?_)
      · skip
        rw [Int32.le_iff_toInt_le, ti_9] at c_12
        exact W.vret hx hb hr (fun t ht hW => ⟨⟨f_10, rfl, hG, by rw [ht]; exact hP, va_K.moved hW.alike hK, pl_in hD⟩, hS.F ht⟩) hS.2.2 dJ7_fill_53178_20
      · skip
        rw [Int32.le_iff_toInt_le, ti_9] at c_12
        refine lv_aload_n hx hb dJ7_fill_53178_10 rfl (lv_at hl 2 rfl) ?_
        refine lv_iload_n hx hb dJ7_fill_53178_11 rfl (lv_at hl 1 rfl) ?_
        refine lv_iload_n hx hb dJ7_fill_53178_12 rfl (lv_at hl 3 rfl) ?_
        obtain ⟨g_14, hfo_13, hbg_14⟩ := un_33 (hG _ mo0) ko0
        refine tk_istP hx hb hK hP hD hS 0 mo0 hfo_13 rfl (vp_in_iff.mpr (by constructor <;> omega)) dJ7_fill_53178_13 (fun H locs hP hD hS => ?_)
        obtain ⟨f_15, ef_15⟩ : ∃ y : Nat → va_E, y = va_up f_10 o0 (.inl (cI, 9, .inl (upd g_14 (Int32.toNatClampNeg y_9) p1))) := ⟨_, rfl⟩
        have hP : va_P (dC, dI) vwCl (va_pl L f_15) H := by rw [ef_15]; exact hP
        have hD : va_D (fun q => q ∈ L) (va_pl L f_15) := by rw [ef_15]; exact hD
        have hG : GI (okc cI cL cZ cR L kd) kd L f_15 := by rw [ef_15]; exact hG.set o0 (mk_33 ko0 ⟨_, rfl, okI_up hbg_14 (by constructor <;> omega) _⟩)
        have hfr_hloop_11 : ∀ b, kd b ≠ 33 → f_15 b = f b := fun b q33 => by rw [ef_15, up_ne (fun e9 => q33 (by rw [e9]; exact ko0))]; exact hfr_hloop_11 b q33
        have hfo_16 : f_15 o0 = .inl (cI, 9, .inl (upd g_14 (Int32.toNatClampNeg y_9) p1)) := by rw [ef_15]; exact up_self
        obtain ⟨x_17, ex_17⟩ : ∃ y : Int32, y_9 + 1 = y := ⟨_, rfl⟩
        have hx_17 : x_17.toInt = y_9.toInt + 1 := by rw [← ex_17, ad_I (by rw [ti_1]; omega) (by rw [ti_1]; omega), ti_1]
        have bx_17 : (1 ≤ x_17.toInt ∧ x_17.toInt ≤ 9) := by constructor <;> omega
        refine lv_iinc (v := x_17) (lv' := [(2, .int x_17), (3, .int 9), (0, .ref o0), (1, .int p1)]) hx hb dJ7_fill_53178_14 hl (k := 1) rfl ex_17 (by decide) rfl (fun ls hl => ?_)
        refine lv_goto (tgt := 5) hx hb dJ7_fill_53178_17 (by decide) ?_
        exact ih_hloop_11 x_17 (by constructor <;> omega) f_15 hG _ _ hP hD hS hfr_hloop_11 (by omega) ls (lv_sub hl [1, 0, 2, 3] rfl)
  exact hloop_11 10 0 (by decide) f hG _ _ hP hD hS (fun _ _ => rfl) (by (try simp only [ti_9, ti_0]); omega) ls hl
set_option maxHeartbeats 8000000 in
set_option maxRecDepth 100000 in
theorem s_J7_fill_53178_k34 (l : Launch) (D : va_G) (cI cL cZ cR : ClassId) (kd : Nat → Nat) (L : List Nat) (f : Nat → va_E) (hG : GI (okc cI cL cZ cR L kd) kd L f) (o0 : Nat) (mo0 : o0 ∈ L) (ko0 : kd o0 = 34) (p1 : Int32) (bp1 : (0 ≤ p1.toInt ∧ p1.toInt ≤ 0)) : mPV l D cI cL cZ cR yJ7_fill_53178 cJ7_fill_53178 4 none 0 0 [.ref o0, .int p1] L f (fun (f9 : Nat → va_E) => GI (okc cI cL cZ cR L kd) kd L f9) := by
  obtain ⟨dC, dI⟩ := D
  refine Met.ofW (cc := cJ7_fill_53178) (maxL := 4) (ret := none) (by decide) rfl ?_
  intro p e s m args below meth c s₁ B hml hv
  obtain ⟨rfl, hP, hK, hD0, hN⟩ := hv
  have hx := B.exec
  have hb := B.bytes
  have hr := B.returns
  have hU : ∀ w ∈ wsU, w.before _ s = true := fun w h => atoms_spec (ws := wU yJ7_fill_53178 cJ7_fill_53178 4 none) B.pre w (List.mem_cons_of_mem _ h)
  have hown : s.vm.findClass RJ7 = some m.cls := findClass_of_methodNamed B.named
  have hlocks := B.notSynchronized
  have hD := pl_in hD0
  have hS : va_S (fun q => q ∈ L) s.heap s.heap [] := va_S.rf
  have hl := lv_entry ([.ref o0, .int p1]) (n := 4) (Nat.le_of_ble_eq_true rfl)
  rw [lg_entry_eq]
  generalize (lg_sl ([.ref o0, .int p1]) ++ List.replicate (4 - (lg_sl ([.ref o0, .int p1])).length) Slot.unset).toArray = ls at hl ⊢
  have hl : lv_has ls 4 [(0, .ref o0), (1, .int p1)] := hl
  refine lv_iconst (v := 0) hx hb dJ7_fill_53178_0 (by decide) ?_
  refine lv_istore_n (lv' := [(2, .int 0), (0, .ref o0), (1, .int p1)]) hx hb dJ7_fill_53178_1 rfl hl (by decide) rfl (fun ls hl => ?_)
  refine lv_aload_n hx hb dJ7_fill_53178_2 rfl (lv_at hl 1 rfl) ?_
  obtain ⟨g_2, hfo_1, hbg_2⟩ := un_34 (hG _ mo0) ko0
  refine tk_alenP (v := 36) hx hb hK hP 0 mo0 hfo_1 rfl rfl dJ7_fill_53178_3 ?_
  refine lv_istore_n (lv' := [(3, .int 36), (2, .int 0), (0, .ref o0), (1, .int p1)]) hx hb dJ7_fill_53178_4 rfl hl (by decide) rfl (fun ls hl => ?_)
  have hloop_11 : ∀ (n : Nat), ∀ (y_9 : Int32), (0 ≤ y_9.toInt ∧ y_9.toInt ≤ 36) → ∀ (f_10 : Nat → va_E), GI (okc cI cL cZ cR L kd) kd L f_10 → ∀ (H : Heap) (locs : List Loc), va_P (dC, dI) vwCl (va_pl L f_10) H → va_D (fun q => q ∈ L) (va_pl L f_10) → va_S (fun q => q ∈ L) s.heap H locs → (∀ b, kd b ≠ 34 → f_10 b = f b) → 36 - y_9.toInt < (n : Int) → ∀ (ls : Array Slot), lv_has ls 4 [(3, .int 36), (2, .int y_9), (0, .ref o0), (1, .int p1)] → W p l e (headSpec (wU yJ7_fill_53178 cJ7_fill_53178 4 none) { frames := 0, cells := 0, slots := 0, locals := 0 }).room s m [.ref o0, .int p1].toArray below meth c H locs 0 0 (MQ below (va_Qv (fun (f9 : Nat → va_E) => GI (okc cI cL cZ cR L kd) kd L f9) (qP (dC, dI) cI cL cZ cR L) (fun q => q ∈ L)) [.ref o0, .int p1].toArray s 0 0 (fun q => q ∈ L)) (F0 m 5 ls []) := by
    intro n
    induction n with
    | zero => intro y_9 by_9 f_10 hG H locs hP hD hS hfr_hloop_11 hmuhloop_11 ls hl; exfalso; omega
    | succ n ih_hloop_11 =>
      intro y_9 by_9 f_10 hG H locs hP hD hS hfr_hloop_11 hmuhloop_11 ls hl
      refine lv_iload_n hx hb dJ7_fill_53178_5 rfl (lv_at hl 1 rfl) ?_
      refine lv_iload_n hx hb dJ7_fill_53178_6 rfl (lv_at hl 0 rfl) ?_
      refine lv_icmp_ge (tgt := 20) hx hb dJ7_fill_53178_7 (by decide) (fun c_12 => ?_) (fun c_12 => ?_)
      · skip
        rw [Int32.le_iff_toInt_le, ti_36] at c_12
        exact W.vret hx hb hr (fun t ht hW => ⟨⟨f_10, rfl, hG, by rw [ht]; exact hP, va_K.moved hW.alike hK, pl_in hD⟩, hS.F ht⟩) hS.2.2 dJ7_fill_53178_20
      · skip
        rw [Int32.le_iff_toInt_le, ti_36] at c_12
        refine lv_aload_n hx hb dJ7_fill_53178_10 rfl (lv_at hl 2 rfl) ?_
        refine lv_iload_n hx hb dJ7_fill_53178_11 rfl (lv_at hl 1 rfl) ?_
        refine lv_iload_n hx hb dJ7_fill_53178_12 rfl (lv_at hl 3 rfl) ?_
        obtain ⟨g_14, hfo_13, hbg_14⟩ := un_34 (hG _ mo0) ko0
        refine tk_istP hx hb hK hP hD hS 0 mo0 hfo_13 rfl (vp_in_iff.mpr (by constructor <;> omega)) dJ7_fill_53178_13 (fun H locs hP hD hS => ?_)
        obtain ⟨f_15, ef_15⟩ : ∃ y : Nat → va_E, y = va_up f_10 o0 (.inl (cI, 36, .inl (upd g_14 (Int32.toNatClampNeg y_9) p1))) := ⟨_, rfl⟩
        have hP : va_P (dC, dI) vwCl (va_pl L f_15) H := by rw [ef_15]; exact hP
        have hD : va_D (fun q => q ∈ L) (va_pl L f_15) := by rw [ef_15]; exact hD
        have hG : GI (okc cI cL cZ cR L kd) kd L f_15 := by rw [ef_15]; exact hG.set o0 (mk_34 ko0 ⟨_, rfl, okI_up hbg_14 (by constructor <;> omega) _⟩)
        have hfr_hloop_11 : ∀ b, kd b ≠ 34 → f_15 b = f b := fun b q34 => by rw [ef_15, up_ne (fun e9 => q34 (by rw [e9]; exact ko0))]; exact hfr_hloop_11 b q34
        have hfo_16 : f_15 o0 = .inl (cI, 36, .inl (upd g_14 (Int32.toNatClampNeg y_9) p1)) := by rw [ef_15]; exact up_self
        obtain ⟨x_17, ex_17⟩ : ∃ y : Int32, y_9 + 1 = y := ⟨_, rfl⟩
        have hx_17 : x_17.toInt = y_9.toInt + 1 := by rw [← ex_17, ad_I (by rw [ti_1]; omega) (by rw [ti_1]; omega), ti_1]
        have bx_17 : (1 ≤ x_17.toInt ∧ x_17.toInt ≤ 36) := by constructor <;> omega
        refine lv_iinc (v := x_17) (lv' := [(2, .int x_17), (3, .int 36), (0, .ref o0), (1, .int p1)]) hx hb dJ7_fill_53178_14 hl (k := 1) rfl ex_17 (by decide) rfl (fun ls hl => ?_)
        refine lv_goto (tgt := 5) hx hb dJ7_fill_53178_17 (by decide) ?_
        exact ih_hloop_11 x_17 (by constructor <;> omega) f_15 hG _ _ hP hD hS hfr_hloop_11 (by omega) ls (lv_sub hl [1, 0, 2, 3] rfl)
  exact hloop_11 37 0 (by decide) f hG _ _ hP hD hS (fun _ _ => rfl) (by (try simp only [ti_36, ti_0]); omega) ls hl
set_option maxHeartbeats 8000000 in
set_option maxRecDepth 100000 in
theorem s_J7_fill_53178_k41 (l : Launch) (D : va_G) (cI cL cZ cR : ClassId) (kd : Nat → Nat) (L : List Nat) (f : Nat → va_E) (hG : GI (okc cI cL cZ cR L kd) kd L f) (o0 : Nat) (mo0 : o0 ∈ L) (ko0 : kd o0 = 41) (p1 : Int32) (bp1 : (0 ≤ p1.toInt ∧ p1.toInt ≤ 0)) : mPV l D cI cL cZ cR yJ7_fill_53178 cJ7_fill_53178 4 none 0 0 [.ref o0, .int p1] L f (fun (f9 : Nat → va_E) => GI (okc cI cL cZ cR L kd) kd L f9) := by
  obtain ⟨dC, dI⟩ := D
  refine Met.ofW (cc := cJ7_fill_53178) (maxL := 4) (ret := none) (by decide) rfl ?_
  intro p e s m args below meth c s₁ B hml hv
  obtain ⟨rfl, hP, hK, hD0, hN⟩ := hv
  have hx := B.exec
  have hb := B.bytes
  have hr := B.returns
  have hU : ∀ w ∈ wsU, w.before _ s = true := fun w h => atoms_spec (ws := wU yJ7_fill_53178 cJ7_fill_53178 4 none) B.pre w (List.mem_cons_of_mem _ h)
  have hown : s.vm.findClass RJ7 = some m.cls := findClass_of_methodNamed B.named
  have hlocks := B.notSynchronized
  have hD := pl_in hD0
  have hS : va_S (fun q => q ∈ L) s.heap s.heap [] := va_S.rf
  have hl := lv_entry ([.ref o0, .int p1]) (n := 4) (Nat.le_of_ble_eq_true rfl)
  rw [lg_entry_eq]
  generalize (lg_sl ([.ref o0, .int p1]) ++ List.replicate (4 - (lg_sl ([.ref o0, .int p1])).length) Slot.unset).toArray = ls at hl ⊢
  have hl : lv_has ls 4 [(0, .ref o0), (1, .int p1)] := hl
  refine lv_iconst (v := 0) hx hb dJ7_fill_53178_0 (by decide) ?_
  refine lv_istore_n (lv' := [(2, .int 0), (0, .ref o0), (1, .int p1)]) hx hb dJ7_fill_53178_1 rfl hl (by decide) rfl (fun ls hl => ?_)
  refine lv_aload_n hx hb dJ7_fill_53178_2 rfl (lv_at hl 1 rfl) ?_
  obtain ⟨g_2, hfo_1, hbg_2⟩ := un_41 (hG _ mo0) ko0
  refine tk_alenP (v := 4096) hx hb hK hP 0 mo0 hfo_1 rfl rfl dJ7_fill_53178_3 ?_
  refine lv_istore_n (lv' := [(3, .int 4096), (2, .int 0), (0, .ref o0), (1, .int p1)]) hx hb dJ7_fill_53178_4 rfl hl (by decide) rfl (fun ls hl => ?_)
  have hloop_11 : ∀ (n : Nat), ∀ (y_9 : Int32), (0 ≤ y_9.toInt ∧ y_9.toInt ≤ 4096) → ∀ (f_10 : Nat → va_E), GI (okc cI cL cZ cR L kd) kd L f_10 → ∀ (H : Heap) (locs : List Loc), va_P (dC, dI) vwCl (va_pl L f_10) H → va_D (fun q => q ∈ L) (va_pl L f_10) → va_S (fun q => q ∈ L) s.heap H locs → (∀ b, kd b ≠ 41 → f_10 b = f b) → 4096 - y_9.toInt < (n : Int) → ∀ (ls : Array Slot), lv_has ls 4 [(3, .int 4096), (2, .int y_9), (0, .ref o0), (1, .int p1)] → W p l e (headSpec (wU yJ7_fill_53178 cJ7_fill_53178 4 none) { frames := 0, cells := 0, slots := 0, locals := 0 }).room s m [.ref o0, .int p1].toArray below meth c H locs 0 0 (MQ below (va_Qv (fun (f9 : Nat → va_E) => GI (okc cI cL cZ cR L kd) kd L f9) (qP (dC, dI) cI cL cZ cR L) (fun q => q ∈ L)) [.ref o0, .int p1].toArray s 0 0 (fun q => q ∈ L)) (F0 m 5 ls []) := by
    intro n
    induction n with
    | zero => intro y_9 by_9 f_10 hG H locs hP hD hS hfr_hloop_11 hmuhloop_11 ls hl; exfalso; omega
    | succ n ih_hloop_11 =>
      intro y_9 by_9 f_10 hG H locs hP hD hS hfr_hloop_11 hmuhloop_11 ls hl
      refine lv_iload_n hx hb dJ7_fill_53178_5 rfl (lv_at hl 1 rfl) ?_
      refine lv_iload_n hx hb dJ7_fill_53178_6 rfl (lv_at hl 0 rfl) ?_
      refine lv_icmp_ge (tgt := 20) hx hb dJ7_fill_53178_7 (by decide) (fun c_12 => ?_) (fun c_12 => ?_)
      · skip
        rw [Int32.le_iff_toInt_le, ti_4096] at c_12
        exact W.vret hx hb hr (fun t ht hW => ⟨⟨f_10, rfl, hG, by rw [ht]; exact hP, va_K.moved hW.alike hK, pl_in hD⟩, hS.F ht⟩) hS.2.2 dJ7_fill_53178_20
      · skip
        rw [Int32.le_iff_toInt_le, ti_4096] at c_12
        refine lv_aload_n hx hb dJ7_fill_53178_10 rfl (lv_at hl 2 rfl) ?_
        refine lv_iload_n hx hb dJ7_fill_53178_11 rfl (lv_at hl 1 rfl) ?_
        refine lv_iload_n hx hb dJ7_fill_53178_12 rfl (lv_at hl 3 rfl) ?_
        obtain ⟨g_14, hfo_13, hbg_14⟩ := un_41 (hG _ mo0) ko0
        refine tk_istP hx hb hK hP hD hS 0 mo0 hfo_13 rfl (vp_in_iff.mpr (by constructor <;> omega)) dJ7_fill_53178_13 (fun H locs hP hD hS => ?_)
        obtain ⟨f_15, ef_15⟩ : ∃ y : Nat → va_E, y = va_up f_10 o0 (.inl (cI, 4096, .inl (upd g_14 (Int32.toNatClampNeg y_9) p1))) := ⟨_, rfl⟩
        have hP : va_P (dC, dI) vwCl (va_pl L f_15) H := by rw [ef_15]; exact hP
        have hD : va_D (fun q => q ∈ L) (va_pl L f_15) := by rw [ef_15]; exact hD
        have hG : GI (okc cI cL cZ cR L kd) kd L f_15 := by rw [ef_15]; exact hG.set o0 (mk_41 ko0 ⟨_, rfl, okI_up hbg_14 (by constructor <;> omega) _⟩)
        have hfr_hloop_11 : ∀ b, kd b ≠ 41 → f_15 b = f b := fun b q41 => by rw [ef_15, up_ne (fun e9 => q41 (by rw [e9]; exact ko0))]; exact hfr_hloop_11 b q41
        have hfo_16 : f_15 o0 = .inl (cI, 4096, .inl (upd g_14 (Int32.toNatClampNeg y_9) p1)) := by rw [ef_15]; exact up_self
        obtain ⟨x_17, ex_17⟩ : ∃ y : Int32, y_9 + 1 = y := ⟨_, rfl⟩
        have hx_17 : x_17.toInt = y_9.toInt + 1 := by rw [← ex_17, ad_I (by rw [ti_1]; omega) (by rw [ti_1]; omega), ti_1]
        have bx_17 : (1 ≤ x_17.toInt ∧ x_17.toInt ≤ 4096) := by constructor <;> omega
        refine lv_iinc (v := x_17) (lv' := [(2, .int x_17), (3, .int 4096), (0, .ref o0), (1, .int p1)]) hx hb dJ7_fill_53178_14 hl (k := 1) rfl ex_17 (by decide) rfl (fun ls hl => ?_)
        refine lv_goto (tgt := 5) hx hb dJ7_fill_53178_17 (by decide) ?_
        exact ih_hloop_11 x_17 (by constructor <;> omega) f_15 hG _ _ hP hD hS hfr_hloop_11 (by omega) ls (lv_sub hl [1, 0, 2, 3] rfl)
  exact hloop_11 4097 0 (by decide) f hG _ _ hP hD hS (fun _ _ => rfl) (by (try simp only [ti_4096, ti_0]); omega) ls hl
set_option maxHeartbeats 8000000 in
set_option maxRecDepth 100000 in
theorem s_J7_fill_53178_k49 (l : Launch) (D : va_G) (cI cL cZ cR : ClassId) (kd : Nat → Nat) (L : List Nat) (f : Nat → va_E) (hG : GI (okc cI cL cZ cR L kd) kd L f) (o0 : Nat) (mo0 : o0 ∈ L) (ko0 : kd o0 = 49) (p1 : Int32) (bp1 : (0 ≤ p1.toInt ∧ p1.toInt ≤ 0)) : mPV l D cI cL cZ cR yJ7_fill_53178 cJ7_fill_53178 4 none 0 0 [.ref o0, .int p1] L f (fun (f9 : Nat → va_E) => GI (okc cI cL cZ cR L kd) kd L f9) := by
  obtain ⟨dC, dI⟩ := D
  refine Met.ofW (cc := cJ7_fill_53178) (maxL := 4) (ret := none) (by decide) rfl ?_
  intro p e s m args below meth c s₁ B hml hv
  obtain ⟨rfl, hP, hK, hD0, hN⟩ := hv
  have hx := B.exec
  have hb := B.bytes
  have hr := B.returns
  have hU : ∀ w ∈ wsU, w.before _ s = true := fun w h => atoms_spec (ws := wU yJ7_fill_53178 cJ7_fill_53178 4 none) B.pre w (List.mem_cons_of_mem _ h)
  have hown : s.vm.findClass RJ7 = some m.cls := findClass_of_methodNamed B.named
  have hlocks := B.notSynchronized
  have hD := pl_in hD0
  have hS : va_S (fun q => q ∈ L) s.heap s.heap [] := va_S.rf
  have hl := lv_entry ([.ref o0, .int p1]) (n := 4) (Nat.le_of_ble_eq_true rfl)
  rw [lg_entry_eq]
  generalize (lg_sl ([.ref o0, .int p1]) ++ List.replicate (4 - (lg_sl ([.ref o0, .int p1])).length) Slot.unset).toArray = ls at hl ⊢
  have hl : lv_has ls 4 [(0, .ref o0), (1, .int p1)] := hl
  refine lv_iconst (v := 0) hx hb dJ7_fill_53178_0 (by decide) ?_
  refine lv_istore_n (lv' := [(2, .int 0), (0, .ref o0), (1, .int p1)]) hx hb dJ7_fill_53178_1 rfl hl (by decide) rfl (fun ls hl => ?_)
  refine lv_aload_n hx hb dJ7_fill_53178_2 rfl (lv_at hl 1 rfl) ?_
  obtain ⟨g_2, hfo_1, hbg_2⟩ := un_49 (hG _ mo0) ko0
  refine tk_alenP (v := 256) hx hb hK hP 0 mo0 hfo_1 rfl rfl dJ7_fill_53178_3 ?_
  refine lv_istore_n (lv' := [(3, .int 256), (2, .int 0), (0, .ref o0), (1, .int p1)]) hx hb dJ7_fill_53178_4 rfl hl (by decide) rfl (fun ls hl => ?_)
  have hloop_11 : ∀ (n : Nat), ∀ (y_9 : Int32), (0 ≤ y_9.toInt ∧ y_9.toInt ≤ 256) → ∀ (f_10 : Nat → va_E), GI (okc cI cL cZ cR L kd) kd L f_10 → ∀ (H : Heap) (locs : List Loc), va_P (dC, dI) vwCl (va_pl L f_10) H → va_D (fun q => q ∈ L) (va_pl L f_10) → va_S (fun q => q ∈ L) s.heap H locs → (∀ b, kd b ≠ 49 → f_10 b = f b) → 256 - y_9.toInt < (n : Int) → ∀ (ls : Array Slot), lv_has ls 4 [(3, .int 256), (2, .int y_9), (0, .ref o0), (1, .int p1)] → W p l e (headSpec (wU yJ7_fill_53178 cJ7_fill_53178 4 none) { frames := 0, cells := 0, slots := 0, locals := 0 }).room s m [.ref o0, .int p1].toArray below meth c H locs 0 0 (MQ below (va_Qv (fun (f9 : Nat → va_E) => GI (okc cI cL cZ cR L kd) kd L f9) (qP (dC, dI) cI cL cZ cR L) (fun q => q ∈ L)) [.ref o0, .int p1].toArray s 0 0 (fun q => q ∈ L)) (F0 m 5 ls []) := by
    intro n
    induction n with
    | zero => intro y_9 by_9 f_10 hG H locs hP hD hS hfr_hloop_11 hmuhloop_11 ls hl; exfalso; omega
    | succ n ih_hloop_11 =>
      intro y_9 by_9 f_10 hG H locs hP hD hS hfr_hloop_11 hmuhloop_11 ls hl
      refine lv_iload_n hx hb dJ7_fill_53178_5 rfl (lv_at hl 1 rfl) ?_
      refine lv_iload_n hx hb dJ7_fill_53178_6 rfl (lv_at hl 0 rfl) ?_
      refine lv_icmp_ge (tgt := 20) hx hb dJ7_fill_53178_7 (by decide) (fun c_12 => ?_) (fun c_12 => ?_)
      · skip
        rw [Int32.le_iff_toInt_le, ti_256] at c_12
        exact W.vret hx hb hr (fun t ht hW => ⟨⟨f_10, rfl, hG, by rw [ht]; exact hP, va_K.moved hW.alike hK, pl_in hD⟩, hS.F ht⟩) hS.2.2 dJ7_fill_53178_20
      · skip
        rw [Int32.le_iff_toInt_le, ti_256] at c_12
        refine lv_aload_n hx hb dJ7_fill_53178_10 rfl (lv_at hl 2 rfl) ?_
        refine lv_iload_n hx hb dJ7_fill_53178_11 rfl (lv_at hl 1 rfl) ?_
        refine lv_iload_n hx hb dJ7_fill_53178_12 rfl (lv_at hl 3 rfl) ?_
        obtain ⟨g_14, hfo_13, hbg_14⟩ := un_49 (hG _ mo0) ko0
        refine tk_istP hx hb hK hP hD hS 0 mo0 hfo_13 rfl (vp_in_iff.mpr (by constructor <;> omega)) dJ7_fill_53178_13 (fun H locs hP hD hS => ?_)
        obtain ⟨f_15, ef_15⟩ : ∃ y : Nat → va_E, y = va_up f_10 o0 (.inl (cI, 256, .inl (upd g_14 (Int32.toNatClampNeg y_9) p1))) := ⟨_, rfl⟩
        have hP : va_P (dC, dI) vwCl (va_pl L f_15) H := by rw [ef_15]; exact hP
        have hD : va_D (fun q => q ∈ L) (va_pl L f_15) := by rw [ef_15]; exact hD
        have hG : GI (okc cI cL cZ cR L kd) kd L f_15 := by rw [ef_15]; exact hG.set o0 (mk_49 ko0 ⟨_, rfl, okI_up hbg_14 ⟨i32_lo _, i32_hi _⟩ _⟩)
        have hfr_hloop_11 : ∀ b, kd b ≠ 49 → f_15 b = f b := fun b q49 => by rw [ef_15, up_ne (fun e9 => q49 (by rw [e9]; exact ko0))]; exact hfr_hloop_11 b q49
        have hfo_16 : f_15 o0 = .inl (cI, 256, .inl (upd g_14 (Int32.toNatClampNeg y_9) p1)) := by rw [ef_15]; exact up_self
        obtain ⟨x_17, ex_17⟩ : ∃ y : Int32, y_9 + 1 = y := ⟨_, rfl⟩
        have hx_17 : x_17.toInt = y_9.toInt + 1 := by rw [← ex_17, ad_I (by rw [ti_1]; omega) (by rw [ti_1]; omega), ti_1]
        have bx_17 : (1 ≤ x_17.toInt ∧ x_17.toInt ≤ 256) := by constructor <;> omega
        refine lv_iinc (v := x_17) (lv' := [(2, .int x_17), (3, .int 256), (0, .ref o0), (1, .int p1)]) hx hb dJ7_fill_53178_14 hl (k := 1) rfl ex_17 (by decide) rfl (fun ls hl => ?_)
        refine lv_goto (tgt := 5) hx hb dJ7_fill_53178_17 (by decide) ?_
        exact ih_hloop_11 x_17 (by constructor <;> omega) f_15 hG _ _ hP hD hS hfr_hloop_11 (by omega) ls (lv_sub hl [1, 0, 2, 3] rfl)
  exact hloop_11 257 0 (by decide) f hG _ _ hP hD hS (fun _ _ => rfl) (by (try simp only [ti_256, ti_0]); omega) ls hl
set_option maxHeartbeats 8000000 in
set_option maxRecDepth 100000 in
theorem s_J7_fill_53178_k55 (l : Launch) (D : va_G) (cI cL cZ cR : ClassId) (kd : Nat → Nat) (L : List Nat) (f : Nat → va_E) (hG : GI (okc cI cL cZ cR L kd) kd L f) (o0 : Nat) (mo0 : o0 ∈ L) (ko0 : kd o0 = 55) (p1 : Int32) (bp1 : (0 ≤ p1.toInt ∧ p1.toInt ≤ 0)) : mPV l D cI cL cZ cR yJ7_fill_53178 cJ7_fill_53178 4 none 0 0 [.ref o0, .int p1] L f (fun (f9 : Nat → va_E) => GI (okc cI cL cZ cR L kd) kd L f9) := by
  obtain ⟨dC, dI⟩ := D
  refine Met.ofW (cc := cJ7_fill_53178) (maxL := 4) (ret := none) (by decide) rfl ?_
  intro p e s m args below meth c s₁ B hml hv
  obtain ⟨rfl, hP, hK, hD0, hN⟩ := hv
  have hx := B.exec
  have hb := B.bytes
  have hr := B.returns
  have hU : ∀ w ∈ wsU, w.before _ s = true := fun w h => atoms_spec (ws := wU yJ7_fill_53178 cJ7_fill_53178 4 none) B.pre w (List.mem_cons_of_mem _ h)
  have hown : s.vm.findClass RJ7 = some m.cls := findClass_of_methodNamed B.named
  have hlocks := B.notSynchronized
  have hD := pl_in hD0
  have hS : va_S (fun q => q ∈ L) s.heap s.heap [] := va_S.rf
  have hl := lv_entry ([.ref o0, .int p1]) (n := 4) (Nat.le_of_ble_eq_true rfl)
  rw [lg_entry_eq]
  generalize (lg_sl ([.ref o0, .int p1]) ++ List.replicate (4 - (lg_sl ([.ref o0, .int p1])).length) Slot.unset).toArray = ls at hl ⊢
  have hl : lv_has ls 4 [(0, .ref o0), (1, .int p1)] := hl
  refine lv_iconst (v := 0) hx hb dJ7_fill_53178_0 (by decide) ?_
  refine lv_istore_n (lv' := [(2, .int 0), (0, .ref o0), (1, .int p1)]) hx hb dJ7_fill_53178_1 rfl hl (by decide) rfl (fun ls hl => ?_)
  refine lv_aload_n hx hb dJ7_fill_53178_2 rfl (lv_at hl 1 rfl) ?_
  obtain ⟨g_2, hfo_1, hbg_2⟩ := un_55 (hG _ mo0) ko0
  refine tk_alenP (v := 5329) hx hb hK hP 0 mo0 hfo_1 rfl rfl dJ7_fill_53178_3 ?_
  refine lv_istore_n (lv' := [(3, .int 5329), (2, .int 0), (0, .ref o0), (1, .int p1)]) hx hb dJ7_fill_53178_4 rfl hl (by decide) rfl (fun ls hl => ?_)
  have hloop_11 : ∀ (n : Nat), ∀ (y_9 : Int32), (0 ≤ y_9.toInt ∧ y_9.toInt ≤ 5329) → ∀ (f_10 : Nat → va_E), GI (okc cI cL cZ cR L kd) kd L f_10 → ∀ (H : Heap) (locs : List Loc), va_P (dC, dI) vwCl (va_pl L f_10) H → va_D (fun q => q ∈ L) (va_pl L f_10) → va_S (fun q => q ∈ L) s.heap H locs → (∀ b, kd b ≠ 55 → f_10 b = f b) → 5329 - y_9.toInt < (n : Int) → ∀ (ls : Array Slot), lv_has ls 4 [(3, .int 5329), (2, .int y_9), (0, .ref o0), (1, .int p1)] → W p l e (headSpec (wU yJ7_fill_53178 cJ7_fill_53178 4 none) { frames := 0, cells := 0, slots := 0, locals := 0 }).room s m [.ref o0, .int p1].toArray below meth c H locs 0 0 (MQ below (va_Qv (fun (f9 : Nat → va_E) => GI (okc cI cL cZ cR L kd) kd L f9) (qP (dC, dI) cI cL cZ cR L) (fun q => q ∈ L)) [.ref o0, .int p1].toArray s 0 0 (fun q => q ∈ L)) (F0 m 5 ls []) := by
    intro n
    induction n with
    | zero => intro y_9 by_9 f_10 hG H locs hP hD hS hfr_hloop_11 hmuhloop_11 ls hl; exfalso; omega
    | succ n ih_hloop_11 =>
      intro y_9 by_9 f_10 hG H locs hP hD hS hfr_hloop_11 hmuhloop_11 ls hl
      refine lv_iload_n hx hb dJ7_fill_53178_5 rfl (lv_at hl 1 rfl) ?_
      refine lv_iload_n hx hb dJ7_fill_53178_6 rfl (lv_at hl 0 rfl) ?_
      refine lv_icmp_ge (tgt := 20) hx hb dJ7_fill_53178_7 (by decide) (fun c_12 => ?_) (fun c_12 => ?_)
      · skip
        rw [Int32.le_iff_toInt_le, ti_5329] at c_12
        exact W.vret hx hb hr (fun t ht hW => ⟨⟨f_10, rfl, hG, by rw [ht]; exact hP, va_K.moved hW.alike hK, pl_in hD⟩, hS.F ht⟩) hS.2.2 dJ7_fill_53178_20
      · skip
        rw [Int32.le_iff_toInt_le, ti_5329] at c_12
        refine lv_aload_n hx hb dJ7_fill_53178_10 rfl (lv_at hl 2 rfl) ?_
        refine lv_iload_n hx hb dJ7_fill_53178_11 rfl (lv_at hl 1 rfl) ?_
        refine lv_iload_n hx hb dJ7_fill_53178_12 rfl (lv_at hl 3 rfl) ?_
        obtain ⟨g_14, hfo_13, hbg_14⟩ := un_55 (hG _ mo0) ko0
        refine tk_istP hx hb hK hP hD hS 0 mo0 hfo_13 rfl (vp_in_iff.mpr (by constructor <;> omega)) dJ7_fill_53178_13 (fun H locs hP hD hS => ?_)
        obtain ⟨f_15, ef_15⟩ : ∃ y : Nat → va_E, y = va_up f_10 o0 (.inl (cI, 5329, .inl (upd g_14 (Int32.toNatClampNeg y_9) p1))) := ⟨_, rfl⟩
        have hP : va_P (dC, dI) vwCl (va_pl L f_15) H := by rw [ef_15]; exact hP
        have hD : va_D (fun q => q ∈ L) (va_pl L f_15) := by rw [ef_15]; exact hD
        have hG : GI (okc cI cL cZ cR L kd) kd L f_15 := by rw [ef_15]; exact hG.set o0 (mk_55 ko0 ⟨_, rfl, okI_up hbg_14 (by constructor <;> omega) _⟩)
        have hfr_hloop_11 : ∀ b, kd b ≠ 55 → f_15 b = f b := fun b q55 => by rw [ef_15, up_ne (fun e9 => q55 (by rw [e9]; exact ko0))]; exact hfr_hloop_11 b q55
        have hfo_16 : f_15 o0 = .inl (cI, 5329, .inl (upd g_14 (Int32.toNatClampNeg y_9) p1)) := by rw [ef_15]; exact up_self
        obtain ⟨x_17, ex_17⟩ : ∃ y : Int32, y_9 + 1 = y := ⟨_, rfl⟩
        have hx_17 : x_17.toInt = y_9.toInt + 1 := by rw [← ex_17, ad_I (by rw [ti_1]; omega) (by rw [ti_1]; omega), ti_1]
        have bx_17 : (1 ≤ x_17.toInt ∧ x_17.toInt ≤ 5329) := by constructor <;> omega
        refine lv_iinc (v := x_17) (lv' := [(2, .int x_17), (3, .int 5329), (0, .ref o0), (1, .int p1)]) hx hb dJ7_fill_53178_14 hl (k := 1) rfl ex_17 (by decide) rfl (fun ls hl => ?_)
        refine lv_goto (tgt := 5) hx hb dJ7_fill_53178_17 (by decide) ?_
        exact ih_hloop_11 x_17 (by constructor <;> omega) f_15 hG _ _ hP hD hS hfr_hloop_11 (by omega) ls (lv_sub hl [1, 0, 2, 3] rfl)
  exact hloop_11 5330 0 (by decide) f hG _ _ hP hD hS (fun _ _ => rfl) (by (try simp only [ti_5329, ti_0]); omega) ls hl
