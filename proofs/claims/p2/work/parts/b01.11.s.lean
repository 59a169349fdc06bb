set_option maxHeartbeats 8000000 in
set_option maxRecDepth 100000 in
theorem s_J0_coder_7d493 (l : Launch) (D : va_G) (cI cL cZ cR cG cH : ClassId) (Z : zT) (kd : Nat → Nat) (L : List Nat) (f : Nat → va_E) (hG : GI (okc cI cL cZ cR cG cH L kd) kd L f) (i0 : Nat) (hi0 : i0 < 10) : mPI l D cI cL cZ cR cG cH Z yJ0_coder_7d493 cJ0_coder_7d493 1 (some .byte) 0 0 [.ref (Z.1 i0)] L f (fun (r : Int32) (f9 : Nat → va_E) => f = f9 ∧ (0 ≤ r.toInt ∧ r.toInt ≤ 0)) := by
  obtain ⟨dC, dI⟩ := D
  refine Met.ofW (cc := cJ0_coder_7d493) (maxL := 1) (ret := (some .byte)) (by decide) rfl ?_
  intro p e s m args below meth c s₁ B hml hv
  obtain ⟨rfl, hP, hK, hD0, hN, hZ⟩ := hv
  have hx := B.exec
  have hb := B.bytes
  have hr := B.returns
  have hU : ∀ w ∈ wsU, w.before _ s = true := fun w h => atoms_spec (ws := wU yJ0_coder_7d493 cJ0_coder_7d493 1 (some .byte)) B.pre w (List.mem_cons_of_mem _ h)
  have hown : s.vm.findClass RJ0 = some m.cls := findClass_of_methodNamed B.named
  have hlocks := B.notSynchronized
  have hD := pl_in hD0
  have hS : va_S (fun q => q ∈ L) s.heap s.heap [] := va_S.rf
  have hl := lv_entry ([.ref (Z.1 i0)]) (n := 1) (Nat.le_of_ble_eq_true rfl)
  rw [lg_entry_eq]
  generalize (lg_sl ([.ref (Z.1 i0)]) ++ List.replicate (1 - (lg_sl ([.ref (Z.1 i0)])).length) Slot.unset).toArray = ls at hl ⊢
  have hl : lv_has ls 1 [(0, .ref (Z.1 i0))] := hl
  refine va_gets hx hb hZ.2.1 hS hown (hU _ wd_301) (fun _ h9 => h9) dJ0_coder_7d493_0 ?_
  refine lv_if_eq (tgt := 13) hx hb dJ0_coder_7d493_3 (by decide) (fun c9 => absurd c9 (by decide)) (fun _ => ?_)
  refine lv_aload_n hx hb dJ0_coder_7d493_6 rfl (lv_at hl 0 rfl) ?_
  refine vk_getf (v := .int 0) hx hb (hZ.1.1 i0 hi0).2.1 hS hown (hU _ wd_302) (fun _ h9 => h9) dJ0_coder_7d493_7 ?_
  refine lv_goto (tgt := 14) hx hb dJ0_coder_7d493_10 (by decide) ?_
  exact W.zret (v := 0) (ty := .byte) hx hb hr rfl (fun t ht hW => ⟨⟨0, f, rfl, ⟨rfl, (by decide)⟩, by rw [ht]; exact hP, va_K.moved hW.alike hK, pl_in hD⟩, hS.F ht⟩) hS.2.2 dJ0_coder_7d493_14
set_option maxHeartbeats 8000000 in
set_option maxRecDepth 100000 in
theorem s_J0_isLatin1_aae02 (l : Launch) (D : va_G) (cI cL cZ cR cG cH : ClassId) (Z : zT) (kd : Nat → Nat) (L : List Nat) (f : Nat → va_E) (hG : GI (okc cI cL cZ cR cG cH L kd) kd L f) (i0 : Nat) (hi0 : i0 < 10) : mPI l D cI cL cZ cR cG cH Z yJ0_isLatin1_aae02 cJ0_isLatin1_aae02 1 (some .boolean) 0 0 [.ref (Z.1 i0)] L f (fun (r : Int32) (f9 : Nat → va_E) => f = f9 ∧ (1 ≤ r.toInt ∧ r.toInt ≤ 1)) := by
  obtain ⟨dC, dI⟩ := D
  refine Met.ofW (cc := cJ0_isLatin1_aae02) (maxL := 1) (ret := (some .boolean)) (by decide) rfl ?_
  intro p e s m args below meth c s₁ B hml hv
  obtain ⟨rfl, hP, hK, hD0, hN, hZ⟩ := hv
  have hx := B.exec
  have hb := B.bytes
  have hr := B.returns
  have hU : ∀ w ∈ wsU, w.before _ s = true := fun w h => atoms_spec (ws := wU yJ0_isLatin1_aae02 cJ0_isLatin1_aae02 1 (some .boolean)) B.pre w (List.mem_cons_of_mem _ h)
  have hown : s.vm.findClass RJ0 = some m.cls := findClass_of_methodNamed B.named
  have hlocks := B.notSynchronized
  have hD := pl_in hD0
  have hS : va_S (fun q => q ∈ L) s.heap s.heap [] := va_S.rf
  have hl := lv_entry ([.ref (Z.1 i0)]) (n := 1) (Nat.le_of_ble_eq_true rfl)
  rw [lg_entry_eq]
  generalize (lg_sl ([.ref (Z.1 i0)]) ++ List.replicate (1 - (lg_sl ([.ref (Z.1 i0)])).length) Slot.unset).toArray = ls at hl ⊢
  have hl : lv_has ls 1 [(0, .ref (Z.1 i0))] := hl
  refine va_gets hx hb hZ.2.1 hS hown (hU _ wd_301) (fun _ h9 => h9) dJ0_isLatin1_aae02_0 ?_
  refine lv_if_eq (tgt := 17) hx hb dJ0_isLatin1_aae02_3 (by decide) (fun c9 => absurd c9 (by decide)) (fun _ => ?_)
  refine lv_aload_n hx hb dJ0_isLatin1_aae02_6 rfl (lv_at hl 0 rfl) ?_
  refine vk_getf (v := .int 0) hx hb (hZ.1.1 i0 hi0).2.1 hS hown (hU _ wd_302) (fun _ h9 => h9) dJ0_isLatin1_aae02_7 ?_
  refine lv_if_ne (tgt := 17) hx hb dJ0_isLatin1_aae02_10 (by decide) (fun c9 => absurd (by decide) c9) (fun _ => ?_)
  refine lv_iconst (v := 1) hx hb dJ0_isLatin1_aae02_13 (by decide) ?_
  refine lv_goto (tgt := 18) hx hb dJ0_isLatin1_aae02_14 (by decide) ?_
  exact W.zret (v := 1) (ty := .boolean) hx hb hr rfl (fun t ht hW => ⟨⟨1, f, rfl, ⟨rfl, (by decide)⟩, by rw [ht]; exact hP, va_K.moved hW.alike hK, pl_in hD⟩, hS.F ht⟩) hS.2.2 dJ0_isLatin1_aae02_18
set_option maxHeartbeats 8000000 in
set_option maxRecDepth 100000 in
theorem s_J0_length_8abf5 (l : Launch) (D : va_G) (cI cL cZ cR cG cH : ClassId) (Z : zT) (kd : Nat → Nat) (L : List Nat) (f : Nat → va_E) (hG : GI (okc cI cL cZ cR cG cH L kd) kd L f) (i0 : Nat) (hi0 : i0 < 10) : mPI l D cI cL cZ cR cG cH Z yJ0_length_8abf5 cJ0_length_8abf5 1 (some .int) 1 20 [.ref (Z.1 i0)] L f (fun (r : Int32) (f9 : Nat → va_E) => f = f9 ∧ (2 ≤ r.toInt ∧ r.toInt ≤ 7) ∧ r.toInt = ((zL.getD i0 0 : Nat) : Int)) := by
  obtain ⟨dC, dI⟩ := D
  refine Met.ofW (cc := cJ0_length_8abf5) (maxL := 1) (ret := (some .int)) (by decide) rfl ?_
  intro p e s m args below meth c s₁ B hml hv
  obtain ⟨rfl, hP, hK, hD0, hN, hZ⟩ := hv
  have hx := B.exec
  have hb := B.bytes
  have hr := B.returns
  have hU : ∀ w ∈ wsU, w.before _ s = true := fun w h => atoms_spec (ws := wU yJ0_length_8abf5 cJ0_length_8abf5 1 (some .int)) B.pre w (List.mem_cons_of_mem _ h)
  have hown : s.vm.findClass RJ0 = some m.cls := findClass_of_methodNamed B.named
  have hlocks := B.notSynchronized
  have hD := pl_in hD0
  have hS : va_S (fun q => q ∈ L) s.heap s.heap [] := va_S.rf
  have hl := lv_entry ([.ref (Z.1 i0)]) (n := 1) (Nat.le_of_ble_eq_true rfl)
  rw [lg_entry_eq]
  generalize (lg_sl ([.ref (Z.1 i0)]) ++ List.replicate (1 - (lg_sl ([.ref (Z.1 i0)])).length) Slot.unset).toArray = ls at hl ⊢
  have hl : lv_has ls 1 [(0, .ref (Z.1 i0))] := hl
  refine lv_aload_n hx hb dJ0_length_8abf5_0 rfl (lv_at hl 0 rfl) ?_
  refine vk_getf (v := .ref (Z.2.1 i0)) hx hb (hZ.1.1 i0 hi0).2.2.1 hS hown (hU _ wd_296) (fun _ h9 => h9) dJ0_length_8abf5_1 ?_
  refine va_tlen (v := Int32.ofNat (zL.getD i0 0)) hx hb (hZ.1.1 i0 hi0).2.2.2 hS rfl dJ0_length_8abf5_4 ?_
  refine lv_topi (fun x_1 ex_1 => ?_)
  have hx_1 : x_1.toInt = ((zL.getD i0 0 : Nat) : Int) := by rw [ex_1]; exact zl_of hi0
  have hpx_1 := zl_pos hi0
  have bx_1 : (2 ≤ x_1.toInt ∧ x_1.toInt ≤ 7) := by constructor <;> omega
  refine lv_aload_n hx hb dJ0_length_8abf5_5 rfl (lv_at hl 0 rfl) ?_
  refine tk_TiP (As := []) (rest := [.int x_1]) (n := 0) hx hb hml hown hU hN hZ (s_J0_coder_7d493 l (dC, dI) cI cL cZ cR cG cH Z kd L f hG i0 hi0) wd_297 wd_298 wd_299 wd_294 wd_300 (by decide +kernel) ⟨Nat.le_of_ble_eq_true rfl, Nat.le_of_ble_eq_true rfl⟩ hK hP hD hS hi0 rfl rfl hl.1 rfl (Nat.le_of_ble_eq_true rfl) dJ0_length_8abf5_6 ⟨Nat.le_of_ble_eq_true rfl, Nat.le_of_ble_eq_true rfl⟩ (fun x_2 f_3 H locs hw hP hD hS => ?_)
  obtain ⟨rfl, bx_2⟩ := hw
  refine lv_ishr hx hb dJ0_length_8abf5_9 ?_
  refine lv_topi (fun x_5 ex_5 => ?_)
  have hx_5 : x_5.toInt = x_1.toInt := by rw [ex_5]; exact sr_0 (by omega)
  have bx_5 : (2 ≤ x_5.toInt ∧ x_5.toInt ≤ 7) := by constructor <;> omega
  exact W.iret (v := x_5) hx hb hr (fun t ht hW => ⟨⟨x_5, f, rfl, ⟨rfl, (by constructor <;> omega), (by omega)⟩, by rw [ht]; exact hP, va_K.moved hW.alike hK, pl_in hD⟩, hS.F ht⟩) hS.2.2 dJ0_length_8abf5_10
set_option maxHeartbeats 8000000 in
set_option maxRecDepth 100000 in
theorem s_J3_checkIndex_8e157 (l : Launch) (D : va_G) (cI cL cZ cR cG cH : ClassId) (Z : zT) (kd : Nat → Nat) (L : List Nat) (f : Nat → va_E) (hG : GI (okc cI cL cZ cR cG cH L kd) kd L f) (p0 : Int32) (bp0 : (0 ≤ p0.toInt ∧ p0.toInt ≤ 2147483647)) (p1 : Int32) (x2 : Nat) (hxrel : p0.toInt < p1.toInt) : mPI l D cI cL cZ cR cG cH Z yJ3_checkIndex_8e157 cJ3_checkIndex_8e157 3 (some .int) 0 0 [.int p0, .int p1, .ref x2] L f (fun (r : Int32) (f9 : Nat → va_E) => f = f9 ∧ ((-2147483648) ≤ r.toInt ∧ r.toInt ≤ 2147483647)) := by
  obtain ⟨dC, dI⟩ := D
  refine Met.ofW (cc := cJ3_checkIndex_8e157) (maxL := 3) (ret := (some .int)) (by decide) rfl ?_
  intro p e s m args below meth c s₁ B hml hv
  obtain ⟨rfl, hP, hK, hD0, hN, hZ⟩ := hv
  have hx := B.exec
  have hb := B.bytes
  have hr := B.returns
  have hU : ∀ w ∈ wsU, w.before _ s = true := fun w h => atoms_spec (ws := wU yJ3_checkIndex_8e157 cJ3_checkIndex_8e157 3 (some .int)) B.pre w (List.mem_cons_of_mem _ h)
  have hown : s.vm.findClass RJ3 = some m.cls := findClass_of_methodNamed B.named
  have hlocks := B.notSynchronized
  have hD := pl_in hD0
  have hS : va_S (fun q => q ∈ L) s.heap s.heap [] := va_S.rf
  have hl := lv_entry ([.int p0, .int p1, .ref x2]) (n := 3) (Nat.le_of_ble_eq_true rfl)
  rw [lg_entry_eq]
  generalize (lg_sl ([.int p0, .int p1, .ref x2]) ++ List.replicate (3 - (lg_sl ([.int p0, .int p1, .ref x2])).length) Slot.unset).toArray = ls at hl ⊢
  have hl : lv_has ls 3 [(0, .int p0), (1, .int p1), (2, .ref x2)] := hl
  have bp1 : ((-2147483648) ≤ p1.toInt ∧ p1.toInt ≤ 2147483647) := ⟨i32_lo _, i32_hi _⟩
  refine lv_iload_n hx hb dJ3_checkIndex_8e157_0 rfl (lv_at hl 0 rfl) ?_
  refine lv_if_lt (tgt := 9) hx hb dJ3_checkIndex_8e157_1 (by decide) (fun c_1 => ?_) (fun c_1 => ?_)
  · skip
    rw [Int32.lt_iff_toInt_lt, ti_0] at c_1
    exfalso
    omega
  · skip
    rw [Int32.lt_iff_toInt_lt, ti_0] at c_1
    refine lv_iload_n hx hb dJ3_checkIndex_8e157_4 rfl (lv_at hl 0 rfl) ?_
    refine lv_iload_n hx hb dJ3_checkIndex_8e157_5 rfl (lv_at hl 1 rfl) ?_
    refine lv_icmp_lt (tgt := 16) hx hb dJ3_checkIndex_8e157_6 (by decide) (fun c_2 => ?_) (fun c_2 => ?_)
    · skip
      rw [Int32.lt_iff_toInt_lt] at c_2
      refine lv_iload_n hx hb dJ3_checkIndex_8e157_16 rfl (lv_at hl 0 rfl) ?_
      exact W.iret (v := p0) hx hb hr (fun t ht hW => ⟨⟨p0, f, rfl, ⟨rfl, (by constructor <;> omega)⟩, by rw [ht]; exact hP, va_K.moved hW.alike hK, pl_in hD⟩, hS.F ht⟩) hS.2.2 dJ3_checkIndex_8e157_17
    · skip
      rw [Int32.lt_iff_toInt_lt] at c_2
      exfalso
      omega
set_option maxHeartbeats 8000000 in
set_option maxRecDepth 100000 in
theorem s_J3_checkIndex_8e157_n (l : Launch) (D : va_G) (cI cL cZ cR cG cH : ClassId) (Z : zT) (kd : Nat → Nat) (L : List Nat) (f : Nat → va_E) (hG : GI (okc cI cL cZ cR cG cH L kd) kd L f) (p0 : Int32) (bp0 : (0 ≤ p0.toInt ∧ p0.toInt ≤ 2147483647)) (p1 : Int32) (hxrel : p0.toInt < p1.toInt) : mPI l D cI cL cZ cR cG cH Z yJ3_checkIndex_8e157 cJ3_checkIndex_8e157 3 (some .int) 0 0 [.int p0, .int p1, .null] L f (fun (r : Int32) (f9 : Nat → va_E) => f = f9 ∧ ((-2147483648) ≤ r.toInt ∧ r.toInt ≤ 2147483647)) := by
  obtain ⟨dC, dI⟩ := D
  refine Met.ofW (cc := cJ3_checkIndex_8e157) (maxL := 3) (ret := (some .int)) (by decide) rfl ?_
  intro p e s m args below meth c s₁ B hml hv
  obtain ⟨rfl, hP, hK, hD0, hN, hZ⟩ := hv
  have hx := B.exec
  have hb := B.bytes
  have hr := B.returns
  have hU : ∀ w ∈ wsU, w.before _ s = true := fun w h => atoms_spec (ws := wU yJ3_checkIndex_8e157 cJ3_checkIndex_8e157 3 (some .int)) B.pre w (List.mem_cons_of_mem _ h)
  have hown : s.vm.findClass RJ3 = some m.cls := findClass_of_methodNamed B.named
  have hlocks := B.notSynchronized
  have hD := pl_in hD0
  have hS : va_S (fun q => q ∈ L) s.heap s.heap [] := va_S.rf
  have hl := lv_entry ([.int p0, .int p1, .null]) (n := 3) (Nat.le_of_ble_eq_true rfl)
  rw [lg_entry_eq]
  generalize (lg_sl ([.int p0, .int p1, .null]) ++ List.replicate (3 - (lg_sl ([.int p0, .int p1, .null])).length) Slot.unset).toArray = ls at hl ⊢
  have hl : lv_has ls 3 [(0, .int p0), (1, .int p1), (2, .null)] := hl
  have bp1 : ((-2147483648) ≤ p1.toInt ∧ p1.toInt ≤ 2147483647) := ⟨i32_lo _, i32_hi _⟩
  refine lv_iload_n hx hb dJ3_checkIndex_8e157_0 rfl (lv_at hl 0 rfl) ?_
  refine lv_if_lt (tgt := 9) hx hb dJ3_checkIndex_8e157_1 (by decide) (fun c_1 => ?_) (fun c_1 => ?_)
  · skip
    rw [Int32.lt_iff_toInt_lt, ti_0] at c_1
    exfalso
    omega
  · skip
    rw [Int32.lt_iff_toInt_lt, ti_0] at c_1
    refine lv_iload_n hx hb dJ3_checkIndex_8e157_4 rfl (lv_at hl 0 rfl) ?_
    refine lv_iload_n hx hb dJ3_checkIndex_8e157_5 rfl (lv_at hl 1 rfl) ?_
    refine lv_icmp_lt (tgt := 16) hx hb dJ3_checkIndex_8e157_6 (by decide) (fun c_2 => ?_) (fun c_2 => ?_)
    · skip
      rw [Int32.lt_iff_toInt_lt] at c_2
      refine lv_iload_n hx hb dJ3_checkIndex_8e157_16 rfl (lv_at hl 0 rfl) ?_
      exact W.iret (v := p0) hx hb hr (fun t ht hW => ⟨⟨p0, f, rfl, ⟨rfl, (by constructor <;> omega)⟩, by rw [ht]; exact hP, va_K.moved hW.alike hK, pl_in hD⟩, hS.F ht⟩) hS.2.2 dJ3_checkIndex_8e157_17
    · skip
      rw [Int32.lt_iff_toInt_lt] at c_2
      exfalso
      omega
set_option maxHeartbeats 8000000 in
set_option maxRecDepth 100000 in
theorem s_J0_checkIndex_df160 (l : Launch) (D : va_G) (cI cL cZ cR cG cH : ClassId) (Z : zT) (kd : Nat → Nat) (L : List Nat) (f : Nat → va_E) (hG : GI (okc cI cL cZ cR cG cH L kd) kd L f) (p0 : Int32) (bp0 : (0 ≤ p0.toInt ∧ p0.toInt ≤ 2147483647)) (p1 : Int32) (hxrel : p0.toInt < p1.toInt) : mPV l D cI cL cZ cR cG cH Z yJ0_checkIndex_df160 cJ0_checkIndex_df160 2 none 1 22 [.int p0, .int p1] L f (fun (f9 : Nat → va_E) => f = f9) := by
  obtain ⟨dC, dI⟩ := D
  refine Met.ofW (cc := cJ0_checkIndex_df160) (maxL := 2) (ret := none) (by decide) rfl ?_
  intro p e s m args below meth c s₁ B hml hv
  obtain ⟨rfl, hP, hK, hD0, hN, hZ⟩ := hv
  have hx := B.exec
  have hb := B.bytes
  have hr := B.returns
  have hU : ∀ w ∈ wsU, w.before _ s = true := fun w h => atoms_spec (ws := wU yJ0_checkIndex_df160 cJ0_checkIndex_df160 2 none) B.pre w (List.mem_cons_of_mem _ h)
  have hown : s.vm.findClass RJ0 = some m.cls := findClass_of_methodNamed B.named
  have hlocks := B.notSynchronized
  have hD := pl_in hD0
  have hS : va_S (fun q => q ∈ L) s.heap s.heap [] := va_S.rf
  have hl := lv_entry ([.int p0, .int p1]) (n := 2) (Nat.le_of_ble_eq_true rfl)
  rw [lg_entry_eq]
  generalize (lg_sl ([.int p0, .int p1]) ++ List.replicate (2 - (lg_sl ([.int p0, .int p1])).length) Slot.unset).toArray = ls at hl ⊢
  have hl : lv_has ls 2 [(0, .int p0), (1, .int p1)] := hl
  have bp1 : ((-2147483648) ≤ p1.toInt ∧ p1.toInt ≤ 2147483647) := ⟨i32_lo _, i32_hi _⟩
  refine lv_iload_n hx hb dJ0_checkIndex_df160_0 rfl (lv_at hl 0 rfl) ?_
  refine lv_iload_n hx hb dJ0_checkIndex_df160_1 rfl (lv_at hl 1 rfl) ?_
  have hz5 := hZ.2.2.2.2.1
  rcases hzz : Z.2.2.2 with _ | a9
  · rw [hzz] at hz5
    refine va_gets (v := .null) hx hb hz5 hS hown (hU _ wd_318) (fun _ h9 => h9) dJ0_checkIndex_df160_2 ?_
    refine tk_SiP (As := [.int p0, .int p1, .null]) (rest := []) (n := 3) hx hb hml hown hU hN hZ (s_J3_checkIndex_8e157_n l (dC, dI) cI cL cZ cR cG cH Z kd L f hG p0 (by constructor <;> omega) p1 (by omega)) wd_319 wd_320 wd_321 wd_322 (by decide +kernel) ⟨Nat.le_of_ble_eq_true rfl, Nat.le_of_ble_eq_true rfl⟩ hK hP hD hS rfl hl.1 rfl (Nat.le_of_ble_eq_true rfl) dJ0_checkIndex_df160_5 ⟨Nat.le_of_ble_eq_true rfl, Nat.le_of_ble_eq_true rfl⟩ (fun x_1 f_2 H locs hw hP hD hS => ?_)
    obtain ⟨rfl, bx_1⟩ := hw
    refine lv_pop hx hb dJ0_checkIndex_df160_8 rfl ?_
    exact W.vret hx hb hr (fun t ht hW => ⟨⟨f, rfl, rfl, by rw [ht]; exact hP, va_K.moved hW.alike hK, pl_in hD⟩, hS.F ht⟩) hS.2.2 dJ0_checkIndex_df160_9
  · rw [hzz] at hz5
    refine va_gets (v := .ref a9) hx hb hz5 hS hown (hU _ wd_318) (fun _ h9 => h9) dJ0_checkIndex_df160_2 ?_
    refine tk_SiP (As := [.int p0, .int p1, .ref a9]) (rest := []) (n := 3) hx hb hml hown hU hN hZ (s_J3_checkIndex_8e157 l (dC, dI) cI cL cZ cR cG cH Z kd L f hG p0 (by constructor <;> omega) p1 (a9) (by omega)) wd_319 wd_320 wd_321 wd_322 (by decide +kernel) ⟨Nat.le_of_ble_eq_true rfl, Nat.le_of_ble_eq_true rfl⟩ hK hP hD hS rfl hl.1 rfl (Nat.le_of_ble_eq_true rfl) dJ0_checkIndex_df160_5 ⟨Nat.le_of_ble_eq_true rfl, Nat.le_of_ble_eq_true rfl⟩ (fun x_4 f_5 H locs hw hP hD hS => ?_)
    obtain ⟨rfl, bx_4⟩ := hw
    refine lv_pop hx hb dJ0_checkIndex_df160_8 rfl ?_
    exact W.vret hx hb hr (fun t ht hW => ⟨⟨f, rfl, rfl, by rw [ht]; exact hP, va_K.moved hW.alike hK, pl_in hD⟩, hS.F ht⟩) hS.2.2 dJ0_checkIndex_df160_9
set_option maxHeartbeats 8000000 in
set_option maxRecDepth 100000 in
theorem s_J1_charAt_3b067 (l : Launch) (D : va_G) (cI cL cZ cR cG cH : ClassId) (Z : zT) (kd : Nat → Nat) (L : List Nat) (f : Nat → va_E) (hG : GI (okc cI cL cZ cR cG cH L kd) kd L f) (i0 : Nat) (hi0 : i0 < 10) (p1 : Int32) (bp1 : (0 ≤ p1.toInt ∧ p1.toInt ≤ 6)) (hxrel : p1.toInt < ((zL.getD i0 0 : Nat) : Int)) : mPI l D cI cL cZ cR cG cH Z yJ1_charAt_3b067 cJ1_charAt_3b067 2 (some .char) 2 43 [.ref (Z.2.1 i0), .int p1] L f (fun (r : Int32) (f9 : Nat → va_E) => f = f9 ∧ (0 ≤ r.toInt ∧ r.toInt ≤ 255)) := by
  obtain ⟨dC, dI⟩ := D
  refine Met.ofW (cc := cJ1_charAt_3b067) (maxL := 2) (ret := (some .char)) (by decide) rfl ?_
  intro p e s m args below meth c s₁ B hml hv
  obtain ⟨rfl, hP, hK, hD0, hN, hZ⟩ := hv
  have hx := B.exec
  have hb := B.bytes
  have hr := B.returns
  have hU : ∀ w ∈ wsU, w.before _ s = true := fun w h => atoms_spec (ws := wU yJ1_charAt_3b067 cJ1_charAt_3b067 2 (some .char)) B.pre w (List.mem_cons_of_mem _ h)
  have hown : s.vm.findClass RJ1 = some m.cls := findClass_of_methodNamed B.named
  have hlocks := B.notSynchronized
  have hD := pl_in hD0
  have hS : va_S (fun q => q ∈ L) s.heap s.heap [] := va_S.rf
  have hl := lv_entry ([.ref (Z.2.1 i0), .int p1]) (n := 2) (Nat.le_of_ble_eq_true rfl)
  rw [lg_entry_eq]
  generalize (lg_sl ([.ref (Z.2.1 i0), .int p1]) ++ List.replicate (2 - (lg_sl ([.ref (Z.2.1 i0), .int p1])).length) Slot.unset).toArray = ls at hl ⊢
  have hl : lv_has ls 2 [(0, .ref (Z.2.1 i0)), (1, .int p1)] := hl
  refine lv_iload_n hx hb dJ1_charAt_3b067_0 rfl (lv_at hl 1 rfl) ?_
  refine lv_aload_n hx hb dJ1_charAt_3b067_1 rfl (lv_at hl 0 rfl) ?_
  refine va_tlen (v := Int32.ofNat (zL.getD i0 0)) hx hb (hZ.1.1 i0 hi0).2.2.2 hS rfl dJ1_charAt_3b067_2 ?_
  refine lv_topi (fun x_1 ex_1 => ?_)
  have hx_1 : x_1.toInt = ((zL.getD i0 0 : Nat) : Int) := by rw [ex_1]; exact zl_of hi0
  have hpx_1 := zl_pos hi0
  have bx_1 : (2 ≤ x_1.toInt ∧ x_1.toInt ≤ 7) := by constructor <;> omega
  refine tk_SvP (As := [.int p1, .int x_1]) (rest := []) (n := 2) hx hb hml hown hU hN hZ (s_J0_checkIndex_df160 l (dC, dI) cI cL cZ cR cG cH Z kd L f hG p1 (by constructor <;> omega) x_1 (by omega)) wd_315 wd_316 wd_294 wd_317 (by decide +kernel) ⟨Nat.le_of_ble_eq_true rfl, Nat.le_of_ble_eq_true rfl⟩ hK hP hD hS rfl hl.1 rfl (Nat.le_of_ble_eq_true rfl) dJ1_charAt_3b067_3 ⟨Nat.le_of_ble_eq_true rfl, Nat.le_of_ble_eq_true rfl⟩ (fun f_3 H locs hw hP hD hS => ?_)
  obtain rfl := hw
  refine lv_aload_n hx hb dJ1_charAt_3b067_6 rfl (lv_at hl 0 rfl) ?_
  refine lv_iload_n hx hb dJ1_charAt_3b067_7 rfl (lv_at hl 1 rfl) ?_
  refine va_tb (v := .int ((zB.getD i0 []).getD (Int32.toNatClampNeg p1) 0)) hx hb (hZ.1.1 i0 hi0).2.2.2 hS (vp_in_iff.mpr (by constructor <;> omega)) rfl dJ1_charAt_3b067_8 ?_
  refine lv_topi (fun x_5 ex_5 => ?_)
  have bx_5 : ((-2147483648) ≤ x_5.toInt ∧ x_5.toInt ≤ 2147483647) := ⟨i32_lo _, i32_hi _⟩
  refine lv_sipush (v := 255) hx hb dJ1_charAt_3b067_9 (by decide) ?_
  refine lv_iand hx hb dJ1_charAt_3b067_12 ?_
  refine lv_topi (fun x_6 ex_6 => ?_)
  have bx_6 : (0 ≤ x_6.toInt ∧ x_6.toInt ≤ 255) := by rw [ex_6]; have h8 := an_C x_5 (m := 255) (by decide); rw [ti_255] at h8; exact h8
  refine lv_i2c (v := x_6) hx hb dJ1_charAt_3b067_13 (c2_n (by constructor <;> omega)) ?_
  exact W.zret (v := x_6) (ty := .char) hx hb hr (ch_n (by constructor <;> omega)) (fun t ht hW => ⟨⟨x_6, f, rfl, ⟨rfl, (by constructor <;> omega)⟩, by rw [ht]; exact hP, va_K.moved hW.alike hK, pl_in hD⟩, hS.F ht⟩) hS.2.2 dJ1_charAt_3b067_14
set_option maxHeartbeats 8000000 in
set_option maxRecDepth 100000 in
theorem s_J0_charAt_5068e (l : Launch) (D : va_G) (cI cL cZ cR cG cH : ClassId) (Z : zT) (kd : Nat → Nat) (L : List Nat) (f : Nat → va_E) (hG : GI (okc cI cL cZ cR cG cH L kd) kd L f) (i0 : Nat) (hi0 : i0 < 10) (p1 : Int32) (bp1 : (0 ≤ p1.toInt ∧ p1.toInt ≤ 6)) (hxrel : p1.toInt < ((zL.getD i0 0 : Nat) : Int)) : mPI l D cI cL cZ cR cG cH Z yJ0_charAt_5068e cJ0_charAt_5068e 2 (some .char) 3 64 [.ref (Z.1 i0), .int p1] L f (fun (r : Int32) (f9 : Nat → va_E) => f = f9 ∧ (0 ≤ r.toInt ∧ r.toInt ≤ 255)) := by
  obtain ⟨dC, dI⟩ := D
  refine Met.ofW (cc := cJ0_charAt_5068e) (maxL := 2) (ret := (some .char)) (by decide) rfl ?_
  intro p e s m args below meth c s₁ B hml hv
  obtain ⟨rfl, hP, hK, hD0, hN, hZ⟩ := hv
  have hx := B.exec
  have hb := B.bytes
  have hr := B.returns
  have hU : ∀ w ∈ wsU, w.before _ s = true := fun w h => atoms_spec (ws := wU yJ0_charAt_5068e cJ0_charAt_5068e 2 (some .char)) B.pre w (List.mem_cons_of_mem _ h)
  have hown : s.vm.findClass RJ0 = some m.cls := findClass_of_methodNamed B.named
  have hlocks := B.notSynchronized
  have hD := pl_in hD0
  have hS : va_S (fun q => q ∈ L) s.heap s.heap [] := va_S.rf
  have hl := lv_entry ([.ref (Z.1 i0), .int p1]) (n := 2) (Nat.le_of_ble_eq_true rfl)
  rw [lg_entry_eq]
  generalize (lg_sl ([.ref (Z.1 i0), .int p1]) ++ List.replicate (2 - (lg_sl ([.ref (Z.1 i0), .int p1])).length) Slot.unset).toArray = ls at hl ⊢
  have hl : lv_has ls 2 [(0, .ref (Z.1 i0)), (1, .int p1)] := hl
  refine lv_aload_n hx hb dJ0_charAt_5068e_0 rfl (lv_at hl 0 rfl) ?_
  refine tk_TiP (As := []) (rest := []) (n := 0) hx hb hml hown hU hN hZ (s_J0_isLatin1_aae02 l (dC, dI) cI cL cZ cR cG cH Z kd L f hG i0 hi0) wd_307 wd_308 wd_309 wd_294 wd_310 (by decide +kernel) ⟨Nat.le_of_ble_eq_true rfl, Nat.le_of_ble_eq_true rfl⟩ hK hP hD hS hi0 rfl rfl hl.1 rfl (Nat.le_of_ble_eq_true rfl) dJ0_charAt_5068e_1 ⟨Nat.le_of_ble_eq_true rfl, Nat.le_of_ble_eq_true rfl⟩ (fun x_1 f_2 H locs hw hP hD hS => ?_)
  obtain ⟨rfl, bx_1⟩ := hw
  refine lv_if_eq (tgt := 16) hx hb dJ0_charAt_5068e_4 (by decide) (fun c_4 => ?_) (fun c_4 => ?_)
  · skip
    rw [← Int32.toInt_inj, ti_0] at c_4
    exfalso
    omega
  · skip
    rw [← Int32.toInt_inj, ti_0] at c_4
    refine lv_aload_n hx hb dJ0_charAt_5068e_7 rfl (lv_at hl 0 rfl) ?_
    refine vk_getf (v := .ref (Z.2.1 i0)) hx hb (hZ.1.1 i0 hi0).2.2.1 hS hown (hU _ wd_296) (fun _ h9 => h9) dJ0_charAt_5068e_8 ?_
    refine lv_iload_n hx hb dJ0_charAt_5068e_11 rfl (lv_at hl 1 rfl) ?_
    refine tk_SiP (As := [.ref (Z.2.1 i0), .int p1]) (rest := []) (n := 2) hx hb hml hown hU hN hZ (s_J1_charAt_3b067 l (dC, dI) cI cL cZ cR cG cH Z kd L f hG i0 hi0 p1 (by constructor <;> omega) (by omega)) wd_311 wd_312 wd_313 wd_314 (by decide +kernel) ⟨Nat.le_of_ble_eq_true rfl, Nat.le_of_ble_eq_true rfl⟩ hK hP hD hS rfl hl.1 rfl (Nat.le_of_ble_eq_true rfl) dJ0_charAt_5068e_12 ⟨Nat.le_of_ble_eq_true rfl, Nat.le_of_ble_eq_true rfl⟩ (fun x_5 f_6 H locs hw hP hD hS => ?_)
    obtain ⟨rfl, bx_5⟩ := hw
    exact W.zret (v := x_5) (ty := .char) hx hb hr (ch_n (by constructor <;> omega)) (fun t ht hW => ⟨⟨x_5, f, rfl, ⟨rfl, (by constructor <;> omega)⟩, by rw [ht]; exact hP, va_K.moved hW.alike hK, pl_in hD⟩, hS.F ht⟩) hS.2.2 dJ0_charAt_5068e_15
set_option maxHeartbeats 8000000 in
set_option maxRecDepth 100000 in
theorem s_X2_fail_k2 (l : Launch) (D : va_G) (cI cL cZ cR cG cH : ClassId) (Z : zT) (kd : Nat → Nat) (L : List Nat) (f : Nat → va_E) (hG : GI (okc cI cL cZ cR cG cH L kd) kd L f) (o0 : Nat) (mo0 : o0 ∈ L) (ko0 : kd o0 = 2) (p1 : Int32) (p2 : Int32) : mPI l D cI cL cZ cR cG cH Z yX2_fail cX2_fail 3 (some .boolean) 0 0 [.ref o0, .int p1, .int p2] L f (fun (r : Int32) (f9 : Nat → va_E) => GI (okc cI cL cZ cR cG cH L kd) kd L f9 ∧ (0 ≤ r.toInt ∧ r.toInt ≤ 0) ∧ (∀ b, kd b ≠ 2 → f9 b = f b) ∧ (∀ b, kd b = 2 → fldI (f9 b) 4 = fldI (f b) 4) ∧ (∀ b, kd b = 2 → fldI (f9 b) 5 = fldI (f b) 5) ∧ (∀ b, kd b = 2 → fldI (f9 b) 7 = fldI (f b) 7) ∧ (∀ b, kd b = 2 → fldI (f9 b) 8 = fldI (f b) 8) ∧ (∀ b, kd b = 2 → fldR (f9 b) 0 = fldR (f b) 0) ∧ (∀ b, kd b = 2 → fldR (f9 b) 3 = fldR (f b) 3)) := by
  obtain ⟨dC, dI⟩ := D
  refine Met.ofW (cc := cX2_fail) (maxL := 3) (ret := (some .boolean)) (by decide) rfl ?_
  intro p e s m args below meth c s₁ B hml hv
  obtain ⟨rfl, hP, hK, hD0, hN, hZ⟩ := hv
  have hx := B.exec
  have hb := B.bytes
  have hr := B.returns
  have hU : ∀ w ∈ wsU, w.before _ s = true := fun w h => atoms_spec (ws := wU yX2_fail cX2_fail 3 (some .boolean)) B.pre w (List.mem_cons_of_mem _ h)
  have hown : s.vm.findClass RX2 = some m.cls := findClass_of_methodNamed B.named
  have hlocks := B.notSynchronized
  have hD := pl_in hD0
  have hS : va_S (fun q => q ∈ L) s.heap s.heap [] := va_S.rf
  have hl := lv_entry ([.ref o0, .int p1, .int p2]) (n := 3) (Nat.le_of_ble_eq_true rfl)
  rw [lg_entry_eq]
  generalize (lg_sl ([.ref o0, .int p1, .int p2]) ++ List.replicate (3 - (lg_sl ([.ref o0, .int p1, .int p2])).length) Slot.unset).toArray = ls at hl ⊢
  have hl : lv_has ls 3 [(0, .ref o0), (1, .int p1), (2, .int p2)] := hl
  have bp1 : ((-2147483648) ≤ p1.toInt ∧ p1.toInt ≤ 2147483647) := ⟨i32_lo _, i32_hi _⟩
  have bp2 : ((-2147483648) ≤ p2.toInt ∧ p2.toInt ≤ 2147483647) := ⟨i32_lo _, i32_hi _⟩
  have hfr0 : ∀ b, kd b ≠ 2 → f b = f b := fun _ _ => rfl
  have hfr2_4 : ∀ b, kd b = 2 → fldI (f b) 4 = fldI (f b) 4 := fun _ _ => rfl
  have hfr2_5 : ∀ b, kd b = 2 → fldI (f b) 5 = fldI (f b) 5 := fun _ _ => rfl
  have hfr2_7 : ∀ b, kd b = 2 → fldI (f b) 7 = fldI (f b) 7 := fun _ _ => rfl
  have hfr2_8 : ∀ b, kd b = 2 → fldI (f b) 8 = fldI (f b) 8 := fun _ _ => rfl
  have hrr2_0 : ∀ b, kd b = 2 → fldR (f b) 0 = fldR (f b) 0 := fun _ _ => rfl
  have hrr2_3 : ∀ b, kd b = 2 → fldR (f b) 3 = fldR (f b) 3 := fun _ _ => rfl
  refine lv_aload_n hx hb dX2_fail_0 rfl (lv_at hl 0 rfl) ?_
  refine lv_iload_n hx hb dX2_fail_1 rfl (lv_at hl 1 rfl) ?_
  obtain ⟨a_2, v_3, v_4, a_5, v_6, v_7, v_8, v_9, v_10, v_11, hfo_1, ⟨ma_2, ka_2⟩, ⟨ma_5, ka_5⟩, bv_6, bv_7, bv_8, bv_9, bv_10⟩ := un_2 (hG _ mo0) ko0
  have bv_3 : ((-2147483648) ≤ v_3.toInt ∧ v_3.toInt ≤ 2147483647) := ⟨i32_lo _, i32_hi _⟩
  have bv_4 : ((-2147483648) ≤ v_4.toInt ∧ v_4.toInt ≤ 2147483647) := ⟨i32_lo _, i32_hi _⟩
  have bv_11 : ((-2147483648) ≤ v_11.toInt ∧ v_11.toInt ≤ 2147483647) := ⟨i32_lo _, i32_hi _⟩
  refine tk_putP (D := (dC, dI)) (ci := 2) (v := .int p1) (ty := .int) (C := RX2) (T := TX2) (N := 10) hx hb hU inlX2 tyX2 tyX2_ok nmX2 hown hK hP hD hS mo0 hfo_1 rfl 1 (by decide) (hU _ wd_257) (fun _ h9 => h9) rfl (by decide +kernel) rfl rfl (Nat.le_of_ble_eq_true rfl) dX2_fail_2 (fun H locs hP hD hS => ?_)
  obtain ⟨f_13, ef_13⟩ : ∃ y : Nat → va_E, y = va_up f o0 (.inr (2, [.ref a_2, .int p1, .int v_4, .ref a_5, .int v_6, .int v_7, .int v_8, .int v_9, .int v_10, .int v_11])) := ⟨_, rfl⟩
  have hP : va_P (dC, dI) vwCl (va_pl L f_13) H := by rw [ef_13]; exact hP
  have hD : va_D (fun q => q ∈ L) (va_pl L f_13) := by rw [ef_13]; exact hD
  have hG : GI (okc cI cL cZ cR cG cH L kd) kd L f_13 := by rw [ef_13]; exact hG.set o0 (mk_2 ko0 ⟨a_2, p1, v_4, a_5, v_6, v_7, v_8, v_9, v_10, v_11, rfl, ⟨ma_2, ka_2⟩, ⟨ma_5, ka_5⟩, (by constructor <;> omega), (by constructor <;> omega), (by constructor <;> omega), (by constructor <;> omega), (by constructor <;> omega)⟩)
  have hfr0 : ∀ b, kd b ≠ 2 → f_13 b = f b := fun b q2 => (congrFun ef_13 b).trans ((up_ne (fun e9 => q2 (by rw [e9]; exact ko0))).trans (hfr0 b q2))
  have hfr2_4 : ∀ b, kd b = 2 → fldI (f_13 b) 4 = fldI (f b) 4 := fun b kb => ((congrArg (fun x => fldI x 4) (congrFun ef_13 b)).trans (fk_up (by rw [hfo_1]; rfl) b)).trans (hfr2_4 b kb)
  have hfr2_5 : ∀ b, kd b = 2 → fldI (f_13 b) 5 = fldI (f b) 5 := fun b kb => ((congrArg (fun x => fldI x 5) (congrFun ef_13 b)).trans (fk_up (by rw [hfo_1]; rfl) b)).trans (hfr2_5 b kb)
  have hfr2_7 : ∀ b, kd b = 2 → fldI (f_13 b) 7 = fldI (f b) 7 := fun b kb => ((congrArg (fun x => fldI x 7) (congrFun ef_13 b)).trans (fk_up (by rw [hfo_1]; rfl) b)).trans (hfr2_7 b kb)
  have hfr2_8 : ∀ b, kd b = 2 → fldI (f_13 b) 8 = fldI (f b) 8 := fun b kb => ((congrArg (fun x => fldI x 8) (congrFun ef_13 b)).trans (fk_up (by rw [hfo_1]; rfl) b)).trans (hfr2_8 b kb)
  have hrr2_0 : ∀ b, kd b = 2 → fldR (f_13 b) 0 = fldR (f b) 0 := fun b kb => ((congrArg (fun x => fldR x 0) (congrFun ef_13 b)).trans (fr_up (by rw [hfo_1]; rfl) b)).trans (hrr2_0 b kb)
  have hrr2_3 : ∀ b, kd b = 2 → fldR (f_13 b) 3 = fldR (f b) 3 := fun b kb => ((congrArg (fun x => fldR x 3) (congrFun ef_13 b)).trans (fr_up (by rw [hfo_1]; rfl) b)).trans (hrr2_3 b kb)
  have hfo_14 : f_13 o0 = .inr (2, [.ref a_2, .int p1, .int v_4, .ref a_5, .int v_6, .int v_7, .int v_8, .int v_9, .int v_10, .int v_11]) := by rw [ef_13]; exact up_self
  refine lv_aload_n hx hb dX2_fail_5 rfl (lv_at hl 0 rfl) ?_
  refine lv_iload_n hx hb dX2_fail_6 rfl (lv_at hl 2 rfl) ?_
  refine tk_putP (D := (dC, dI)) (ci := 2) (v := .int p2) (ty := .int) (C := RX2) (T := TX2) (N := 10) hx hb hU inlX2 tyX2 tyX2_ok nmX2 hown hK hP hD hS mo0 hfo_14 rfl 2 (by decide) (hU _ wd_151) (fun _ h9 => h9) rfl (by decide +kernel) rfl rfl (Nat.le_of_ble_eq_true rfl) dX2_fail_7 (fun H locs hP hD hS => ?_)
  obtain ⟨f_16, ef_16⟩ : ∃ y : Nat → va_E, y = va_up f_13 o0 (.inr (2, [.ref a_2, .int p1, .int p2, .ref a_5, .int v_6, .int v_7, .int v_8, .int v_9, .int v_10, .int v_11])) := ⟨_, rfl⟩
  have hP : va_P (dC, dI) vwCl (va_pl L f_16) H := by rw [ef_16]; exact hP
  have hD : va_D (fun q => q ∈ L) (va_pl L f_16) := by rw [ef_16]; exact hD
  have hG : GI (okc cI cL cZ cR cG cH L kd) kd L f_16 := by rw [ef_16]; exact hG.set o0 (mk_2 ko0 ⟨a_2, p1, p2, a_5, v_6, v_7, v_8, v_9, v_10, v_11, rfl, ⟨ma_2, ka_2⟩, ⟨ma_5, ka_5⟩, (by constructor <;> omega), (by constructor <;> omega), (by constructor <;> omega), (by constructor <;> omega), (by constructor <;> omega)⟩)
  have hfr0 : ∀ b, kd b ≠ 2 → f_16 b = f b := fun b q2 => (congrFun ef_16 b).trans ((up_ne (fun e9 => q2 (by rw [e9]; exact ko0))).trans (hfr0 b q2))
  have hfr2_4 : ∀ b, kd b = 2 → fldI (f_16 b) 4 = fldI (f b) 4 := fun b kb => ((congrArg (fun x => fldI x 4) (congrFun ef_16 b)).trans (fk_up (by rw [hfo_14]; rfl) b)).trans (hfr2_4 b kb)
  have hfr2_5 : ∀ b, kd b = 2 → fldI (f_16 b) 5 = fldI (f b) 5 := fun b kb => ((congrArg (fun x => fldI x 5) (congrFun ef_16 b)).trans (fk_up (by rw [hfo_14]; rfl) b)).trans (hfr2_5 b kb)
  have hfr2_7 : ∀ b, kd b = 2 → fldI (f_16 b) 7 = fldI (f b) 7 := fun b kb => ((congrArg (fun x => fldI x 7) (congrFun ef_16 b)).trans (fk_up (by rw [hfo_14]; rfl) b)).trans (hfr2_7 b kb)
  have hfr2_8 : ∀ b, kd b = 2 → fldI (f_16 b) 8 = fldI (f b) 8 := fun b kb => ((congrArg (fun x => fldI x 8) (congrFun ef_16 b)).trans (fk_up (by rw [hfo_14]; rfl) b)).trans (hfr2_8 b kb)
  have hrr2_0 : ∀ b, kd b = 2 → fldR (f_16 b) 0 = fldR (f b) 0 := fun b kb => ((congrArg (fun x => fldR x 0) (congrFun ef_16 b)).trans (fr_up (by rw [hfo_14]; rfl) b)).trans (hrr2_0 b kb)
  have hrr2_3 : ∀ b, kd b = 2 → fldR (f_16 b) 3 = fldR (f b) 3 := fun b kb => ((congrArg (fun x => fldR x 3) (congrFun ef_16 b)).trans (fr_up (by rw [hfo_14]; rfl) b)).trans (hrr2_3 b kb)
  have hfo_17 : f_16 o0 = .inr (2, [.ref a_2, .int p1, .int p2, .ref a_5, .int v_6, .int v_7, .int v_8, .int v_9, .int v_10, .int v_11]) := by rw [ef_16]; exact up_self
  refine lv_iconst (v := 0) hx hb dX2_fail_10 (by decide) ?_
  exact W.zret (v := 0) (ty := .boolean) hx hb hr rfl (fun t ht hW => ⟨⟨0, f_16, rfl, ⟨hG, (by decide), hfr0, hfr2_4, hfr2_5, hfr2_7, hfr2_8, hrr2_0, hrr2_3⟩, by rw [ht]; exact hP, va_K.moved hW.alike hK, pl_in hD⟩, hS.F ht⟩) hS.2.2 dX2_fail_11
set_option maxHeartbeats 8000000 in
set_option maxRecDepth 100000 in
theorem s_X2_isSmall (l : Launch) (D : va_G) (cI cL cZ cR cG cH : ClassId) (Z : zT) (kd : Nat → Nat) (L : List Nat) (f : Nat → va_E) (hG : GI (okc cI cL cZ cR cG cH L kd) kd L f) (p0 : Int32) : mPI l D cI cL cZ cR cG cH Z yX2_isSmall cX2_isSmall 1 (some .boolean) 0 0 [.int p0] L f (fun (r : Int32) (f9 : Nat → va_E) => f = f9 ∧ (0 ≤ r.toInt ∧ r.toInt ≤ 1) ∧ (r.toInt = 0 ∨ (97 ≤ p0.toInt ∧ p0.toInt ≤ 122))) := by
  obtain ⟨dC, dI⟩ := D
  refine Met.ofW (cc := cX2_isSmall) (maxL := 1) (ret := (some .boolean)) (by decide) rfl ?_
  intro p e s m args below meth c s₁ B hml hv
  obtain ⟨rfl, hP, hK, hD0, hN, hZ⟩ := hv
  have hx := B.exec
  have hb := B.bytes
  have hr := B.returns
  have hU : ∀ w ∈ wsU, w.before _ s = true := fun w h => atoms_spec (ws := wU yX2_isSmall cX2_isSmall 1 (some .boolean)) B.pre w (List.mem_cons_of_mem _ h)
  have hown : s.vm.findClass RX2 = some m.cls := findClass_of_methodNamed B.named
  have hlocks := B.notSynchronized
  have hD := pl_in hD0
  have hS : va_S (fun q => q ∈ L) s.heap s.heap [] := va_S.rf
  have hl := lv_entry ([.int p0]) (n := 1) (Nat.le_of_ble_eq_true rfl)
  rw [lg_entry_eq]
  generalize (lg_sl ([.int p0]) ++ List.replicate (1 - (lg_sl ([.int p0])).length) Slot.unset).toArray = ls at hl ⊢
  have hl : lv_has ls 1 [(0, .int p0)] := hl
  have bp0 : ((-2147483648) ≤ p0.toInt ∧ p0.toInt ≤ 2147483647) := ⟨i32_lo _, i32_hi _⟩
  refine lv_iload_n hx hb dX2_isSmall_0 rfl (lv_at hl 0 rfl) ?_
  refine lv_bipush (v := 97) hx hb dX2_isSmall_1 (by decide) ?_
  refine lv_icmp_lt (tgt := 16) hx hb dX2_isSmall_3 (by decide) (fun c_1 => ?_) (fun c_1 => ?_)
  · skip
    rw [Int32.lt_iff_toInt_lt, ti_97] at c_1
    refine lv_iconst (v := 0) hx hb dX2_isSmall_16 (by decide) ?_
    exact W.zret (v := 0) (ty := .boolean) hx hb hr rfl (fun t ht hW => ⟨⟨0, f, rfl, ⟨rfl, (by decide), (by (try rw [ti_0]) <;> omega)⟩, by rw [ht]; exact hP, va_K.moved hW.alike hK, pl_in hD⟩, hS.F ht⟩) hS.2.2 dX2_isSmall_17
  · skip
    rw [Int32.lt_iff_toInt_lt, ti_97] at c_1
    refine lv_iload_n hx hb dX2_isSmall_6 rfl (lv_at hl 0 rfl) ?_
    refine lv_bipush (v := 122) hx hb dX2_isSmall_7 (by decide) ?_
    refine lv_icmp_gt (tgt := 16) hx hb dX2_isSmall_9 (by decide) (fun c_2 => ?_) (fun c_2 => ?_)
    · skip
      rw [Int32.lt_iff_toInt_lt, ti_122] at c_2
      refine lv_iconst (v := 0) hx hb dX2_isSmall_16 (by decide) ?_
      exact W.zret (v := 0) (ty := .boolean) hx hb hr rfl (fun t ht hW => ⟨⟨0, f, rfl, ⟨rfl, (by decide), (by (try rw [ti_0]) <;> omega)⟩, by rw [ht]; exact hP, va_K.moved hW.alike hK, pl_in hD⟩, hS.F ht⟩) hS.2.2 dX2_isSmall_17
    · skip
      rw [Int32.lt_iff_toInt_lt, ti_122] at c_2
      refine lv_iconst (v := 1) hx hb dX2_isSmall_12 (by decide) ?_
      refine lv_goto (tgt := 17) hx hb dX2_isSmall_13 (by decide) ?_
      exact W.zret (v := 1) (ty := .boolean) hx hb hr rfl (fun t ht hW => ⟨⟨1, f, rfl, ⟨rfl, (by decide), (by (try rw [ti_1]) <;> omega)⟩, by rw [ht]; exact hP, va_K.moved hW.alike hK, pl_in hD⟩, hS.F ht⟩) hS.2.2 dX2_isSmall_17
set_option maxHeartbeats 8000000 in
set_option maxRecDepth 100000 in
theorem s_X2_isClass (l : Launch) (D : va_G) (cI cL cZ cR cG cH : ClassId) (Z : zT) (kd : Nat → Nat) (L : List Nat) (f : Nat → va_E) (hG : GI (okc cI cL cZ cR cG cH L kd) kd L f) (p0 : Int32) : mPI l D cI cL cZ cR cG cH Z yX2_isClass cX2_isClass 1 (some .boolean) 0 0 [.int p0] L f (fun (r : Int32) (f9 : Nat → va_E) => f = f9 ∧ (0 ≤ r.toInt ∧ r.toInt ≤ 1) ∧ (r.toInt = 0 ∨ (65 ≤ p0.toInt ∧ p0.toInt ≤ 70))) := by
  obtain ⟨dC, dI⟩ := D
  refine Met.ofW (cc := cX2_isClass) (maxL := 1) (ret := (some .boolean)) (by decide) rfl ?_
  intro p e s m args below meth c s₁ B hml hv
  obtain ⟨rfl, hP, hK, hD0, hN, hZ⟩ := hv
  have hx := B.exec
  have hb := B.bytes
  have hr := B.returns
  have hU : ∀ w ∈ wsU, w.before _ s = true := fun w h => atoms_spec (ws := wU yX2_isClass cX2_isClass 1 (some .boolean)) B.pre w (List.mem_cons_of_mem _ h)
  have hown : s.vm.findClass RX2 = some m.cls := findClass_of_methodNamed B.named
  have hlocks := B.notSynchronized
  have hD := pl_in hD0
  have hS : va_S (fun q => q ∈ L) s.heap s.heap [] := va_S.rf
  have hl := lv_entry ([.int p0]) (n := 1) (Nat.le_of_ble_eq_true rfl)
  rw [lg_entry_eq]
  generalize (lg_sl ([.int p0]) ++ List.replicate (1 - (lg_sl ([.int p0])).length) Slot.unset).toArray = ls at hl ⊢
  have hl : lv_has ls 1 [(0, .int p0)] := hl
  have bp0 : ((-2147483648) ≤ p0.toInt ∧ p0.toInt ≤ 2147483647) := ⟨i32_lo _, i32_hi _⟩
  refine lv_iload_n hx hb dX2_isClass_0 rfl (lv_at hl 0 rfl) ?_
  refine lv_bipush (v := 65) hx hb dX2_isClass_1 (by decide) ?_
  refine lv_icmp_lt (tgt := 16) hx hb dX2_isClass_3 (by decide) (fun c_1 => ?_) (fun c_1 => ?_)
  · skip
    rw [Int32.lt_iff_toInt_lt, ti_65] at c_1
    refine lv_iconst (v := 0) hx hb dX2_isClass_16 (by decide) ?_
    exact W.zret (v := 0) (ty := .boolean) hx hb hr rfl (fun t ht hW => ⟨⟨0, f, rfl, ⟨rfl, (by decide), (by (try rw [ti_0]) <;> omega)⟩, by rw [ht]; exact hP, va_K.moved hW.alike hK, pl_in hD⟩, hS.F ht⟩) hS.2.2 dX2_isClass_17
  · skip
    rw [Int32.lt_iff_toInt_lt, ti_65] at c_1
    refine lv_iload_n hx hb dX2_isClass_6 rfl (lv_at hl 0 rfl) ?_
    refine lv_bipush (v := 71) hx hb dX2_isClass_7 (by decide) ?_
    refine lv_icmp_ge (tgt := 16) hx hb dX2_isClass_9 (by decide) (fun c_2 => ?_) (fun c_2 => ?_)
    · skip
      rw [Int32.le_iff_toInt_le, ti_71] at c_2
      refine lv_iconst (v := 0) hx hb dX2_isClass_16 (by decide) ?_
      exact W.zret (v := 0) (ty := .boolean) hx hb hr rfl (fun t ht hW => ⟨⟨0, f, rfl, ⟨rfl, (by decide), (by (try rw [ti_0]) <;> omega)⟩, by rw [ht]; exact hP, va_K.moved hW.alike hK, pl_in hD⟩, hS.F ht⟩) hS.2.2 dX2_isClass_17
    · skip
      rw [Int32.le_iff_toInt_le, ti_71] at c_2
      refine lv_iconst (v := 1) hx hb dX2_isClass_12 (by decide) ?_
      refine lv_goto (tgt := 17) hx hb dX2_isClass_13 (by decide) ?_
      exact W.zret (v := 1) (ty := .boolean) hx hb hr rfl (fun t ht hW => ⟨⟨1, f, rfl, ⟨rfl, (by decide), (by (try rw [ti_1]) <;> omega)⟩, by rw [ht]; exact hP, va_K.moved hW.alike hK, pl_in hD⟩, hS.F ht⟩) hS.2.2 dX2_isClass_17
set_option maxHeartbeats 8000000 in
set_option maxRecDepth 100000 in
theorem s_X2_startsItem (l : Launch) (D : va_G) (cI cL cZ cR cG cH : ClassId) (Z : zT) (kd : Nat → Nat) (L : List Nat) (f : Nat → va_E) (hG : GI (okc cI cL cZ cR cG cH L kd) kd L f) (p0 : Int32) : mPI l D cI cL cZ cR cG cH Z yX2_startsItem cX2_startsItem 1 (some .boolean) 1 20 [.int p0] L f (fun (r : Int32) (f9 : Nat → va_E) => f = f9 ∧ (0 ≤ r.toInt ∧ r.toInt ≤ 1) ∧ (r.toInt = 0 ∨ (48 ≤ p0.toInt ∧ p0.toInt ≤ 122))) := by
  obtain ⟨dC, dI⟩ := D
  refine Met.ofW (cc := cX2_startsItem) (maxL := 1) (ret := (some .boolean)) (by decide) rfl ?_
  intro p e s m args below meth c s₁ B hml hv
  obtain ⟨rfl, hP, hK, hD0, hN, hZ⟩ := hv
  have hx := B.exec
  have hb := B.bytes
  have hr := B.returns
  have hU : ∀ w ∈ wsU, w.before _ s = true := fun w h => atoms_spec (ws := wU yX2_startsItem cX2_startsItem 1 (some .boolean)) B.pre w (List.mem_cons_of_mem _ h)
  have hown : s.vm.findClass RX2 = some m.cls := findClass_of_methodNamed B.named
  have hlocks := B.notSynchronized
  have hD := pl_in hD0
  have hS : va_S (fun q => q ∈ L) s.heap s.heap [] := va_S.rf
  have hl := lv_entry ([.int p0]) (n := 1) (Nat.le_of_ble_eq_true rfl)
  rw [lg_entry_eq]
  generalize (lg_sl ([.int p0]) ++ List.replicate (1 - (lg_sl ([.int p0])).length) Slot.unset).toArray = ls at hl ⊢
  have hl : lv_has ls 1 [(0, .int p0)] := hl
  have bp0 : ((-2147483648) ≤ p0.toInt ∧ p0.toInt ≤ 2147483647) := ⟨i32_lo _, i32_hi _⟩
  refine lv_iload_n hx hb dX2_startsItem_0 rfl (lv_at hl 0 rfl) ?_
  refine tk_SiP (As := [.int p0]) (rest := []) (n := 1) hx hb hml hown hU hN hZ (s_X2_isSmall l (dC, dI) cI cL cZ cR cG cH Z kd L f hG p0) wd_284 wd_285 wd_33 wd_286 (by decide +kernel) ⟨Nat.le_of_ble_eq_true rfl, Nat.le_of_ble_eq_true rfl⟩ hK hP hD hS rfl hl.1 rfl (Nat.le_of_ble_eq_true rfl) dX2_startsItem_1 ⟨Nat.le_of_ble_eq_true rfl, Nat.le_of_ble_eq_true rfl⟩ (fun x_1 f_2 H locs hw hP hD hS => ?_)
  obtain ⟨rfl, bx_1, relx_1⟩ := hw
  refine lv_if_ne (tgt := 26) hx hb dX2_startsItem_4 (by decide) (fun c_4 => ?_) (fun c_4 => ?_)
  · skip
    rw [← Int32.toInt_inj, ti_0] at c_4
    refine lv_iconst (v := 1) hx hb dX2_startsItem_26 (by decide) ?_
    refine lv_goto (tgt := 31) hx hb dX2_startsItem_27 (by decide) ?_
    exact W.zret (v := 1) (ty := .boolean) hx hb hr rfl (fun t ht hW => ⟨⟨1, f, rfl, ⟨rfl, (by decide), (by (try rw [ti_1]) <;> omega)⟩, by rw [ht]; exact hP, va_K.moved hW.alike hK, pl_in hD⟩, hS.F ht⟩) hS.2.2 dX2_startsItem_31
  · skip
    rw [← Int32.toInt_inj, ti_0] at c_4
    refine lv_iload_n hx hb dX2_startsItem_7 rfl (lv_at hl 0 rfl) ?_
    refine tk_SiP (As := [.int p0]) (rest := []) (n := 1) hx hb hml hown hU hN hZ (s_X2_isClass l (dC, dI) cI cL cZ cR cG cH Z kd L f hG p0) wd_366 wd_367 wd_33 wd_368 (by decide +kernel) ⟨Nat.le_of_ble_eq_true rfl, Nat.le_of_ble_eq_true rfl⟩ hK hP hD hS rfl hl.1 rfl (Nat.le_of_ble_eq_true rfl) dX2_startsItem_8 ⟨Nat.le_of_ble_eq_true rfl, Nat.le_of_ble_eq_true rfl⟩ (fun x_5 f_6 H locs hw hP hD hS => ?_)
    obtain ⟨rfl, bx_5, relx_5⟩ := hw
    refine lv_if_ne (tgt := 26) hx hb dX2_startsItem_11 (by decide) (fun c_8 => ?_) (fun c_8 => ?_)
    · skip
      rw [← Int32.toInt_inj, ti_0] at c_8
      refine lv_iconst (v := 1) hx hb dX2_startsItem_26 (by decide) ?_
      refine lv_goto (tgt := 31) hx hb dX2_startsItem_27 (by decide) ?_
      exact W.zret (v := 1) (ty := .boolean) hx hb hr rfl (fun t ht hW => ⟨⟨1, f, rfl, ⟨rfl, (by decide), (by (try rw [ti_1]) <;> omega)⟩, by rw [ht]; exact hP, va_K.moved hW.alike hK, pl_in hD⟩, hS.F ht⟩) hS.2.2 dX2_startsItem_31
    · skip
      rw [← Int32.toInt_inj, ti_0] at c_8
      refine lv_iload_n hx hb dX2_startsItem_14 rfl (lv_at hl 0 rfl) ?_
      refine lv_bipush (v := 48) hx hb dX2_startsItem_15 (by decide) ?_
      refine lv_icmp_eq (tgt := 26) hx hb dX2_startsItem_17 (by decide) (fun c_9 => ?_) (fun c_9 => ?_)
      · skip
        rw [← Int32.toInt_inj, ti_48] at c_9
        refine lv_iconst (v := 1) hx hb dX2_startsItem_26 (by decide) ?_
        refine lv_goto (tgt := 31) hx hb dX2_startsItem_27 (by decide) ?_
        exact W.zret (v := 1) (ty := .boolean) hx hb hr rfl (fun t ht hW => ⟨⟨1, f, rfl, ⟨rfl, (by decide), (by (try rw [ti_1]) <;> omega)⟩, by rw [ht]; exact hP, va_K.moved hW.alike hK, pl_in hD⟩, hS.F ht⟩) hS.2.2 dX2_startsItem_31
      · skip
        rw [← Int32.toInt_inj, ti_48] at c_9
        refine lv_iload_n hx hb dX2_startsItem_20 rfl (lv_at hl 0 rfl) ?_
        refine lv_bipush (v := 63) hx hb dX2_startsItem_21 (by decide) ?_
        refine lv_icmp_ne (tgt := 30) hx hb dX2_startsItem_23 (by decide) (fun c_10 => ?_) (fun c_10 => ?_)
        · skip
          rw [← Int32.toInt_inj, ti_63] at c_10
          refine lv_iconst (v := 0) hx hb dX2_startsItem_30 (by decide) ?_
          exact W.zret (v := 0) (ty := .boolean) hx hb hr rfl (fun t ht hW => ⟨⟨0, f, rfl, ⟨rfl, (by decide), (by (try rw [ti_0]) <;> omega)⟩, by rw [ht]; exact hP, va_K.moved hW.alike hK, pl_in hD⟩, hS.F ht⟩) hS.2.2 dX2_startsItem_31
        · skip
          rw [← Int32.toInt_inj, ti_63] at c_10
          refine lv_iconst (v := 1) hx hb dX2_startsItem_26 (by decide) ?_
          refine lv_goto (tgt := 31) hx hb dX2_startsItem_27 (by decide) ?_
          exact W.zret (v := 1) (ty := .boolean) hx hb hr rfl (fun t ht hW => ⟨⟨1, f, rfl, ⟨rfl, (by decide), (by (try rw [ti_1]) <;> omega)⟩, by rw [ht]; exact hP, va_K.moved hW.alike hK, pl_in hD⟩, hS.F ht⟩) hS.2.2 dX2_startsItem_31
set_option maxHeartbeats 8000000 in
set_option maxRecDepth 100000 in
theorem s_X2_peek_k2 (l : Launch) (D : va_G) (cI cL cZ cR cG cH : ClassId) (Z : zT) (kd : Nat → Nat) (L : List Nat) (f : Nat → va_E) (hG : GI (okc cI cL cZ cR cG cH L kd) kd L f) (o0 : Nat) (mo0 : o0 ∈ L) (ko0 : kd o0 = 2) : mPI l D cI cL cZ cR cG cH Z yX2_peek cX2_peek 1 (some .int) 0 0 [.ref o0] L f (fun (r : Int32) (f9 : Nat → va_E) => GI (okc cI cL cZ cR cG cH L kd) kd L f9 ∧ ((-2147483648) ≤ r.toInt ∧ r.toInt ≤ 2147483647) ∧ (∀ b, kd b ≠ 2 → f9 b = f b) ∧ (∀ b, kd b = 2 → fldI (f9 b) 4 = fldI (f b) 4) ∧ (∀ b, kd b = 2 → fldI (f9 b) 7 = fldI (f b) 7) ∧ (∀ b, kd b = 2 → fldI (f9 b) 8 = fldI (f b) 8) ∧ (∀ b, kd b = 2 → fldR (f9 b) 0 = fldR (f b) 0) ∧ (∀ b, kd b = 2 → fldR (f9 b) 3 = fldR (f b) 3) ∧ (∀ (w5 z5 : Int32), fldI (f o0) 5 = some w5 → fldI (f9 o0) 5 = some z5 → w5.toInt ≤ z5.toInt ∧ (r.toInt = -1 ∨ z5.toInt ≤ 599)) ∧ (∀ b9 g9 z9, fldR (f9 o0) 3 = some b9 → f9 b9 = .inl (cI, 600, .inl g9) → fldI (f9 o0) 5 = some z9 → r.toInt = -1 ∨ r = g9 (Int32.toNatClampNeg z9))) := by
  obtain ⟨dC, dI⟩ := D
  refine Met.ofW (cc := cX2_peek) (maxL := 1) (ret := (some .int)) (by decide) rfl ?_
  intro p e s m args below meth c s₁ B hml hv
  obtain ⟨rfl, hP, hK, hD0, hN, hZ⟩ := hv
  have hx := B.exec
  have hb := B.bytes
  have hr := B.returns
  have hU : ∀ w ∈ wsU, w.before _ s = true := fun w h => atoms_spec (ws := wU yX2_peek cX2_peek 1 (some .int)) B.pre w (List.mem_cons_of_mem _ h)
  have hown : s.vm.findClass RX2 = some m.cls := findClass_of_methodNamed B.named
  have hlocks := B.notSynchronized
  have hD := pl_in hD0
  have hS : va_S (fun q => q ∈ L) s.heap s.heap [] := va_S.rf
  have hl := lv_entry ([.ref o0]) (n := 1) (Nat.le_of_ble_eq_true rfl)
  rw [lg_entry_eq]
  generalize (lg_sl ([.ref o0]) ++ List.replicate (1 - (lg_sl ([.ref o0])).length) Slot.unset).toArray = ls at hl ⊢
  have hl : lv_has ls 1 [(0, .ref o0)] := hl
  have hfr0 : ∀ b, kd b ≠ 2 → f b = f b := fun _ _ => rfl
  have hfr2_4 : ∀ b, kd b = 2 → fldI (f b) 4 = fldI (f b) 4 := fun _ _ => rfl
  have hfr2_7 : ∀ b, kd b = 2 → fldI (f b) 7 = fldI (f b) 7 := fun _ _ => rfl
  have hfr2_8 : ∀ b, kd b = 2 → fldI (f b) 8 = fldI (f b) 8 := fun _ _ => rfl
  have hrr2_0 : ∀ b, kd b = 2 → fldR (f b) 0 = fldR (f b) 0 := fun _ _ => rfl
  have hrr2_3 : ∀ b, kd b = 2 → fldR (f b) 3 = fldR (f b) 3 := fun _ _ => rfl
  obtain ⟨a_2, v_3, v_4, a_5, v_6, v_7, v_8, v_9, v_10, v_11, hfo_1, ⟨ma_2, ka_2⟩, ⟨ma_5, ka_5⟩, bv_6, bv_7, bv_8, bv_9, bv_10⟩ := un_2 (hG _ mo0) ko0
  have bv_3 : ((-2147483648) ≤ v_3.toInt ∧ v_3.toInt ≤ 2147483647) := ⟨i32_lo _, i32_hi _⟩
  have bv_4 : ((-2147483648) ≤ v_4.toInt ∧ v_4.toInt ≤ 2147483647) := ⟨i32_lo _, i32_hi _⟩
  have bv_11 : ((-2147483648) ≤ v_11.toInt ∧ v_11.toInt ≤ 2147483647) := ⟨i32_lo _, i32_hi _⟩
  have hloop_16 : ∀ (n : Nat), ∀ (f_18 : Nat → va_E), GI (okc cI cL cZ cR cG cH L kd) kd L f_18 → ∀ (H : Heap) (locs : List Loc), va_P (dC, dI) vwCl (va_pl L f_18) H → va_S (fun q => q ∈ L) s.heap H locs → va_D (fun q => q ∈ L) (va_pl L f_18) → (∀ b, kd b ≠ 2 → f_18 b = f b) → (∀ b, kd b = 2 → fldI (f_18 b) 4 = fldI (f b) 4) → (∀ b, kd b = 2 → fldI (f_18 b) 7 = fldI (f b) 7) → (∀ b, kd b = 2 → fldI (f_18 b) 8 = fldI (f b) 8) → (∀ b, kd b = 2 → fldR (f_18 b) 0 = fldR (f b) 0) → (∀ b, kd b = 2 → fldR (f_18 b) 3 = fldR (f b) 3) → ∀ (whloop_16_0_5 : Int32), fldI (f_18 o0) 5 = some whloop_16_0_5 → (v_7.toInt ≤ whloop_16_0_5.toInt) → (0 ≤ whloop_16_0_5.toInt ∧ whloop_16_0_5.toInt ≤ 600) → 600 - whloop_16_0_5.toInt < (n : Int) → ∀ (ls : Array Slot), lv_has ls 1 [(0, .ref o0)] → W p l e (headSpec (wU yX2_peek cX2_peek 1 (some .int)) { frames := 0, cells := 0, slots := 0, locals := 0 }).room s m [.ref o0].toArray below meth c H locs 0 0 (MQ below (va_Qi (fun (r : Int32) (f9 : Nat → va_E) => GI (okc cI cL cZ cR cG cH L kd) kd L f9 ∧ ((-2147483648) ≤ r.toInt ∧ r.toInt ≤ 2147483647) ∧ (∀ b, kd b ≠ 2 → f9 b = f b) ∧ (∀ b, kd b = 2 → fldI (f9 b) 4 = fldI (f b) 4) ∧ (∀ b, kd b = 2 → fldI (f9 b) 7 = fldI (f b) 7) ∧ (∀ b, kd b = 2 → fldI (f9 b) 8 = fldI (f b) 8) ∧ (∀ b, kd b = 2 → fldR (f9 b) 0 = fldR (f b) 0) ∧ (∀ b, kd b = 2 → fldR (f9 b) 3 = fldR (f b) 3) ∧ (∀ (w5 z5 : Int32), fldI (f o0) 5 = some w5 → fldI (f9 o0) 5 = some z5 → w5.toInt ≤ z5.toInt ∧ (r.toInt = -1 ∨ z5.toInt ≤ 599)) ∧ (∀ b9 g9 z9, fldR (f9 o0) 3 = some b9 → f9 b9 = .inl (cI, 600, .inl g9) → fldI (f9 o0) 5 = some z9 → r.toInt = -1 ∨ r = g9 (Int32.toNatClampNeg z9))) (qP (dC, dI) cI cL cZ cR cG cH L) (fun q => q ∈ L)) [.ref o0].toArray s 0 0 (fun q => q ∈ L)) (F0 m 0 ls []) := by
    intro n
    induction n with
    | zero => intro f_18 hG H locs hP hS hD hfr0 hfr2_4 hfr2_7 hfr2_8 hrr2_0 hrr2_3 whloop_16_0_5 hghloop_16_0_5 hrelhloop_16_0 hrelhloop_16_1 hmuhloop_16 ls hl; exfalso; omega
    | succ n ih_hloop_16 =>
      intro f_18 hG H locs hP hS hD hfr0 hfr2_4 hfr2_7 hfr2_8 hrr2_0 hrr2_3 whloop_16_0_5 hghloop_16_0_5 hrelhloop_16_0 hrelhloop_16_1 hmuhloop_16 ls hl
      obtain ⟨a_20, v_21, v_22, a_23, v_24, v_25, v_26, v_27, v_28, v_29, hfo_19, ⟨ma_20, ka_20⟩, ⟨ma_23, ka_23⟩, bv_24, bv_25, bv_26, bv_27, bv_28⟩ := un_2 (hG _ mo0) ko0
      have bv_21 : ((-2147483648) ≤ v_21.toInt ∧ v_21.toInt ≤ 2147483647) := ⟨i32_lo _, i32_hi _⟩
      have bv_22 : ((-2147483648) ≤ v_22.toInt ∧ v_22.toInt ≤ 2147483647) := ⟨i32_lo _, i32_hi _⟩
      have bv_29 : ((-2147483648) ≤ v_29.toInt ∧ v_29.toInt ≤ 2147483647) := ⟨i32_lo _, i32_hi _⟩
      obtain rfl : a_2 = a_20 := by have hk9 := hrr2_0 o0 ko0; rw [hfo_19, hfo_1] at hk9; exact (Option.some.inj hk9).symm
      obtain rfl : a_5 = a_23 := by have hk9 := hrr2_3 o0 ko0; rw [hfo_19, hfo_1] at hk9; exact (Option.some.inj hk9).symm
      obtain rfl : v_25 = whloop_16_0_5 := by rw [hfo_19] at hghloop_16_0_5; exact Option.some.inj hghloop_16_0_5
      refine lv_aload_n hx hb dX2_peek_0 rfl (lv_at hl 0 rfl) ?_
      refine tk_getP (D := (dC, dI)) (ci := 2) (v := .int v_25) (C := RX2) (T := TX2) (N := 10) hx hb hU inlX2 hown hK hP mo0 hfo_19 rfl 5 (by decide) (hU _ wd_256) (fun _ h9 => h9) rfl dX2_peek_1 ?_
      refine lv_aload_n hx hb dX2_peek_4 rfl (lv_at hl 0 rfl) ?_
      refine tk_getP (D := (dC, dI)) (ci := 2) (v := .int v_24) (C := RX2) (T := TX2) (N := 10) hx hb hU inlX2 hown hK hP mo0 hfo_19 rfl 4 (by decide) (hU _ wd_251) (fun _ h9 => h9) rfl dX2_peek_5 ?_
      have hcut_30 : ∀ (ls : Array Slot), lv_has ls 1 [(0, .ref o0)] → W p l e (headSpec (wU yX2_peek cX2_peek 1 (some .int)) { frames := 0, cells := 0, slots := 0, locals := 0 }).room s m [.ref o0].toArray below meth c H locs 0 0 (MQ below (va_Qi (fun (r : Int32) (f9 : Nat → va_E) => GI (okc cI cL cZ cR cG cH L kd) kd L f9 ∧ ((-2147483648) ≤ r.toInt ∧ r.toInt ≤ 2147483647) ∧ (∀ b, kd b ≠ 2 → f9 b = f b) ∧ (∀ b, kd b = 2 → fldI (f9 b) 4 = fldI (f b) 4) ∧ (∀ b, kd b = 2 → fldI (f9 b) 7 = fldI (f b) 7) ∧ (∀ b, kd b = 2 → fldI (f9 b) 8 = fldI (f b) 8) ∧ (∀ b, kd b = 2 → fldR (f9 b) 0 = fldR (f b) 0) ∧ (∀ b, kd b = 2 → fldR (f9 b) 3 = fldR (f b) 3) ∧ (∀ (w5 z5 : Int32), fldI (f o0) 5 = some w5 → fldI (f9 o0) 5 = some z5 → w5.toInt ≤ z5.toInt ∧ (r.toInt = -1 ∨ z5.toInt ≤ 599)) ∧ (∀ b9 g9 z9, fldR (f9 o0) 3 = some b9 → f9 b9 = .inl (cI, 600, .inl g9) → fldI (f9 o0) 5 = some z9 → r.toInt = -1 ∨ r = g9 (Int32.toNatClampNeg z9))) (qP (dC, dI) cI cL cZ cR cG cH L) (fun q => q ∈ L)) [.ref o0].toArray s 0 0 (fun q => q ∈ L)) (F0 m 52 ls []) := by
        intro ls hl
        refine lv_aload_n hx hb dX2_peek_52 rfl (lv_at hl 0 rfl) ?_
        refine tk_getP (D := (dC, dI)) (ci := 2) (v := .int v_25) (C := RX2) (T := TX2) (N := 10) hx hb hU inlX2 hown hK hP mo0 hfo_19 rfl 5 (by decide) (hU _ wd_256) (fun _ h9 => h9) rfl dX2_peek_53 ?_
        refine lv_aload_n hx hb dX2_peek_56 rfl (lv_at hl 0 rfl) ?_
        refine tk_getP (D := (dC, dI)) (ci := 2) (v := .int v_24) (C := RX2) (T := TX2) (N := 10) hx hb hU inlX2 hown hK hP mo0 hfo_19 rfl 4 (by decide) (hU _ wd_251) (fun _ h9 => h9) rfl dX2_peek_57 ?_
        refine lv_icmp_ge (tgt := 75) hx hb dX2_peek_60 (by decide) (fun c_31 => ?_) (fun c_31 => ?_)
        · skip
          rw [Int32.le_iff_toInt_le] at c_31
          refine lv_iconst (v := (-1)) hx hb dX2_peek_75 (by decide) ?_
          exact W.iret (v := (-1)) hx hb hr (fun t ht hW => ⟨⟨(-1), f_18, rfl, ⟨hG, (by decide), hfr0, hfr2_4, hfr2_7, hfr2_8, hrr2_0, hrr2_3, (by intro w5 z5 e5 d5; rw [hfo_1] at e5; rw [hfo_19] at d5; obtain rfl := Option.some.inj e5; obtain rfl := Option.some.inj d5; (try rw [ti_m1]) <;> omega), (fun _ _ _ _ _ _ => Or.inl (by decide))⟩, by rw [ht]; exact hP, va_K.moved hW.alike hK, pl_in hD⟩, hS.F ht⟩) hS.2.2 dX2_peek_76
        · skip
          rw [Int32.le_iff_toInt_le] at c_31
          refine lv_aload_n hx hb dX2_peek_63 rfl (lv_at hl 0 rfl) ?_
          refine tk_getP (D := (dC, dI)) (ci := 2) (v := .ref a_5) (C := RX2) (T := TX2) (N := 10) hx hb hU inlX2 hown hK hP mo0 hfo_19 rfl 3 (by decide) (hU _ wd_152) (fun _ h9 => h9) rfl dX2_peek_64 ?_
          refine lv_aload_n hx hb dX2_peek_67 rfl (lv_at hl 0 rfl) ?_
          refine tk_getP (D := (dC, dI)) (ci := 2) (v := .int v_25) (C := RX2) (T := TX2) (N := 10) hx hb hU inlX2 hown hK hP mo0 hfo_19 rfl 5 (by decide) (hU _ wd_256) (fun _ h9 => h9) rfl dX2_peek_68 ?_
          obtain ⟨g_33, hfo_32, hbg_33⟩ := un_533 (hG _ ma_5) ka_5
          refine tk_ildP hx hb hK hP 0 ma_5 hfo_32 rfl (vp_in_iff.mpr (by constructor <;> omega)) dX2_peek_71 ?_
          refine lv_topi (fun x_34 ex_34 => ?_)
          have bx_34 : ((-2147483648) ≤ x_34.toInt ∧ x_34.toInt ≤ 2147483647) := ⟨i32_lo _, i32_hi _⟩
          refine lv_goto (tgt := 76) hx hb dX2_peek_72 (by decide) ?_
          exact W.iret (v := x_34) hx hb hr (fun t ht hW => ⟨⟨x_34, f_18, rfl, ⟨hG, (by constructor <;> omega), hfr0, hfr2_4, hfr2_7, hfr2_8, hrr2_0, hrr2_3, (by intro w5 z5 e5 d5; rw [hfo_1] at e5; rw [hfo_19] at d5; obtain rfl := Option.some.inj e5; obtain rfl := Option.some.inj d5; omega), (fun b9 g9 z9 h1 h2 h3 => Or.inr (by rw [hfo_19] at h1 h3; obtain rfl := Option.some.inj h1; obtain rfl := Option.some.inj h3; rw [hfo_32] at h2; cases h2; exact ex_34))⟩, by rw [ht]; exact hP, va_K.moved hW.alike hK, pl_in hD⟩, hS.F ht⟩) hS.2.2 dX2_peek_76
      refine lv_icmp_ge (tgt := 52) hx hb dX2_peek_8 (by decide) (fun c_35 => ?_) (fun c_35 => ?_)
      · skip
        rw [Int32.le_iff_toInt_le] at c_35
        exact hcut_30 ls (lv_sub hl [0] rfl)
      · skip
        rw [Int32.le_iff_toInt_le] at c_35
        refine lv_aload_n hx hb dX2_peek_11 rfl (lv_at hl 0 rfl) ?_
        refine tk_getP (D := (dC, dI)) (ci := 2) (v := .ref a_5) (C := RX2) (T := TX2) (N := 10) hx hb hU inlX2 hown hK hP mo0 hfo_19 rfl 3 (by decide) (hU _ wd_152) (fun _ h9 => h9) rfl dX2_peek_12 ?_
        refine lv_aload_n hx hb dX2_peek_15 rfl (lv_at hl 0 rfl) ?_
        refine tk_getP (D := (dC, dI)) (ci := 2) (v := .int v_25) (C := RX2) (T := TX2) (N := 10) hx hb hU inlX2 hown hK hP mo0 hfo_19 rfl 5 (by decide) (hU _ wd_256) (fun _ h9 => h9) rfl dX2_peek_16 ?_
        obtain ⟨g_37, hfo_36, hbg_37⟩ := un_533 (hG _ ma_5) ka_5
        refine tk_ildP hx hb hK hP 0 ma_5 hfo_36 rfl (vp_in_iff.mpr (by constructor <;> omega)) dX2_peek_19 ?_
        refine lv_topi (fun x_38 ex_38 => ?_)
        have bx_38 : ((-2147483648) ≤ x_38.toInt ∧ x_38.toInt ≤ 2147483647) := ⟨i32_lo _, i32_hi _⟩
        refine lv_bipush (v := 32) hx hb dX2_peek_20 (by decide) ?_
        refine lv_icmp_eq (tgt := 39) hx hb dX2_peek_22 (by decide) (fun c_39 => ?_) (fun c_39 => ?_)
        · skip
          rw [← Int32.toInt_inj, ti_32] at c_39
          refine lv_aload_n hx hb dX2_peek_39 rfl (lv_at hl 0 rfl) ?_
          refine lv_dup hx hb dX2_peek_40 rfl ?_
          refine tk_getP (D := (dC, dI)) (ci := 2) (v := .int v_25) (C := RX2) (T := TX2) (N := 10) hx hb hU inlX2 hown hK hP mo0 hfo_19 rfl 5 (by decide) (hU _ wd_256) (fun _ h9 => h9) rfl dX2_peek_41 ?_
          refine lv_iconst (v := 1) hx hb dX2_peek_44 (by decide) ?_
          refine lv_iadd hx hb dX2_peek_45 ?_
          refine lv_topi (fun x_40 ex_40 => ?_)
          have hx_40 : x_40.toInt = v_25.toInt + 1 := by rw [ex_40, ad_I (by rw [ti_1]; omega) (by rw [ti_1]; omega), ti_1]
          have bx_40 : (1 ≤ x_40.toInt ∧ x_40.toInt ≤ 600) := by constructor <;> omega
          refine tk_putP (D := (dC, dI)) (ci := 2) (v := .int x_40) (ty := .int) (C := RX2) (T := TX2) (N := 10) hx hb hU inlX2 tyX2 tyX2_ok nmX2 hown hK hP hD hS mo0 hfo_19 rfl 5 (by decide) (hU _ wd_256) (fun _ h9 => h9) rfl (by decide +kernel) rfl rfl (Nat.le_of_ble_eq_true rfl) dX2_peek_46 (fun H locs hP hD hS => ?_)
          obtain ⟨f_42, ef_42⟩ : ∃ y : Nat → va_E, y = va_up f_18 o0 (.inr (2, [.ref a_2, .int v_21, .int v_22, .ref a_5, .int v_24, .int x_40, .int v_26, .int v_27, .int v_28, .int v_29])) := ⟨_, rfl⟩
          have hP : va_P (dC, dI) vwCl (va_pl L f_42) H := by rw [ef_42]; exact hP
          have hD : va_D (fun q => q ∈ L) (va_pl L f_42) := by rw [ef_42]; exact hD
          have hG : GI (okc cI cL cZ cR cG cH L kd) kd L f_42 := by rw [ef_42]; exact hG.set o0 (mk_2 ko0 ⟨a_2, v_21, v_22, a_5, v_24, x_40, v_26, v_27, v_28, v_29, rfl, ⟨ma_2, ka_2⟩, ⟨ma_5, ka_5⟩, (by constructor <;> omega), (by constructor <;> omega), (by constructor <;> omega), (by constructor <;> omega), (by constructor <;> omega)⟩)
          have hfo_43 : f_42 a_5 = .inl (cI, 600, .inl g_37) := by rw [ef_42, up_ne (kd_ne ko0 ka_5 (by decide))]; exact hfo_36
          have hfr0 : ∀ b, kd b ≠ 2 → f_42 b = f b := fun b q2 => (congrFun ef_42 b).trans ((up_ne (fun e9 => q2 (by rw [e9]; exact ko0))).trans (hfr0 b q2))
          have hfr2_4 : ∀ b, kd b = 2 → fldI (f_42 b) 4 = fldI (f b) 4 := fun b kb => ((congrArg (fun x => fldI x 4) (congrFun ef_42 b)).trans (fk_up (by rw [hfo_19]; rfl) b)).trans (hfr2_4 b kb)
          have hfr2_7 : ∀ b, kd b = 2 → fldI (f_42 b) 7 = fldI (f b) 7 := fun b kb => ((congrArg (fun x => fldI x 7) (congrFun ef_42 b)).trans (fk_up (by rw [hfo_19]; rfl) b)).trans (hfr2_7 b kb)
          have hfr2_8 : ∀ b, kd b = 2 → fldI (f_42 b) 8 = fldI (f b) 8 := fun b kb => ((congrArg (fun x => fldI x 8) (congrFun ef_42 b)).trans (fk_up (by rw [hfo_19]; rfl) b)).trans (hfr2_8 b kb)
          have hrr2_0 : ∀ b, kd b = 2 → fldR (f_42 b) 0 = fldR (f b) 0 := fun b kb => ((congrArg (fun x => fldR x 0) (congrFun ef_42 b)).trans (fr_up (by rw [hfo_19]; rfl) b)).trans (hrr2_0 b kb)
          have hrr2_3 : ∀ b, kd b = 2 → fldR (f_42 b) 3 = fldR (f b) 3 := fun b kb => ((congrArg (fun x => fldR x 3) (congrFun ef_42 b)).trans (fr_up (by rw [hfo_19]; rfl) b)).trans (hrr2_3 b kb)
          have hfo_44 : f_42 o0 = .inr (2, [.ref a_2, .int v_21, .int v_22, .ref a_5, .int v_24, .int x_40, .int v_26, .int v_27, .int v_28, .int v_29]) := by rw [ef_42]; exact up_self
          refine lv_goto (tgt := 0) hx hb dX2_peek_49 (by decide) ?_
          exact ih_hloop_16 f_42 hG _ _ hP hS hD hfr0 hfr2_4 hfr2_7 hfr2_8 hrr2_0 hrr2_3 x_40 (by rw [hfo_44]; rfl) (by omega) (by omega) (by omega) ls (lv_sub hl [0] rfl)
        · skip
          rw [← Int32.toInt_inj, ti_32] at c_39
          refine lv_aload_n hx hb dX2_peek_25 rfl (lv_at hl 0 rfl) ?_
          refine tk_getP (D := (dC, dI)) (ci := 2) (v := .ref a_5) (C := RX2) (T := TX2) (N := 10) hx hb hU inlX2 hown hK hP mo0 hfo_19 rfl 3 (by decide) (hU _ wd_152) (fun _ h9 => h9) rfl dX2_peek_26 ?_
          refine lv_aload_n hx hb dX2_peek_29 rfl (lv_at hl 0 rfl) ?_
          refine tk_getP (D := (dC, dI)) (ci := 2) (v := .int v_25) (C := RX2) (T := TX2) (N := 10) hx hb hU inlX2 hown hK hP mo0 hfo_19 rfl 5 (by decide) (hU _ wd_256) (fun _ h9 => h9) rfl dX2_peek_30 ?_
          refine tk_ildP hx hb hK hP 0 ma_5 hfo_36 rfl (vp_in_iff.mpr (by constructor <;> omega)) dX2_peek_33 ?_
          refine tk_topi (y := x_38) ex_38.symm ?_
          refine lv_bipush (v := 10) hx hb dX2_peek_34 (by decide) ?_
          refine lv_icmp_ne (tgt := 52) hx hb dX2_peek_36 (by decide) (fun c_45 => ?_) (fun c_45 => ?_)
          · skip
            rw [← Int32.toInt_inj, ti_10] at c_45
            exact hcut_30 ls (lv_sub hl [0] rfl)
          · skip
            rw [← Int32.toInt_inj, ti_10] at c_45
            refine lv_aload_n hx hb dX2_peek_39 rfl (lv_at hl 0 rfl) ?_
            refine lv_dup hx hb dX2_peek_40 rfl ?_
            refine tk_getP (D := (dC, dI)) (ci := 2) (v := .int v_25) (C := RX2) (T := TX2) (N := 10) hx hb hU inlX2 hown hK hP mo0 hfo_19 rfl 5 (by decide) (hU _ wd_256) (fun _ h9 => h9) rfl dX2_peek_41 ?_
            refine lv_iconst (v := 1) hx hb dX2_peek_44 (by decide) ?_
            refine lv_iadd hx hb dX2_peek_45 ?_
            refine lv_topi (fun x_46 ex_46 => ?_)
            have hx_46 : x_46.toInt = v_25.toInt + 1 := by rw [ex_46, ad_I (by rw [ti_1]; omega) (by rw [ti_1]; omega), ti_1]
            have bx_46 : (1 ≤ x_46.toInt ∧ x_46.toInt ≤ 600) := by constructor <;> omega
            refine tk_putP (D := (dC, dI)) (ci := 2) (v := .int x_46) (ty := .int) (C := RX2) (T := TX2) (N := 10) hx hb hU inlX2 tyX2 tyX2_ok nmX2 hown hK hP hD hS mo0 hfo_19 rfl 5 (by decide) (hU _ wd_256) (fun _ h9 => h9) rfl (by decide +kernel) rfl rfl (Nat.le_of_ble_eq_true rfl) dX2_peek_46 (fun H locs hP hD hS => ?_)
            obtain ⟨f_48, ef_48⟩ : ∃ y : Nat → va_E, y = va_up f_18 o0 (.inr (2, [.ref a_2, .int v_21, .int v_22, .ref a_5, .int v_24, .int x_46, .int v_26, .int v_27, .int v_28, .int v_29])) := ⟨_, rfl⟩
            have hP : va_P (dC, dI) vwCl (va_pl L f_48) H := by rw [ef_48]; exact hP
            have hD : va_D (fun q => q ∈ L) (va_pl L f_48) := by rw [ef_48]; exact hD
            have hG : GI (okc cI cL cZ cR cG cH L kd) kd L f_48 := by rw [ef_48]; exact hG.set o0 (mk_2 ko0 ⟨a_2, v_21, v_22, a_5, v_24, x_46, v_26, v_27, v_28, v_29, rfl, ⟨ma_2, ka_2⟩, ⟨ma_5, ka_5⟩, (by constructor <;> omega), (by constructor <;> omega), (by constructor <;> omega), (by constructor <;> omega), (by constructor <;> omega)⟩)
            have hfo_49 : f_48 a_5 = .inl (cI, 600, .inl g_37) := by rw [ef_48, up_ne (kd_ne ko0 ka_5 (by decide))]; exact hfo_36
            have hfr0 : ∀ b, kd b ≠ 2 → f_48 b = f b := fun b q2 => (congrFun ef_48 b).trans ((up_ne (fun e9 => q2 (by rw [e9]; exact ko0))).trans (hfr0 b q2))
            have hfr2_4 : ∀ b, kd b = 2 → fldI (f_48 b) 4 = fldI (f b) 4 := fun b kb => ((congrArg (fun x => fldI x 4) (congrFun ef_48 b)).trans (fk_up (by rw [hfo_19]; rfl) b)).trans (hfr2_4 b kb)
            have hfr2_7 : ∀ b, kd b = 2 → fldI (f_48 b) 7 = fldI (f b) 7 := fun b kb => ((congrArg (fun x => fldI x 7) (congrFun ef_48 b)).trans (fk_up (by rw [hfo_19]; rfl) b)).trans (hfr2_7 b kb)
            have hfr2_8 : ∀ b, kd b = 2 → fldI (f_48 b) 8 = fldI (f b) 8 := fun b kb => ((congrArg (fun x => fldI x 8) (congrFun ef_48 b)).trans (fk_up (by rw [hfo_19]; rfl) b)).trans (hfr2_8 b kb)
            have hrr2_0 : ∀ b, kd b = 2 → fldR (f_48 b) 0 = fldR (f b) 0 := fun b kb => ((congrArg (fun x => fldR x 0) (congrFun ef_48 b)).trans (fr_up (by rw [hfo_19]; rfl) b)).trans (hrr2_0 b kb)
            have hrr2_3 : ∀ b, kd b = 2 → fldR (f_48 b) 3 = fldR (f b) 3 := fun b kb => ((congrArg (fun x => fldR x 3) (congrFun ef_48 b)).trans (fr_up (by rw [hfo_19]; rfl) b)).trans (hrr2_3 b kb)
            have hfo_50 : f_48 o0 = .inr (2, [.ref a_2, .int v_21, .int v_22, .ref a_5, .int v_24, .int x_46, .int v_26, .int v_27, .int v_28, .int v_29]) := by rw [ef_48]; exact up_self
            refine lv_goto (tgt := 0) hx hb dX2_peek_49 (by decide) ?_
            exact ih_hloop_16 f_48 hG _ _ hP hS hD hfr0 hfr2_4 hfr2_7 hfr2_8 hrr2_0 hrr2_3 x_46 (by rw [hfo_50]; rfl) (by omega) (by omega) (by omega) ls (lv_sub hl [0] rfl)
  exact hloop_16 601 f hG _ _ hP hS hD hfr0 hfr2_4 hfr2_7 hfr2_8 hrr2_0 hrr2_3 v_7 (by rw [hfo_1]; rfl) (by omega) (by omega) (by omega) ls hl
