set_option maxHeartbeats 8000000 in
set_option maxRecDepth 100000 in
theorem law_fits {p : Program} {l : Launch} {e : Env} {s : State} {m : MethodId} {below : List Frame} {meth : Method} {c : Code} {dC : Nat → ClassId} {dI : Nat → Nat → Nat} {cI cL cZ : ClassId} {b : Nat} {xs : Nat → Int32} (C0 : lw_At p s m meth c b 6 xs) (hK : va_K (dC, dI) vwCl (TYS cI cL cZ) s) (hN : nsW s) {A : Nat → Prop} (hA : ∀ q, s.heap.size ≤ q → A q) (hAe : A = fun q : Nat => s.heap.size ≤ q) (x0 m0 x1 x2 x3 x4 x5 x6 x7 x8 x9 x10 x11 x12 x13 x22 x23 x24 x25 x26 x27 x28 x29 x30 x31 x32 x33 x34 x40 x41 x42 x43 x44 x45 x46 x47 m1 m2 m3 m4 m5 m6 m7 m8 m9 m10 m11 m12 m13 m14 m15 m16 m17 m18 m19 m20 m21 m22 m23 m24 m25 m26 m27 m28 m29 m30 m31 : Nat) {H : Heap} {locs : List Loc} (hP : va_P (dC, dI) vwCl [(x0, .inr (11, [.ref x1, .int 0, .ref x2, .ref x3, .ref x4, .ref x5, .ref x6, .ref x7, .int 0, .ref x8, .ref x9, .ref x10, .int 0, .int (-1), .ref x11, .int 0, .ref x12, .ref x13, .int 0])), (x3, .inr (7, [.ref x22, .int 0, .ref x23, .ref x24, .ref x25, .ref x26, .int 0, .ref x27, .ref x28, .ref x29, .ref x30, .ref x31, .int 0, .ref x32, .ref x33, .ref x34])), (x5, .inr (6, [.int 0, .int 1, .ref x40, .ref x41, .ref x42, .int 0, .ref x43, .ref x44, .ref x45])), (x41, .inr (9, [.ref x46, .ref x47, .int 0])), (m0, .inr (12, [.ref m1, .ref m2, .ref m3, .int 0, .ref m4, .int 0, .int 0, .int 0, .int 0, .int 0, .int (-1), .int 0, .int 0, .int 0, .int 0, .ref m5, .ref m6, .ref m7, .ref m8, .ref m9, .ref m10, .ref m11, .ref m12, .int 0, .int 0, .int 0, .int 0, .int 0, .ref m13, .int 0, .ref m14, .ref m15, .int 0, .int 0, .ref m16, .int 0, .ref m17, .ref m18, .int 0, .int (-1), .ref m19, .ref m20, .ref m21, .int 0, .ref m22, .ref m23, .ref m24, .ref m25, .ref m26, .ref m27, .ref m28, .ref m29, .ref m30, .int 0, .int 0, .ref m31])), (m1, .inl (cI, 1560, .inl w0))] H) (hD : va_D A [(x0, .inr (11, [.ref x1, .int 0, .ref x2, .ref x3, .ref x4, .ref x5, .ref x6, .ref x7, .int 0, .ref x8, .ref x9, .ref x10, .int 0, .int (-1), .ref x11, .int 0, .ref x12, .ref x13, .int 0])), (x3, .inr (7, [.ref x22, .int 0, .ref x23, .ref x24, .ref x25, .ref x26, .int 0, .ref x27, .ref x28, .ref x29, .ref x30, .ref x31, .int 0, .ref x32, .ref x33, .ref x34])), (x5, .inr (6, [.int 0, .int 1, .ref x40, .ref x41, .ref x42, .int 0, .ref x43, .ref x44, .ref x45])), (x41, .inr (9, [.ref x46, .ref x47, .int 0])), (m0, .inr (12, [.ref m1, .ref m2, .ref m3, .int 0, .ref m4, .int 0, .int 0, .int 0, .int 0, .int 0, .int (-1), .int 0, .int 0, .int 0, .int 0, .ref m5, .ref m6, .ref m7, .ref m8, .ref m9, .ref m10, .ref m11, .ref m12, .int 0, .int 0, .int 0, .int 0, .int 0, .ref m13, .int 0, .ref m14, .ref m15, .int 0, .int 0, .ref m16, .int 0, .ref m17, .ref m18, .int 0, .int (-1), .ref m19, .ref m20, .ref m21, .int 0, .ref m22, .ref m23, .ref m24, .ref m25, .ref m26, .ref m27, .ref m28, .ref m29, .ref m30, .int 0, .int 0, .ref m31])), (m1, .inl (cI, 1560, .inl w0))]) (hS : va_S A s.heap H locs) {ls : Array Slot} (hl : lv_has ls 4 [(3, .int 0), (2, .ref m0), (1, .ref x0), (0, .ref b)]) : W p l e room_1 s m #[Value.ref b] below meth c H locs 559 115398 (lw_Z below #[Value.ref b] s) (F0 m 779 ls []) := by
  obtain ⟨hx, hb, hr, hml, hown0, hts, hX, hbl, hlocks, hgv⟩ := C0
  have hown : s.vm.findClass RL = some m.cls := hown0
  have hU : ∀ w ∈ wsU, w.before #[Value.ref b] s = true := fun w h => hts w (wsU_in w h)
  have hbA : ¬ A b := by rw [hAe]; exact Nat.not_le.mpr hbl
  obtain ⟨s0, es0⟩ : ∃ y : Int32, xs 0 = y := ⟨_, rfl⟩
  obtain ⟨s1, es1⟩ : ∃ y : Int32, xs 1 = y := ⟨_, rfl⟩
  obtain ⟨s2, es2⟩ : ∃ y : Int32, xs 2 = y := ⟨_, rfl⟩
  obtain ⟨s3, es3⟩ : ∃ y : Int32, xs 3 = y := ⟨_, rfl⟩
  obtain ⟨s4, es4⟩ : ∃ y : Int32, xs 4 = y := ⟨_, rfl⟩
  obtain ⟨s5, es5⟩ : ∃ y : Int32, xs 5 = y := ⟨_, rfl⟩
  refine lv_aload_n hx hb dL_law_779 rfl (lv_at hl 2 rfl) ?_
  refine lv_aload_n hx hb dL_law_780 rfl (lv_at hl 3 rfl) ?_
  refine lv_iload_n hx hb dL_law_781 rfl (lv_at hl 0 rfl) ?_
  refine lv_iconst (v := 1) hx hb dL_law_782 (by decide) ?_
  refine lv_iadd hx hb dL_law_783 ?_
  refine tk_topi (y := 1) (by decide) ?_
  refine va_sld hx hb hX hbl hbA hS (vp_in_nI (n := 1) (by decide) (by decide)) dL_law_784 ?_
  refine tk_topi (y := s1) es1 ?_
  refine tk_ri (wr := [(m0, .inr (12, [.ref m1, .ref m2, .ref m3, .int 0, .ref m4, .int 0, .int 0, .int 0, .int 0, .int 0, .int (-1), .int 0, .int 0, .int 0, .int 0, .ref m5, .ref m6, .ref m7, .ref m8, .ref m9, .ref m10, .ref m11, .ref m12, .int 0, .int 0, .int 0, .int 0, .int 0, .ref m13, .int 0, .ref m14, .ref m15, .int 0, .int 0, .ref m16, .int 0, .ref m17, .ref m18, .int 0, .int (-1), .ref m19, .ref m20, .ref m21, .int 0, .ref m22, .ref m23, .ref m24, .ref m25, .ref m26, .ref m27, .ref m28, .ref m29, .ref m30, .int 0, .int 0, .ref m31])), (m1, .inl (cI, 1560, .inl w0))]) (tk_V (As := [.int s1]) (rest := []) (n := 1) hx hb hml hown hU hN (op_X11_fits l (dC, dI) cI cL cZ H.size x0 s1 x1 x2 x3 x4 x5 x6 x7 x8 x9 x10 x11 x12 x13 x22 x23 x24 x25 x26 x27 x28 x29 x30 x31 x32 x33 x34 x40 x41 x42 x43 x44 x45 x46 x47) wd_1404 wd_1405 wd_1406 wd_2 wd_1407 (by decide +kernel) ⟨Nat.le_of_ble_eq_true rfl, Nat.le_of_ble_eq_true rfl⟩ hK hP hD [0, 1, 2, 3] (by decide) rfl 0 11 rfl rfl rfl rfl hl.1 rfl (Nat.le_of_ble_eq_true rfl) dL_law_785 ⟨Nat.le_of_ble_eq_true rfl, Nat.le_of_ble_eq_true rfl⟩) hP hD hS hA [0, 1, 2, 3] [4, 5] rfl rfl (by decide) (by decide) (fun r_1 w_2 H locs hw hP hD hS => ?_)
  obtain ⟨rfl, rfl⟩ := hw
  have hP : va_P (dC, dI) vwCl [(m0, .inr (12, [.ref m1, .ref m2, .ref m3, .int 0, .ref m4, .int 0, .int 0, .int 0, .int 0, .int 0, .int (-1), .int 0, .int 0, .int 0, .int 0, .ref m5, .ref m6, .ref m7, .ref m8, .ref m9, .ref m10, .ref m11, .ref m12, .int 0, .int 0, .int 0, .int 0, .int 0, .ref m13, .int 0, .ref m14, .ref m15, .int 0, .int 0, .ref m16, .int 0, .ref m17, .ref m18, .int 0, .int (-1), .ref m19, .ref m20, .ref m21, .int 0, .ref m22, .ref m23, .ref m24, .ref m25, .ref m26, .ref m27, .ref m28, .ref m29, .ref m30, .int 0, .int 0, .ref m31])), (m1, .inl (cI, 1560, .inl w0))] H := hP
  have hD : va_D A [(m0, .inr (12, [.ref m1, .ref m2, .ref m3, .int 0, .ref m4, .int 0, .int 0, .int 0, .int 0, .int 0, .int (-1), .int 0, .int 0, .int 0, .int 0, .ref m5, .ref m6, .ref m7, .ref m8, .ref m9, .ref m10, .ref m11, .ref m12, .int 0, .int 0, .int 0, .int 0, .int 0, .ref m13, .int 0, .ref m14, .ref m15, .int 0, .int 0, .ref m16, .int 0, .ref m17, .ref m18, .int 0, .int (-1), .ref m19, .ref m20, .ref m21, .int 0, .ref m22, .ref m23, .ref m24, .ref m25, .ref m26, .ref m27, .ref m28, .ref m29, .ref m30, .int 0, .int 0, .ref m31])), (m1, .inl (cI, 1560, .inl w0))] := hD
  refine lv_aload_n hx hb dL_law_788 rfl (lv_at hl 1 rfl) ?_
  refine lv_aload_n hx hb dL_law_789 rfl (lv_at hl 3 rfl) ?_
  refine lv_iload_n hx hb dL_law_790 rfl (lv_at hl 0 rfl) ?_
  refine lv_iconst (v := 1) hx hb dL_law_791 (by decide) ?_
  refine lv_iadd hx hb dL_law_792 ?_
  refine tk_topi (y := 1) (by decide) ?_
  refine va_sld hx hb hX hbl hbA hS (vp_in_nI (n := 1) (by decide) (by decide)) dL_law_793 ?_
  refine tk_topi (y := s1) es1 ?_
  refine tk_ri (wr := []) (tk_V (As := [.int s1]) (rest := [.int (an_fits s1)]) (n := 1) hx hb hml hown hU hN (op_X12_fits l (dC, dI) cI cL cZ H.size m0 s1 m1 m2 m3 m4 m5 m6 m7 m8 m9 m10 m11 m12 m13 m14 m15 m16 m17 m18 m19 m20 m21 m22 m23 m24 m25 m26 m27 m28 m29 m30 m31) wd_1420 wd_1421 wd_1422 wd_5 wd_1423 (by decide +kernel) ⟨Nat.le_of_ble_eq_true rfl, Nat.le_of_ble_eq_true rfl⟩ hK hP hD [0, 1] (by decide) rfl 0 12 rfl rfl rfl rfl hl.1 rfl (Nat.le_of_ble_eq_true rfl) dL_law_794 ⟨Nat.le_of_ble_eq_true rfl, Nat.le_of_ble_eq_true rfl⟩) hP hD hS hA [0, 1] [] rfl rfl (by decide) (by decide) (fun r_3 w_4 H locs hw hP hD hS => ?_)
  obtain ⟨rfl, rfl⟩ := hw
  have hP : va_P (dC, dI) vwCl [] H := hP
  have hD : va_D A [] := hD
  refine lv_icmp_eq (tgt := 933) hx hb dL_law_797 (by decide) (fun _ => ?_) (fun c9 => absurd rfl c9)
  refine lv_iinc (v := 6) (lv' := [(3, .int 6), (2, .ref m0), (1, .ref x0), (0, .ref b)]) hx hb dL_law_933 hl (k := 0) rfl (by decide) (by decide) rfl (fun ls hl => ?_)
  refine lv_goto (tgt := 18) hx hb dL_law_936 (by decide) ?_
  refine lv_iload_n hx hb dL_law_18 rfl (lv_at hl 0 rfl) ?_
  refine lv_aload_n hx hb dL_law_19 rfl (lv_at hl 3 rfl) ?_
  refine va_slen hx hb hX hbl hbA hS dL_law_20 ?_
  refine tk_topi (y := 6) rfl ?_
  refine lv_bipush (v := 6) hx hb dL_law_21 (by decide) ?_
  refine lv_isub hx hb dL_law_23 ?_
  refine tk_topi (y := 0) (by decide) ?_
  refine lv_icmp_gt (tgt := 939) hx hb dL_law_24 (by decide) (fun _ => ?_) (fun c9 => absurd (by decide) c9) 
  refine lv_iconst (v := 1) hx hb dL_law_939 (by decide) ?_
  refine va_forget (fun q hq => by have h9 := hS.2.2 q hq; rw [hAe] at h9; exact h9) ?_
  refine W.widen (k := 600000) (n := 7302250) (Nat.le_of_ble_eq_true rfl) (Nat.le_of_ble_eq_true rfl) ?_
  exact lw_ret hx hb hr hlocks dL_law_940
set_option maxHeartbeats 8000000 in
set_option maxRecDepth 100000 in
theorem law_learn {p : Program} {l : Launch} {e : Env} {s : State} {m : MethodId} {below : List Frame} {meth : Method} {c : Code} {dC : Nat → ClassId} {dI : Nat → Nat → Nat} {cI cL cZ : ClassId} {b : Nat} {xs : Nat → Int32} (C0 : lw_At p s m meth c b 6 xs) (hK : va_K (dC, dI) vwCl (TYS cI cL cZ) s) (hN : nsW s) {A : Nat → Prop} (hA : ∀ q, s.heap.size ≤ q → A q) (hAe : A = fun q : Nat => s.heap.size ≤ q) (x0 m0 x1 x2 x3 x4 x5 x6 x7 x8 x9 x10 x11 x12 x13 x22 x23 x24 x25 x26 x27 x28 x29 x30 x31 x32 x33 x34 x40 x41 x42 x43 x44 x45 x46 x47 m1 m2 m3 m4 m5 m6 m7 m8 m9 m10 m11 m12 m13 m14 m15 m16 m17 m18 m19 m20 m21 m22 m23 m24 m25 m26 m27 m28 m29 m30 m31 : Nat) {H : Heap} {locs : List Loc} (hP : va_P (dC, dI) vwCl [(x0, .inr (11, [.ref x1, .int 0, .ref x2, .ref x3, .ref x4, .ref x5, .ref x6, .ref x7, .int 0, .ref x8, .ref x9, .ref x10, .int 0, .int (-1), .ref x11, .int 0, .ref x12, .ref x13, .int 0])), (x3, .inr (7, [.ref x22, .int 0, .ref x23, .ref x24, .ref x25, .ref x26, .int 0, .ref x27, .ref x28, .ref x29, .ref x30, .ref x31, .int 0, .ref x32, .ref x33, .ref x34])), (x5, .inr (6, [.int 0, .int 1, .ref x40, .ref x41, .ref x42, .int 0, .ref x43, .ref x44, .ref x45])), (x41, .inr (9, [.ref x46, .ref x47, .int 0])), (m0, .inr (12, [.ref m1, .ref m2, .ref m3, .int 0, .ref m4, .int 0, .int 0, .int 0, .int 0, .int 0, .int (-1), .int 0, .int 0, .int 0, .int 0, .ref m5, .ref m6, .ref m7, .ref m8, .ref m9, .ref m10, .ref m11, .ref m12, .int 0, .int 0, .int 0, .int 0, .int 0, .ref m13, .int 0, .ref m14, .ref m15, .int 0, .int 0, .ref m16, .int 0, .ref m17, .ref m18, .int 0, .int (-1), .ref m19, .ref m20, .ref m21, .int 0, .ref m22, .ref m23, .ref m24, .ref m25, .ref m26, .ref m27, .ref m28, .ref m29, .ref m30, .int 0, .int 0, .ref m31])), (m1, .inl (cI, 1560, .inl w0))] H) (hD : va_D A [(x0, .inr (11, [.ref x1, .int 0, .ref x2, .ref x3, .ref x4, .ref x5, .ref x6, .ref x7, .int 0, .ref x8, .ref x9, .ref x10, .int 0, .int (-1), .ref x11, .int 0, .ref x12, .ref x13, .int 0])), (x3, .inr (7, [.ref x22, .int 0, .ref x23, .ref x24, .ref x25, .ref x26, .int 0, .ref x27, .ref x28, .ref x29, .ref x30, .ref x31, .int 0, .ref x32, .ref x33, .ref x34])), (x5, .inr (6, [.int 0, .int 1, .ref x40, .ref x41, .ref x42, .int 0, .ref x43, .ref x44, .ref x45])), (x41, .inr (9, [.ref x46, .ref x47, .int 0])), (m0, .inr (12, [.ref m1, .ref m2, .ref m3, .int 0, .ref m4, .int 0, .int 0, .int 0, .int 0, .int 0, .int (-1), .int 0, .int 0, .int 0, .int 0, .ref m5, .ref m6, .ref m7, .ref m8, .ref m9, .ref m10, .ref m11, .ref m12, .int 0, .int 0, .int 0, .int 0, .int 0, .ref m13, .int 0, .ref m14, .ref m15, .int 0, .int 0, .ref m16, .int 0, .ref m17, .ref m18, .int 0, .int (-1), .ref m19, .ref m20, .ref m21, .int 0, .ref m22, .ref m23, .ref m24, .ref m25, .ref m26, .ref m27, .ref m28, .ref m29, .ref m30, .int 0, .int 0, .ref m31])), (m1, .inl (cI, 1560, .inl w0))]) (hS : va_S A s.heap H locs) {ls : Array Slot} (hl : lv_has ls 4 [(3, .int 0), (2, .ref m0), (1, .ref x0), (0, .ref b)]) : W p l e room_1 s m #[Value.ref b] below meth c H locs 559 115398 (lw_Z below #[Value.ref b] s) (F0 m 802 ls []) := by
  obtain ⟨hx, hb, hr, hml, hown0, hts, hX, hbl, hlocks, hgv⟩ := C0
  have hown : s.vm.findClass RL = some m.cls := hown0
  have hU : ∀ w ∈ wsU, w.before #[Value.ref b] s = true := fun w h => hts w (wsU_in w h)
  have hbA : ¬ A b := by rw [hAe]; exact Nat.not_le.mpr hbl
  obtain ⟨s0, es0⟩ : ∃ y : Int32, xs 0 = y := ⟨_, rfl⟩
  obtain ⟨s1, es1⟩ : ∃ y : Int32, xs 1 = y := ⟨_, rfl⟩
  obtain ⟨s2, es2⟩ : ∃ y : Int32, xs 2 = y := ⟨_, rfl⟩
  obtain ⟨s3, es3⟩ : ∃ y : Int32, xs 3 = y := ⟨_, rfl⟩
  obtain ⟨s4, es4⟩ : ∃ y : Int32, xs 4 = y := ⟨_, rfl⟩
  obtain ⟨s5, es5⟩ : ∃ y : Int32, xs 5 = y := ⟨_, rfl⟩
  refine lv_aload_n hx hb dL_law_802 rfl (lv_at hl 2 rfl) ?_
  refine tk_ri (wr := [(m0, .inr (12, [.ref m1, .ref m2, .ref m3, .int 0, .ref m4, .int 0, .int 0, .int 0, .int 0, .int 0, .int (-1), .int 0, .int 0, .int 0, .int 0, .ref m5, .ref m6, .ref m7, .ref m8, .ref m9, .ref m10, .ref m11, .ref m12, .int 0, .int 0, .int 0, .int 0, .int 0, .ref m13, .int 0, .ref m14, .ref m15, .int 0, .int 0, .ref m16, .int 0, .ref m17, .ref m18, .int 0, .int (-1), .ref m19, .ref m20, .ref m21, .int 0, .ref m22, .ref m23, .ref m24, .ref m25, .ref m26, .ref m27, .ref m28, .ref m29, .ref m30, .int 0, .int 0, .ref m31])), (m1, .inl (cI, 1560, .inl w0))]) (tk_V (As := []) (rest := []) (n := 0) hx hb hml hown hU hN (op_X11_learn l (dC, dI) cI cL cZ H.size x0 x1 x2 x3 x4 x5 x6 x7 x8 x9 x10 x11 x12 x13 x22 x23 x24 x25 x26 x27 x28 x29 x30 x31 x32 x33 x34 x40 x41 x42 x43 x44 x45 x46 x47) wd_1432 wd_1433 wd_1434 wd_2 wd_1435 (by decide +kernel) ⟨Nat.le_of_ble_eq_true rfl, Nat.le_of_ble_eq_true rfl⟩ hK hP hD [0, 1, 2, 3] (by decide) rfl 0 11 rfl rfl rfl rfl hl.1 rfl (Nat.le_of_ble_eq_true rfl) dL_law_803 ⟨Nat.le_of_ble_eq_true rfl, Nat.le_of_ble_eq_true rfl⟩) hP hD hS hA [0, 1, 2, 3] [4, 5] rfl rfl (by decide) (by decide) (fun r_1 w_2 H locs hw hP hD hS => ?_)
  obtain ⟨rfl, rfl⟩ := hw
  have hP : va_P (dC, dI) vwCl [(m0, .inr (12, [.ref m1, .ref m2, .ref m3, .int 0, .ref m4, .int 0, .int 0, .int 0, .int 0, .int 0, .int (-1), .int 0, .int 0, .int 0, .int 0, .ref m5, .ref m6, .ref m7, .ref m8, .ref m9, .ref m10, .ref m11, .ref m12, .int 0, .int 0, .int 0, .int 0, .int 0, .ref m13, .int 0, .ref m14, .ref m15, .int 0, .int 0, .ref m16, .int 0, .ref m17, .ref m18, .int 0, .int (-1), .ref m19, .ref m20, .ref m21, .int 0, .ref m22, .ref m23, .ref m24, .ref m25, .ref m26, .ref m27, .ref m28, .ref m29, .ref m30, .int 0, .int 0, .ref m31])), (m1, .inl (cI, 1560, .inl w0))] H := hP
  have hD : va_D A [(m0, .inr (12, [.ref m1, .ref m2, .ref m3, .int 0, .ref m4, .int 0, .int 0, .int 0, .int 0, .int 0, .int (-1), .int 0, .int 0, .int 0, .int 0, .ref m5, .ref m6, .ref m7, .ref m8, .ref m9, .ref m10, .ref m11, .ref m12, .int 0, .int 0, .int 0, .int 0, .int 0, .ref m13, .int 0, .ref m14, .ref m15, .int 0, .int 0, .ref m16, .int 0, .ref m17, .ref m18, .int 0, .int (-1), .ref m19, .ref m20, .ref m21, .int 0, .ref m22, .ref m23, .ref m24, .ref m25, .ref m26, .ref m27, .ref m28, .ref m29, .ref m30, .int 0, .int 0, .ref m31])), (m1, .inl (cI, 1560, .inl w0))] := hD
  refine lv_aload_n hx hb dL_law_806 rfl (lv_at hl 1 rfl) ?_
  refine tk_ri (wr := []) (tk_V (As := []) (rest := [.int 0]) (n := 0) hx hb hml hown hU hN (op_X12_learn l (dC, dI) cI cL cZ H.size m0 m1 m2 m3 m4 m5 m6 m7 m8 m9 m10 m11 m12 m13 m14 m15 m16 m17 m18 m19 m20 m21 m22 m23 m24 m25 m26 m27 m28 m29 m30 m31) wd_1442 wd_1443 wd_1444 wd_5 wd_1445 (by decide +kernel) ⟨Nat.le_of_ble_eq_true rfl, Nat.le_of_ble_eq_true rfl⟩ hK hP hD [0, 1] (by decide) rfl 0 12 rfl rfl rfl rfl hl.1 rfl (Nat.le_of_ble_eq_true rfl) dL_law_807 ⟨Nat.le_of_ble_eq_true rfl, Nat.le_of_ble_eq_true rfl⟩) hP hD hS hA [0, 1] [] rfl rfl (by decide) (by decide) (fun r_3 w_4 H locs hw hP hD hS => ?_)
  obtain ⟨rfl, rfl⟩ := hw
  have hP : va_P (dC, dI) vwCl [] H := hP
  have hD : va_D A [] := hD
  refine lv_icmp_eq (tgt := 933) hx hb dL_law_810 (by decide) (fun _ => ?_) (fun c9 => absurd (by decide) c9) 
  refine lv_iinc (v := 6) (lv' := [(3, .int 6), (2, .ref m0), (1, .ref x0), (0, .ref b)]) hx hb dL_law_933 hl (k := 0) rfl (by decide) (by decide) rfl (fun ls hl => ?_)
  refine lv_goto (tgt := 18) hx hb dL_law_936 (by decide) ?_
  refine lv_iload_n hx hb dL_law_18 rfl (lv_at hl 0 rfl) ?_
  refine lv_aload_n hx hb dL_law_19 rfl (lv_at hl 3 rfl) ?_
  refine va_slen hx hb hX hbl hbA hS dL_law_20 ?_
  refine tk_topi (y := 6) rfl ?_
  refine lv_bipush (v := 6) hx hb dL_law_21 (by decide) ?_
  refine lv_isub hx hb dL_law_23 ?_
  refine tk_topi (y := 0) (by decide) ?_
  refine lv_icmp_gt (tgt := 939) hx hb dL_law_24 (by decide) (fun _ => ?_) (fun c9 => absurd (by decide) c9) 
  refine lv_iconst (v := 1) hx hb dL_law_939 (by decide) ?_
  refine va_forget (fun q hq => by have h9 := hS.2.2 q hq; rw [hAe] at h9; exact h9) ?_
  refine W.widen (k := 600000) (n := 7302250) (Nat.le_of_ble_eq_true rfl) (Nat.le_of_ble_eq_true rfl) ?_
  exact lw_ret hx hb hr hlocks dL_law_940
set_option maxHeartbeats 8000000 in
set_option maxRecDepth 100000 in
theorem law_forced {p : Program} {l : Launch} {e : Env} {s : State} {m : MethodId} {below : List Frame} {meth : Method} {c : Code} {dC : Nat → ClassId} {dI : Nat → Nat → Nat} {cI cL cZ : ClassId} {b : Nat} {xs : Nat → Int32} (C0 : lw_At p s m meth c b 6 xs) (hK : va_K (dC, dI) vwCl (TYS cI cL cZ) s) (hN : nsW s) {A : Nat → Prop} (hA : ∀ q, s.heap.size ≤ q → A q) (hAe : A = fun q : Nat => s.heap.size ≤ q) (x0 m0 x1 x2 x3 x4 x5 x6 x7 x8 x9 x10 x11 x12 x13 x22 x23 x24 x25 x26 x27 x28 x29 x30 x31 x32 x33 x34 m1 m2 m3 m4 m5 m6 m7 m8 m9 m10 m11 m12 m13 m14 m15 m16 m17 m18 m19 m20 m21 m22 m23 m24 m25 m26 m27 m28 m29 m30 m31 : Nat) {H : Heap} {locs : List Loc} (hP : va_P (dC, dI) vwCl [(x0, .inr (11, [.ref x1, .int 0, .ref x2, .ref x3, .ref x4, .ref x5, .ref x6, .ref x7, .int 0, .ref x8, .ref x9, .ref x10, .int 0, .int (-1), .ref x11, .int 0, .ref x12, .ref x13, .int 0])), (x3, .inr (7, [.ref x22, .int 0, .ref x23, .ref x24, .ref x25, .ref x26, .int 0, .ref x27, .ref x28, .ref x29, .ref x30, .ref x31, .int 0, .ref x32, .ref x33, .ref x34])), (m0, .inr (12, [.ref m1, .ref m2, .ref m3, .int 0, .ref m4, .int 0, .int 0, .int 0, .int 0, .int 0, .int (-1), .int 0, .int 0, .int 0, .int 0, .ref m5, .ref m6, .ref m7, .ref m8, .ref m9, .ref m10, .ref m11, .ref m12, .int 0, .int 0, .int 0, .int 0, .int 0, .ref m13, .int 0, .ref m14, .ref m15, .int 0, .int 0, .ref m16, .int 0, .ref m17, .ref m18, .int 0, .int (-1), .ref m19, .ref m20, .ref m21, .int 0, .ref m22, .ref m23, .ref m24, .ref m25, .ref m26, .ref m27, .ref m28, .ref m29, .ref m30, .int 0, .int 0, .ref m31])), (m1, .inl (cI, 1560, .inl w0))] H) (hD : va_D A [(x0, .inr (11, [.ref x1, .int 0, .ref x2, .ref x3, .ref x4, .ref x5, .ref x6, .ref x7, .int 0, .ref x8, .ref x9, .ref x10, .int 0, .int (-1), .ref x11, .int 0, .ref x12, .ref x13, .int 0])), (x3, .inr (7, [.ref x22, .int 0, .ref x23, .ref x24, .ref x25, .ref x26, .int 0, .ref x27, .ref x28, .ref x29, .ref x30, .ref x31, .int 0, .ref x32, .ref x33, .ref x34])), (m0, .inr (12, [.ref m1, .ref m2, .ref m3, .int 0, .ref m4, .int 0, .int 0, .int 0, .int 0, .int 0, .int (-1), .int 0, .int 0, .int 0, .int 0, .ref m5, .ref m6, .ref m7, .ref m8, .ref m9, .ref m10, .ref m11, .ref m12, .int 0, .int 0, .int 0, .int 0, .int 0, .ref m13, .int 0, .ref m14, .ref m15, .int 0, .int 0, .ref m16, .int 0, .ref m17, .ref m18, .int 0, .int (-1), .ref m19, .ref m20, .ref m21, .int 0, .ref m22, .ref m23, .ref m24, .ref m25, .ref m26, .ref m27, .ref m28, .ref m29, .ref m30, .int 0, .int 0, .ref m31])), (m1, .inl (cI, 1560, .inl w0))]) (hS : va_S A s.heap H locs) {ls : Array Slot} (hl : lv_has ls 4 [(3, .int 0), (2, .ref m0), (1, .ref x0), (0, .ref b)]) : W p l e room_1 s m #[Value.ref b] below meth c H locs 559 115398 (lw_Z below #[Value.ref b] s) (F0 m 815 ls []) := by
  obtain ⟨hx, hb, hr, hml, hown0, hts, hX, hbl, hlocks, hgv⟩ := C0
  have hown : s.vm.findClass RL = some m.cls := hown0
  have hU : ∀ w ∈ wsU, w.before #[Value.ref b] s = true := fun w h => hts w (wsU_in w h)
  have hbA : ¬ A b := by rw [hAe]; exact Nat.not_le.mpr hbl
  obtain ⟨s0, es0⟩ : ∃ y : Int32, xs 0 = y := ⟨_, rfl⟩
  obtain ⟨s1, es1⟩ : ∃ y : Int32, xs 1 = y := ⟨_, rfl⟩
  obtain ⟨s2, es2⟩ : ∃ y : Int32, xs 2 = y := ⟨_, rfl⟩
  obtain ⟨s3, es3⟩ : ∃ y : Int32, xs 3 = y := ⟨_, rfl⟩
  obtain ⟨s4, es4⟩ : ∃ y : Int32, xs 4 = y := ⟨_, rfl⟩
  obtain ⟨s5, es5⟩ : ∃ y : Int32, xs 5 = y := ⟨_, rfl⟩
  refine lv_aload_n hx hb dL_law_815 rfl (lv_at hl 2 rfl) ?_
  refine lv_aload_n hx hb dL_law_816 rfl (lv_at hl 3 rfl) ?_
  refine lv_iload_n hx hb dL_law_817 rfl (lv_at hl 0 rfl) ?_
  refine lv_iconst (v := 1) hx hb dL_law_818 (by decide) ?_
  refine lv_iadd hx hb dL_law_819 ?_
  refine tk_topi (y := 1) (by decide) ?_
  refine va_sld hx hb hX hbl hbA hS (vp_in_nI (n := 1) (by decide) (by decide)) dL_law_820 ?_
  refine tk_topi (y := s1) es1 ?_
  refine tk_ri (wr := [(m0, .inr (12, [.ref m1, .ref m2, .ref m3, .int 0, .ref m4, .int 0, .int 0, .int 0, .int 0, .int 0, .int (-1), .int 0, .int 0, .int 0, .int 0, .ref m5, .ref m6, .ref m7, .ref m8, .ref m9, .ref m10, .ref m11, .ref m12, .int 0, .int 0, .int 0, .int 0, .int 0, .ref m13, .int 0, .ref m14, .ref m15, .int 0, .int 0, .ref m16, .int 0, .ref m17, .ref m18, .int 0, .int (-1), .ref m19, .ref m20, .ref m21, .int 0, .ref m22, .ref m23, .ref m24, .ref m25, .ref m26, .ref m27, .ref m28, .ref m29, .ref m30, .int 0, .int 0, .ref m31])), (m1, .inl (cI, 1560, .inl w0))]) (tk_V (As := [.int s1]) (rest := []) (n := 1) hx hb hml hown hU hN (op_X11_forced l (dC, dI) cI cL cZ H.size x0 s1 x1 x2 x3 x4 x5 x6 x7 x8 x9 x10 x11 x12 x13 x22 x23 x24 x25 x26 x27 x28 x29 x30 x31 x32 x33 x34) wd_1446 wd_1447 wd_1448 wd_2 wd_1449 (by decide +kernel) ⟨Nat.le_of_ble_eq_true rfl, Nat.le_of_ble_eq_true rfl⟩ hK hP hD [0, 1] (by decide) rfl 0 11 rfl rfl rfl rfl hl.1 rfl (Nat.le_of_ble_eq_true rfl) dL_law_821 ⟨Nat.le_of_ble_eq_true rfl, Nat.le_of_ble_eq_true rfl⟩) hP hD hS hA [0, 1] [2, 3] rfl rfl (by decide) (by decide) (fun r_1 w_2 H locs hw hP hD hS => ?_)
  obtain ⟨rfl, rfl⟩ := hw
  have hP : va_P (dC, dI) vwCl [(m0, .inr (12, [.ref m1, .ref m2, .ref m3, .int 0, .ref m4, .int 0, .int 0, .int 0, .int 0, .int 0, .int (-1), .int 0, .int 0, .int 0, .int 0, .ref m5, .ref m6, .ref m7, .ref m8, .ref m9, .ref m10, .ref m11, .ref m12, .int 0, .int 0, .int 0, .int 0, .int 0, .ref m13, .int 0, .ref m14, .ref m15, .int 0, .int 0, .ref m16, .int 0, .ref m17, .ref m18, .int 0, .int (-1), .ref m19, .ref m20, .ref m21, .int 0, .ref m22, .ref m23, .ref m24, .ref m25, .ref m26, .ref m27, .ref m28, .ref m29, .ref m30, .int 0, .int 0, .ref m31])), (m1, .inl (cI, 1560, .inl w0))] H := hP
  have hD : va_D A [(m0, .inr (12, [.ref m1, .ref m2, .ref m3, .int 0, .ref m4, .int 0, .int 0, .int 0, .int 0, .int 0, .int (-1), .int 0, .int 0, .int 0, .int 0, .ref m5, .ref m6, .ref m7, .ref m8, .ref m9, .ref m10, .ref m11, .ref m12, .int 0, .int 0, .int 0, .int 0, .int 0, .ref m13, .int 0, .ref m14, .ref m15, .int 0, .int 0, .ref m16, .int 0, .ref m17, .ref m18, .int 0, .int (-1), .ref m19, .ref m20, .ref m21, .int 0, .ref m22, .ref m23, .ref m24, .ref m25, .ref m26, .ref m27, .ref m28, .ref m29, .ref m30, .int 0, .int 0, .ref m31])), (m1, .inl (cI, 1560, .inl w0))] := hD
  refine lv_aload_n hx hb dL_law_824 rfl (lv_at hl 1 rfl) ?_
  refine lv_aload_n hx hb dL_law_825 rfl (lv_at hl 3 rfl) ?_
  refine lv_iload_n hx hb dL_law_826 rfl (lv_at hl 0 rfl) ?_
  refine lv_iconst (v := 1) hx hb dL_law_827 (by decide) ?_
  refine lv_iadd hx hb dL_law_828 ?_
  refine tk_topi (y := 1) (by decide) ?_
  refine va_sld hx hb hX hbl hbA hS (vp_in_nI (n := 1) (by decide) (by decide)) dL_law_829 ?_
  refine tk_topi (y := s1) es1 ?_
  refine tk_ri (wr := []) (tk_V (As := [.int s1]) (rest := [.int (-1)]) (n := 1) hx hb hml hown hU hN (op_X12_forced l (dC, dI) cI cL cZ H.size m0 s1 m1 m2 m3 m4 m5 m6 m7 m8 m9 m10 m11 m12 m13 m14 m15 m16 m17 m18 m19 m20 m21 m22 m23 m24 m25 m26 m27 m28 m29 m30 m31) wd_1451 wd_1452 wd_1453 wd_5 wd_1454 (by decide +kernel) ⟨Nat.le_of_ble_eq_true rfl, Nat.le_of_ble_eq_true rfl⟩ hK hP hD [0, 1] (by decide) rfl 0 12 rfl rfl rfl rfl hl.1 rfl (Nat.le_of_ble_eq_true rfl) dL_law_830 ⟨Nat.le_of_ble_eq_true rfl, Nat.le_of_ble_eq_true rfl⟩) hP hD hS hA [0, 1] [] rfl rfl (by decide) (by decide) (fun r_3 w_4 H locs hw hP hD hS => ?_)
  obtain ⟨rfl, rfl⟩ := hw
  have hP : va_P (dC, dI) vwCl [] H := hP
  have hD : va_D A [] := hD
  refine lv_icmp_eq (tgt := 933) hx hb dL_law_833 (by decide) (fun _ => ?_) (fun c9 => absurd (by decide) c9) 
  refine lv_iinc (v := 6) (lv' := [(3, .int 6), (2, .ref m0), (1, .ref x0), (0, .ref b)]) hx hb dL_law_933 hl (k := 0) rfl (by decide) (by decide) rfl (fun ls hl => ?_)
  refine lv_goto (tgt := 18) hx hb dL_law_936 (by decide) ?_
  refine lv_iload_n hx hb dL_law_18 rfl (lv_at hl 0 rfl) ?_
  refine lv_aload_n hx hb dL_law_19 rfl (lv_at hl 3 rfl) ?_
  refine va_slen hx hb hX hbl hbA hS dL_law_20 ?_
  refine tk_topi (y := 6) rfl ?_
  refine lv_bipush (v := 6) hx hb dL_law_21 (by decide) ?_
  refine lv_isub hx hb dL_law_23 ?_
  refine tk_topi (y := 0) (by decide) ?_
  refine lv_icmp_gt (tgt := 939) hx hb dL_law_24 (by decide) (fun _ => ?_) (fun c9 => absurd (by decide) c9) 
  refine lv_iconst (v := 1) hx hb dL_law_939 (by decide) ?_
  refine va_forget (fun q hq => by have h9 := hS.2.2 q hq; rw [hAe] at h9; exact h9) ?_
  refine W.widen (k := 600000) (n := 7302250) (Nat.le_of_ble_eq_true rfl) (Nat.le_of_ble_eq_true rfl) ?_
  exact lw_ret hx hb hr hlocks dL_law_940
set_option maxHeartbeats 8000000 in
set_option maxRecDepth 100000 in
theorem law_rule {p : Program} {l : Launch} {e : Env} {s : State} {m : MethodId} {below : List Frame} {meth : Method} {c : Code} {dC : Nat → ClassId} {dI : Nat → Nat → Nat} {cI cL cZ : ClassId} {b : Nat} {xs : Nat → Int32} (C0 : lw_At p s m meth c b 6 xs) (hK : va_K (dC, dI) vwCl (TYS cI cL cZ) s) (hN : nsW s) {A : Nat → Prop} (hA : ∀ q, s.heap.size ≤ q → A q) (hAe : A = fun q : Nat => s.heap.size ≤ q) (x0 m0 x1 x2 x3 x4 x5 x6 x7 x8 x9 x10 x11 x12 x13 x22 x23 x24 x25 x26 x27 x28 x29 x30 x31 x32 x33 x34 m1 m2 m3 m4 m5 m6 m7 m8 m9 m10 m11 m12 m13 m14 m15 m16 m17 m18 m19 m20 m21 m22 m23 m24 m25 m26 m27 m28 m29 m30 m31 : Nat) {H : Heap} {locs : List Loc} (hP : va_P (dC, dI) vwCl [(x0, .inr (11, [.ref x1, .int 0, .ref x2, .ref x3, .ref x4, .ref x5, .ref x6, .ref x7, .int 0, .ref x8, .ref x9, .ref x10, .int 0, .int (-1), .ref x11, .int 0, .ref x12, .ref x13, .int 0])), (x3, .inr (7, [.ref x22, .int 0, .ref x23, .ref x24, .ref x25, .ref x26, .int 0, .ref x27, .ref x28, .ref x29, .ref x30, .ref x31, .int 0, .ref x32, .ref x33, .ref x34])), (m0, .inr (12, [.ref m1, .ref m2, .ref m3, .int 0, .ref m4, .int 0, .int 0, .int 0, .int 0, .int 0, .int (-1), .int 0, .int 0, .int 0, .int 0, .ref m5, .ref m6, .ref m7, .ref m8, .ref m9, .ref m10, .ref m11, .ref m12, .int 0, .int 0, .int 0, .int 0, .int 0, .ref m13, .int 0, .ref m14, .ref m15, .int 0, .int 0, .ref m16, .int 0, .ref m17, .ref m18, .int 0, .int (-1), .ref m19, .ref m20, .ref m21, .int 0, .ref m22, .ref m23, .ref m24, .ref m25, .ref m26, .ref m27, .ref m28, .ref m29, .ref m30, .int 0, .int 0, .ref m31])), (m1, .inl (cI, 1560, .inl w0))] H) (hD : va_D A [(x0, .inr (11, [.ref x1, .int 0, .ref x2, .ref x3, .ref x4, .ref x5, .ref x6, .ref x7, .int 0, .ref x8, .ref x9, .ref x10, .int 0, .int (-1), .ref x11, .int 0, .ref x12, .ref x13, .int 0])), (x3, .inr (7, [.ref x22, .int 0, .ref x23, .ref x24, .ref x25, .ref x26, .int 0, .ref x27, .ref x28, .ref x29, .ref x30, .ref x31, .int 0, .ref x32, .ref x33, .ref x34])), (m0, .inr (12, [.ref m1, .ref m2, .ref m3, .int 0, .ref m4, .int 0, .int 0, .int 0, .int 0, .int 0, .int (-1), .int 0, .int 0, .int 0, .int 0, .ref m5, .ref m6, .ref m7, .ref m8, .ref m9, .ref m10, .ref m11, .ref m12, .int 0, .int 0, .int 0, .int 0, .int 0, .ref m13, .int 0, .ref m14, .ref m15, .int 0, .int 0, .ref m16, .int 0, .ref m17, .ref m18, .int 0, .int (-1), .ref m19, .ref m20, .ref m21, .int 0, .ref m22, .ref m23, .ref m24, .ref m25, .ref m26, .ref m27, .ref m28, .ref m29, .ref m30, .int 0, .int 0, .ref m31])), (m1, .inl (cI, 1560, .inl w0))]) (hS : va_S A s.heap H locs) {ls : Array Slot} (hl : lv_has ls 4 [(3, .int 0), (2, .ref m0), (1, .ref x0), (0, .ref b)]) : W p l e room_1 s m #[Value.ref b] below meth c H locs 559 115398 (lw_Z below #[Value.ref b] s) (F0 m 838 ls []) := by
  obtain ⟨hx, hb, hr, hml, hown0, hts, hX, hbl, hlocks, hgv⟩ := C0
  have hown : s.vm.findClass RL = some m.cls := hown0
  have hU : ∀ w ∈ wsU, w.before #[Value.ref b] s = true := fun w h => hts w (wsU_in w h)
  have hbA : ¬ A b := by rw [hAe]; exact Nat.not_le.mpr hbl
  obtain ⟨s0, es0⟩ : ∃ y : Int32, xs 0 = y := ⟨_, rfl⟩
  obtain ⟨s1, es1⟩ : ∃ y : Int32, xs 1 = y := ⟨_, rfl⟩
  obtain ⟨s2, es2⟩ : ∃ y : Int32, xs 2 = y := ⟨_, rfl⟩
  obtain ⟨s3, es3⟩ : ∃ y : Int32, xs 3 = y := ⟨_, rfl⟩
  obtain ⟨s4, es4⟩ : ∃ y : Int32, xs 4 = y := ⟨_, rfl⟩
  obtain ⟨s5, es5⟩ : ∃ y : Int32, xs 5 = y := ⟨_, rfl⟩
  refine lv_aload_n hx hb dL_law_838 rfl (lv_at hl 2 rfl) ?_
  refine lv_aload_n hx hb dL_law_839 rfl (lv_at hl 3 rfl) ?_
  refine lv_iload_n hx hb dL_law_840 rfl (lv_at hl 0 rfl) ?_
  refine lv_iconst (v := 1) hx hb dL_law_841 (by decide) ?_
  refine lv_iadd hx hb dL_law_842 ?_
  refine tk_topi (y := 1) (by decide) ?_
  refine va_sld hx hb hX hbl hbA hS (vp_in_nI (n := 1) (by decide) (by decide)) dL_law_843 ?_
  refine tk_topi (y := s1) es1 ?_
  refine lv_aload_n hx hb dL_law_844 rfl (lv_at hl 3 rfl) ?_
  refine lv_iload_n hx hb dL_law_845 rfl (lv_at hl 0 rfl) ?_
  refine lv_iconst (v := 2) hx hb dL_law_846 (by decide) ?_
  refine lv_iadd hx hb dL_law_847 ?_
  refine tk_topi (y := 2) (by decide) ?_
  refine va_sld hx hb hX hbl hbA hS (vp_in_nI (n := 2) (by decide) (by decide)) dL_law_848 ?_
  refine tk_topi (y := s2) es2 ?_
  refine tk_ri (wr := [(m0, .inr (12, [.ref m1, .ref m2, .ref m3, .int 0, .ref m4, .int 0, .int 0, .int 0, .int 0, .int 0, .int (-1), .int 0, .int 0, .int 0, .int 0, .ref m5, .ref m6, .ref m7, .ref m8, .ref m9, .ref m10, .ref m11, .ref m12, .int 0, .int 0, .int 0, .int 0, .int 0, .ref m13, .int 0, .ref m14, .ref m15, .int 0, .int 0, .ref m16, .int 0, .ref m17, .ref m18, .int 0, .int (-1), .ref m19, .ref m20, .ref m21, .int 0, .ref m22, .ref m23, .ref m24, .ref m25, .ref m26, .ref m27, .ref m28, .ref m29, .ref m30, .int 0, .int 0, .ref m31])), (m1, .inl (cI, 1560, .inl w0))]) (tk_V (As := [.int s1, .int s2]) (rest := []) (n := 2) hx hb hml hown hU hN (op_X11_rule l (dC, dI) cI cL cZ H.size x0 s1 s2 x1 x2 x3 x4 x5 x6 x7 x8 x9 x10 x11 x12 x13 x22 x23 x24 x25 x26 x27 x28 x29 x30 x31 x32 x33 x34) wd_1456 wd_1457 wd_1458 wd_2 wd_1459 (by decide +kernel) ⟨Nat.le_of_ble_eq_true rfl, Nat.le_of_ble_eq_true rfl⟩ hK hP hD [0, 1] (by decide) rfl 0 11 rfl rfl rfl rfl hl.1 rfl (Nat.le_of_ble_eq_true rfl) dL_law_849 ⟨Nat.le_of_ble_eq_true rfl, Nat.le_of_ble_eq_true rfl⟩) hP hD hS hA [0, 1] [2, 3] rfl rfl (by decide) (by decide) (fun r_1 w_2 H locs hw hP hD hS => ?_)
  obtain ⟨rfl, rfl⟩ := hw
  have hP : va_P (dC, dI) vwCl [(m0, .inr (12, [.ref m1, .ref m2, .ref m3, .int 0, .ref m4, .int 0, .int 0, .int 0, .int 0, .int 0, .int (-1), .int 0, .int 0, .int 0, .int 0, .ref m5, .ref m6, .ref m7, .ref m8, .ref m9, .ref m10, .ref m11, .ref m12, .int 0, .int 0, .int 0, .int 0, .int 0, .ref m13, .int 0, .ref m14, .ref m15, .int 0, .int 0, .ref m16, .int 0, .ref m17, .ref m18, .int 0, .int (-1), .ref m19, .ref m20, .ref m21, .int 0, .ref m22, .ref m23, .ref m24, .ref m25, .ref m26, .ref m27, .ref m28, .ref m29, .ref m30, .int 0, .int 0, .ref m31])), (m1, .inl (cI, 1560, .inl w0))] H := hP
  have hD : va_D A [(m0, .inr (12, [.ref m1, .ref m2, .ref m3, .int 0, .ref m4, .int 0, .int 0, .int 0, .int 0, .int 0, .int (-1), .int 0, .int 0, .int 0, .int 0, .ref m5, .ref m6, .ref m7, .ref m8, .ref m9, .ref m10, .ref m11, .ref m12, .int 0, .int 0, .int 0, .int 0, .int 0, .ref m13, .int 0, .ref m14, .ref m15, .int 0, .int 0, .ref m16, .int 0, .ref m17, .ref m18, .int 0, .int (-1), .ref m19, .ref m20, .ref m21, .int 0, .ref m22, .ref m23, .ref m24, .ref m25, .ref m26, .ref m27, .ref m28, .ref m29, .ref m30, .int 0, .int 0, .ref m31])), (m1, .inl (cI, 1560, .inl w0))] := hD
  refine lv_aload_n hx hb dL_law_852 rfl (lv_at hl 1 rfl) ?_
  refine lv_aload_n hx hb dL_law_853 rfl (lv_at hl 3 rfl) ?_
  refine lv_iload_n hx hb dL_law_854 rfl (lv_at hl 0 rfl) ?_
  refine lv_iconst (v := 1) hx hb dL_law_855 (by decide) ?_
  refine lv_iadd hx hb dL_law_856 ?_
  refine tk_topi (y := 1) (by decide) ?_
  refine va_sld hx hb hX hbl hbA hS (vp_in_nI (n := 1) (by decide) (by decide)) dL_law_857 ?_
  refine tk_topi (y := s1) es1 ?_
  refine lv_aload_n hx hb dL_law_858 rfl (lv_at hl 3 rfl) ?_
  refine lv_iload_n hx hb dL_law_859 rfl (lv_at hl 0 rfl) ?_
  refine lv_iconst (v := 2) hx hb dL_law_860 (by decide) ?_
  refine lv_iadd hx hb dL_law_861 ?_
  refine tk_topi (y := 2) (by decide) ?_
  refine va_sld hx hb hX hbl hbA hS (vp_in_nI (n := 2) (by decide) (by decide)) dL_law_862 ?_
  refine tk_topi (y := s2) es2 ?_
  refine tk_ri (wr := []) (tk_V (As := [.int s1, .int s2]) (rest := [.int (-1)]) (n := 2) hx hb hml hown hU hN (op_X12_rule l (dC, dI) cI cL cZ H.size m0 s1 s2 m1 m2 m3 m4 m5 m6 m7 m8 m9 m10 m11 m12 m13 m14 m15 m16 m17 m18 m19 m20 m21 m22 m23 m24 m25 m26 m27 m28 m29 m30 m31) wd_1464 wd_1465 wd_1466 wd_5 wd_1467 (by decide +kernel) ⟨Nat.le_of_ble_eq_true rfl, Nat.le_of_ble_eq_true rfl⟩ hK hP hD [0, 1] (by decide) rfl 0 12 rfl rfl rfl rfl hl.1 rfl (Nat.le_of_ble_eq_true rfl) dL_law_863 ⟨Nat.le_of_ble_eq_true rfl, Nat.le_of_ble_eq_true rfl⟩) hP hD hS hA [0, 1] [] rfl rfl (by decide) (by decide) (fun r_3 w_4 H locs hw hP hD hS => ?_)
  obtain ⟨rfl, rfl⟩ := hw
  have hP : va_P (dC, dI) vwCl [] H := hP
  have hD : va_D A [] := hD
  refine lv_icmp_eq (tgt := 933) hx hb dL_law_866 (by decide) (fun _ => ?_) (fun c9 => absurd (by decide) c9) 
  refine lv_iinc (v := 6) (lv' := [(3, .int 6), (2, .ref m0), (1, .ref x0), (0, .ref b)]) hx hb dL_law_933 hl (k := 0) rfl (by decide) (by decide) rfl (fun ls hl => ?_)
  refine lv_goto (tgt := 18) hx hb dL_law_936 (by decide) ?_
  refine lv_iload_n hx hb dL_law_18 rfl (lv_at hl 0 rfl) ?_
  refine lv_aload_n hx hb dL_law_19 rfl (lv_at hl 3 rfl) ?_
  refine va_slen hx hb hX hbl hbA hS dL_law_20 ?_
  refine tk_topi (y := 6) rfl ?_
  refine lv_bipush (v := 6) hx hb dL_law_21 (by decide) ?_
  refine lv_isub hx hb dL_law_23 ?_
  refine tk_topi (y := 0) (by decide) ?_
  refine lv_icmp_gt (tgt := 939) hx hb dL_law_24 (by decide) (fun _ => ?_) (fun c9 => absurd (by decide) c9) 
  refine lv_iconst (v := 1) hx hb dL_law_939 (by decide) ?_
  refine va_forget (fun q hq => by have h9 := hS.2.2 q hq; rw [hAe] at h9; exact h9) ?_
  refine W.widen (k := 600000) (n := 7302250) (Nat.le_of_ble_eq_true rfl) (Nat.le_of_ble_eq_true rfl) ?_
  exact lw_ret hx hb hr hlocks dL_law_940
set_option maxHeartbeats 8000000 in
set_option maxRecDepth 100000 in
theorem law_image {p : Program} {l : Launch} {e : Env} {s : State} {m : MethodId} {below : List Frame} {meth : Method} {c : Code} {dC : Nat → ClassId} {dI : Nat → Nat → Nat} {cI cL cZ : ClassId} {b : Nat} {xs : Nat → Int32} (C0 : lw_At p s m meth c b 6 xs) (hK : va_K (dC, dI) vwCl (TYS cI cL cZ) s) (hN : nsW s) {A : Nat → Prop} (hA : ∀ q, s.heap.size ≤ q → A q) (hAe : A = fun q : Nat => s.heap.size ≤ q) (x0 m0 x1 x2 x3 x4 x5 x6 x7 x8 x9 x10 x11 x12 x13 x22 x23 x24 x25 x26 x27 x28 x29 x30 x31 x32 x33 x34 x35 x36 x37 x38 x40 x41 x42 x43 x44 x45 x46 x47 x48 x49 x50 x51 x52 x53 x54 x55 x56 x57 x58 x59 x60 x61 x62 x63 x64 x65 x66 x67 x68 x69 x70 x71 x72 x73 x74 x75 x76 m1 m2 m3 m4 m5 m6 m7 m8 m9 m10 m11 m12 m13 m14 m15 m16 m17 m18 m19 m20 m21 m22 m23 m24 m25 m26 m27 m28 m29 m30 m31 : Nat) {H : Heap} {locs : List Loc} (hP : va_P (dC, dI) vwCl [(x0, .inr (11, [.ref x1, .int 0, .ref x2, .ref x3, .ref x4, .ref x5, .ref x6, .ref x7, .int 0, .ref x8, .ref x9, .ref x10, .int 0, .int (-1), .ref x11, .int 0, .ref x12, .ref x13, .int 0])), (x3, .inr (7, [.ref x22, .int 0, .ref x23, .ref x24, .ref x25, .ref x26, .int 0, .ref x27, .ref x28, .ref x29, .ref x30, .ref x31, .int 0, .ref x32, .ref x33, .ref x34])), (x22, .inl (cI, 26, .inl z0)), (x23, .inl (cI, 6, .inl z0)), (x24, .inl (cI, 81, .inl z0)), (x25, .inl (cI, 20, .inl z0)), (x26, .inl (cI, 20, .inl z0)), (x29, .inl (cI, 36, .inl z0)), (x30, .inl (cI, 36, .inl z0)), (x32, .inr (9, [.ref x35, .ref x36, .int 0])), (x35, .inl (cI, 96, .inl z0)), (x36, .inl (cI, 12, .inl z0)), (x33, .inr (9, [.ref x37, .ref x38, .int 0])), (x37, .inl (cI, 64, .inl z0)), (x38, .inl (cI, 8, .inl z0)), (x5, .inr (6, [.int 0, .int 1, .ref x40, .ref x41, .ref x42, .int 0, .ref x43, .ref x44, .ref x45])), (x40, .inl (cI, 8, .inl z0)), (x41, .inr (9, [.ref x46, .ref x47, .int 0])), (x46, .inl (cI, 96, .inl z0)), (x47, .inl (cI, 12, .inl z0)), (x42, .inr (9, [.ref x48, .ref x49, .int 0])), (x48, .inl (cI, 96, .inl z0)), (x49, .inl (cI, 12, .inl z0)), (x6, .inr (7, [.ref x50, .int 0, .ref x51, .ref x52, .ref x53, .ref x54, .int 0, .ref x55, .ref x56, .ref x57, .ref x58, .ref x59, .int 0, .ref x60, .ref x61, .ref x62])), (x50, .inl (cI, 26, .inl z0)), (x51, .inl (cI, 6, .inl z0)), (x52, .inl (cI, 81, .inl z0)), (x53, .inl (cI, 20, .inl z0)), (x54, .inl (cI, 20, .inl z0)), (x57, .inl (cI, 36, .inl z0)), (x58, .inl (cI, 36, .inl z0)), (x60, .inr (9, [.ref x63, .ref x64, .int 0])), (x63, .inl (cI, 96, .inl z0)), (x64, .inl (cI, 12, .inl z0)), (x61, .inr (9, [.ref x65, .ref x66, .int 0])), (x65, .inl (cI, 64, .inl z0)), (x66, .inl (cI, 8, .inl z0)), (x7, .inr (6, [.int 0, .int 1, .ref x67, .ref x68, .ref x69, .int 0, .ref x70, .ref x71, .ref x72])), (x67, .inl (cI, 8, .inl z0)), (x68, .inr (9, [.ref x73, .ref x74, .int 0])), (x73, .inl (cI, 96, .inl z0)), (x74, .inl (cI, 12, .inl z0)), (x69, .inr (9, [.ref x75, .ref x76, .int 0])), (x75, .inl (cI, 96, .inl z0)), (x76, .inl (cI, 12, .inl z0)), (m0, .inr (12, [.ref m1, .ref m2, .ref m3, .int 0, .ref m4, .int 0, .int 0, .int 0, .int 0, .int 0, .int (-1), .int 0, .int 0, .int 0, .int 0, .ref m5, .ref m6, .ref m7, .ref m8, .ref m9, .ref m10, .ref m11, .ref m12, .int 0, .int 0, .int 0, .int 0, .int 0, .ref m13, .int 0, .ref m14, .ref m15, .int 0, .int 0, .ref m16, .int 0, .ref m17, .ref m18, .int 0, .int (-1), .ref m19, .ref m20, .ref m21, .int 0, .ref m22, .ref m23, .ref m24, .ref m25, .ref m26, .ref m27, .ref m28, .ref m29, .ref m30, .int 0, .int 0, .ref m31])), (m1, .inl (cI, 1560, .inl w0)), (m3, .inl (cI, 1560, .inl z0))] H) (hD : va_D A [(x0, .inr (11, [.ref x1, .int 0, .ref x2, .ref x3, .ref x4, .ref x5, .ref x6, .ref x7, .int 0, .ref x8, .ref x9, .ref x10, .int 0, .int (-1), .ref x11, .int 0, .ref x12, .ref x13, .int 0])), (x3, .inr (7, [.ref x22, .int 0, .ref x23, .ref x24, .ref x25, .ref x26, .int 0, .ref x27, .ref x28, .ref x29, .ref x30, .ref x31, .int 0, .ref x32, .ref x33, .ref x34])), (x22, .inl (cI, 26, .inl z0)), (x23, .inl (cI, 6, .inl z0)), (x24, .inl (cI, 81, .inl z0)), (x25, .inl (cI, 20, .inl z0)), (x26, .inl (cI, 20, .inl z0)), (x29, .inl (cI, 36, .inl z0)), (x30, .inl (cI, 36, .inl z0)), (x32, .inr (9, [.ref x35, .ref x36, .int 0])), (x35, .inl (cI, 96, .inl z0)), (x36, .inl (cI, 12, .inl z0)), (x33, .inr (9, [.ref x37, .ref x38, .int 0])), (x37, .inl (cI, 64, .inl z0)), (x38, .inl (cI, 8, .inl z0)), (x5, .inr (6, [.int 0, .int 1, .ref x40, .ref x41, .ref x42, .int 0, .ref x43, .ref x44, .ref x45])), (x40, .inl (cI, 8, .inl z0)), (x41, .inr (9, [.ref x46, .ref x47, .int 0])), (x46, .inl (cI, 96, .inl z0)), (x47, .inl (cI, 12, .inl z0)), (x42, .inr (9, [.ref x48, .ref x49, .int 0])), (x48, .inl (cI, 96, .inl z0)), (x49, .inl (cI, 12, .inl z0)), (x6, .inr (7, [.ref x50, .int 0, .ref x51, .ref x52, .ref x53, .ref x54, .int 0, .ref x55, .ref x56, .ref x57, .ref x58, .ref x59, .int 0, .ref x60, .ref x61, .ref x62])), (x50, .inl (cI, 26, .inl z0)), (x51, .inl (cI, 6, .inl z0)), (x52, .inl (cI, 81, .inl z0)), (x53, .inl (cI, 20, .inl z0)), (x54, .inl (cI, 20, .inl z0)), (x57, .inl (cI, 36, .inl z0)), (x58, .inl (cI, 36, .inl z0)), (x60, .inr (9, [.ref x63, .ref x64, .int 0])), (x63, .inl (cI, 96, .inl z0)), (x64, .inl (cI, 12, .inl z0)), (x61, .inr (9, [.ref x65, .ref x66, .int 0])), (x65, .inl (cI, 64, .inl z0)), (x66, .inl (cI, 8, .inl z0)), (x7, .inr (6, [.int 0, .int 1, .ref x67, .ref x68, .ref x69, .int 0, .ref x70, .ref x71, .ref x72])), (x67, .inl (cI, 8, .inl z0)), (x68, .inr (9, [.ref x73, .ref x74, .int 0])), (x73, .inl (cI, 96, .inl z0)), (x74, .inl (cI, 12, .inl z0)), (x69, .inr (9, [.ref x75, .ref x76, .int 0])), (x75, .inl (cI, 96, .inl z0)), (x76, .inl (cI, 12, .inl z0)), (m0, .inr (12, [.ref m1, .ref m2, .ref m3, .int 0, .ref m4, .int 0, .int 0, .int 0, .int 0, .int 0, .int (-1), .int 0, .int 0, .int 0, .int 0, .ref m5, .ref m6, .ref m7, .ref m8, .ref m9, .ref m10, .ref m11, .ref m12, .int 0, .int 0, .int 0, .int 0, .int 0, .ref m13, .int 0, .ref m14, .ref m15, .int 0, .int 0, .ref m16, .int 0, .ref m17, .ref m18, .int 0, .int (-1), .ref m19, .ref m20, .ref m21, .int 0, .ref m22, .ref m23, .ref m24, .ref m25, .ref m26, .ref m27, .ref m28, .ref m29, .ref m30, .int 0, .int 0, .ref m31])), (m1, .inl (cI, 1560, .inl w0)), (m3, .inl (cI, 1560, .inl z0))]) (hS : va_S A s.heap H locs) {ls : Array Slot} (hl : lv_has ls 4 [(3, .int 0), (2, .ref m0), (1, .ref x0), (0, .ref b)]) : W p l e room_1 s m #[Value.ref b] below meth c H locs 559 115398 (lw_Z below #[Value.ref b] s) (F0 m 871 ls []) := by
  obtain ⟨hx, hb, hr, hml, hown0, hts, hX, hbl, hlocks, hgv⟩ := C0
  have hown : s.vm.findClass RL = some m.cls := hown0
  have hU : ∀ w ∈ wsU, w.before #[Value.ref b] s = true := fun w h => hts w (wsU_in w h)
  have hbA : ¬ A b := by rw [hAe]; exact Nat.not_le.mpr hbl
  obtain ⟨s0, es0⟩ : ∃ y : Int32, xs 0 = y := ⟨_, rfl⟩
  obtain ⟨s1, es1⟩ : ∃ y : Int32, xs 1 = y := ⟨_, rfl⟩
  obtain ⟨s2, es2⟩ : ∃ y : Int32, xs 2 = y := ⟨_, rfl⟩
  obtain ⟨s3, es3⟩ : ∃ y : Int32, xs 3 = y := ⟨_, rfl⟩
  obtain ⟨s4, es4⟩ : ∃ y : Int32, xs 4 = y := ⟨_, rfl⟩
  obtain ⟨s5, es5⟩ : ∃ y : Int32, xs 5 = y := ⟨_, rfl⟩
  refine lv_aload_n hx hb dL_law_871 rfl (lv_at hl 2 rfl) ?_
  refine lv_aload_n hx hb dL_law_872 rfl (lv_at hl 3 rfl) ?_
  refine lv_iload_n hx hb dL_law_873 rfl (lv_at hl 0 rfl) ?_
  refine lv_iconst (v := 1) hx hb dL_law_874 (by decide) ?_
  refine lv_iadd hx hb dL_law_875 ?_
  refine tk_topi (y := 1) (by decide) ?_
  refine va_sld hx hb hX hbl hbA hS (vp_in_nI (n := 1) (by decide) (by decide)) dL_law_876 ?_
  refine tk_topi (y := s1) es1 ?_
  refine lv_if_eq (tgt := 884) hx hb dL_law_877 (by decide) (fun c_1 => ?_) (fun c_1 => ?_)
  · skip
    subst c_1
    refine lv_iconst (v := 0) hx hb dL_law_884 (by decide) ?_
    refine tk_ri (wr := [(m0, .inr (12, [.ref m1, .ref m2, .ref m3, .int 0, .ref m4, .int 0, .int 0, .int 0, .int 0, .int 0, .int (-1), .int 0, .int 0, .int 0, .int 0, .ref m5, .ref m6, .ref m7, .ref m8, .ref m9, .ref m10, .ref m11, .ref m12, .int 0, .int 0, .int 0, .int 0, .int 0, .ref m13, .int 0, .ref m14, .ref m15, .int 0, .int 0, .ref m16, .int 0, .ref m17, .ref m18, .int 0, .int (-1), .ref m19, .ref m20, .ref m21, .int 0, .ref m22, .ref m23, .ref m24, .ref m25, .ref m26, .ref m27, .ref m28, .ref m29, .ref m30, .int 0, .int 0, .ref m31])), (m1, .inl (cI, 1560, .inl w0)), (m3, .inl (cI, 1560, .inl z0))]) (tk_V (As := [.int 0]) (rest := []) (n := 1) hx hb hml hown hU hN (op_X11_image l (dC, dI) cI cL cZ H.size x0 0 x1 x2 x3 x4 x5 x6 x7 x8 x9 x10 x11 x12 x13 x22 x23 x24 x25 x26 x27 x28 x29 x30 x31 x32 x33 x34 x35 x36 x37 x38 x40 x41 x42 x43 x44 x45 x46 x47 x48 x49 x50 x51 x52 x53 x54 x55 x56 x57 x58 x59 x60 x61 x62 x63 x64 x65 x66 x67 x68 x69 x70 x71 x72 x73 x74 x75 x76) wd_1468 wd_1469 wd_1470 wd_2 wd_1471 (by decide +kernel) ⟨Nat.le_of_ble_eq_true rfl, Nat.le_of_ble_eq_true rfl⟩ hK hP hD [0, 1, 2, 3, 4, 5, 6, 7, 8, 9, 10, 11, 12, 13, 14, 15, 16, 17, 18, 19, 20, 21, 22, 23, 24, 25, 26, 27, 28, 29, 30, 31, 32, 33, 34, 35, 36, 37, 38, 39, 40, 41, 42, 43, 44] (by decide) rfl 0 11 rfl rfl rfl rfl hl.1 rfl (Nat.le_of_ble_eq_true rfl) dL_law_885 ⟨Nat.le_of_ble_eq_true rfl, Nat.le_of_ble_eq_true rfl⟩) hP hD hS hA [0, 1, 2, 3, 4, 5, 6, 7, 8, 9, 10, 11, 12, 13, 14, 15, 16, 17, 18, 19, 20, 21, 22, 23, 24, 25, 26, 27, 28, 29, 30, 31, 32, 33, 34, 35, 36, 37, 38, 39, 40, 41, 42, 43, 44] [45, 46, 47] rfl rfl (by decide) (by decide) (fun r_2 w_3 H locs hw hP hD hS => ?_)
    obtain ⟨rfl, rfl⟩ := hw
    have hP : va_P (dC, dI) vwCl [(m0, .inr (12, [.ref m1, .ref m2, .ref m3, .int 0, .ref m4, .int 0, .int 0, .int 0, .int 0, .int 0, .int (-1), .int 0, .int 0, .int 0, .int 0, .ref m5, .ref m6, .ref m7, .ref m8, .ref m9, .ref m10, .ref m11, .ref m12, .int 0, .int 0, .int 0, .int 0, .int 0, .ref m13, .int 0, .ref m14, .ref m15, .int 0, .int 0, .ref m16, .int 0, .ref m17, .ref m18, .int 0, .int (-1), .ref m19, .ref m20, .ref m21, .int 0, .ref m22, .ref m23, .ref m24, .ref m25, .ref m26, .ref m27, .ref m28, .ref m29, .ref m30, .int 0, .int 0, .ref m31])), (m1, .inl (cI, 1560, .inl w0)), (m3, .inl (cI, 1560, .inl z0))] H := hP
    have hD : va_D A [(m0, .inr (12, [.ref m1, .ref m2, .ref m3, .int 0, .ref m4, .int 0, .int 0, .int 0, .int 0, .int 0, .int (-1), .int 0, .int 0, .int 0, .int 0, .ref m5, .ref m6, .ref m7, .ref m8, .ref m9, .ref m10, .ref m11, .ref m12, .int 0, .int 0, .int 0, .int 0, .int 0, .ref m13, .int 0, .ref m14, .ref m15, .int 0, .int 0, .ref m16, .int 0, .ref m17, .ref m18, .int 0, .int (-1), .ref m19, .ref m20, .ref m21, .int 0, .ref m22, .ref m23, .ref m24, .ref m25, .ref m26, .ref m27, .ref m28, .ref m29, .ref m30, .int 0, .int 0, .ref m31])), (m1, .inl (cI, 1560, .inl w0)), (m3, .inl (cI, 1560, .inl z0))] := hD
    refine lv_aload_n hx hb dL_law_888 rfl (lv_at hl 1 rfl) ?_
    refine lv_aload_n hx hb dL_law_889 rfl (lv_at hl 3 rfl) ?_
    refine lv_iload_n hx hb dL_law_890 rfl (lv_at hl 0 rfl) ?_
    refine lv_iconst (v := 1) hx hb dL_law_891 (by decide) ?_
    refine lv_iadd hx hb dL_law_892 ?_
    refine tk_topi (y := 1) (by decide) ?_
    refine va_sld hx hb hX hbl hbA hS (vp_in_nI (n := 1) (by decide) (by decide)) dL_law_893 ?_
    refine tk_topi (y := 0) es1 ?_
    refine lv_if_eq (tgt := 901) hx hb dL_law_894 (by decide) (fun _ => ?_) (fun c9 => absurd (by decide) c9) 
    refine lv_iconst (v := 0) hx hb dL_law_901 (by decide) ?_
    refine tk_ri (wr := []) (tk_V (As := [.int 0]) (rest := [.int (an_image 0)]) (n := 1) hx hb hml hown hU hN (op_X12_image l (dC, dI) cI cL cZ H.size m0 0 m1 m2 m3 m4 m5 m6 m7 m8 m9 m10 m11 m12 m13 m14 m15 m16 m17 m18 m19 m20 m21 m22 m23 m24 m25 m26 m27 m28 m29 m30 m31) wd_1479 wd_1480 wd_1481 wd_5 wd_1482 (by decide +kernel) ⟨Nat.le_of_ble_eq_true rfl, Nat.le_of_ble_eq_true rfl⟩ hK hP hD [0, 1, 2] (by decide) rfl 0 12 rfl rfl rfl rfl hl.1 rfl (Nat.le_of_ble_eq_true rfl) dL_law_902 ⟨Nat.le_of_ble_eq_true rfl, Nat.le_of_ble_eq_true rfl⟩) hP hD hS hA [0, 1, 2] [] rfl rfl (by decide) (by decide) (fun r_4 w_5 H locs hw hP hD hS => ?_)
    obtain ⟨rfl, rfl⟩ := hw
    have hP : va_P (dC, dI) vwCl [] H := hP
    have hD : va_D A [] := hD
    refine lv_icmp_eq (tgt := 933) hx hb dL_law_905 (by decide) (fun _ => ?_) (fun c9 => absurd rfl c9)
    refine lv_iinc (v := 6) (lv' := [(3, .int 6), (2, .ref m0), (1, .ref x0), (0, .ref b)]) hx hb dL_law_933 hl (k := 0) rfl (by decide) (by decide) rfl (fun ls hl => ?_)
    refine lv_goto (tgt := 18) hx hb dL_law_936 (by decide) ?_
    refine lv_iload_n hx hb dL_law_18 rfl (lv_at hl 0 rfl) ?_
    refine lv_aload_n hx hb dL_law_19 rfl (lv_at hl 3 rfl) ?_
    refine va_slen hx hb hX hbl hbA hS dL_law_20 ?_
    refine tk_topi (y := 6) rfl ?_
    refine lv_bipush (v := 6) hx hb dL_law_21 (by decide) ?_
    refine lv_isub hx hb dL_law_23 ?_
    refine tk_topi (y := 0) (by decide) ?_
    refine lv_icmp_gt (tgt := 939) hx hb dL_law_24 (by decide) (fun _ => ?_) (fun c9 => absurd (by decide) c9) 
    refine lv_iconst (v := 1) hx hb dL_law_939 (by decide) ?_
    refine va_forget (fun q hq => by have h9 := hS.2.2 q hq; rw [hAe] at h9; exact h9) ?_
    refine W.widen (k := 600000) (n := 7302250) (Nat.le_of_ble_eq_true rfl) (Nat.le_of_ble_eq_true rfl) ?_
    exact lw_ret hx hb hr hlocks dL_law_940
  · skip
    refine lv_iconst (v := 1) hx hb dL_law_880 (by decide) ?_
    refine lv_goto (tgt := 885) hx hb dL_law_881 (by decide) ?_
    refine tk_ri (wr := [(m0, .inr (12, [.ref m1, .ref m2, .ref m3, .int 0, .ref m4, .int 0, .int 0, .int 0, .int 0, .int 0, .int (-1), .int 0, .int 0, .int 0, .int 0, .ref m5, .ref m6, .ref m7, .ref m8, .ref m9, .ref m10, .ref m11, .ref m12, .int 0, .int 0, .int 0, .int 0, .int 0, .ref m13, .int 0, .ref m14, .ref m15, .int 0, .int 0, .ref m16, .int 0, .ref m17, .ref m18, .int 0, .int (-1), .ref m19, .ref m20, .ref m21, .int 0, .ref m22, .ref m23, .ref m24, .ref m25, .ref m26, .ref m27, .ref m28, .ref m29, .ref m30, .int 0, .int 0, .ref m31])), (m1, .inl (cI, 1560, .inl w0)), (m3, .inl (cI, 1560, .inl z0))]) (tk_V (As := [.int 1]) (rest := []) (n := 1) hx hb hml hown hU hN (op_X11_image l (dC, dI) cI cL cZ H.size x0 1 x1 x2 x3 x4 x5 x6 x7 x8 x9 x10 x11 x12 x13 x22 x23 x24 x25 x26 x27 x28 x29 x30 x31 x32 x33 x34 x35 x36 x37 x38 x40 x41 x42 x43 x44 x45 x46 x47 x48 x49 x50 x51 x52 x53 x54 x55 x56 x57 x58 x59 x60 x61 x62 x63 x64 x65 x66 x67 x68 x69 x70 x71 x72 x73 x74 x75 x76) wd_1468 wd_1469 wd_1470 wd_2 wd_1471 (by decide +kernel) ⟨Nat.le_of_ble_eq_true rfl, Nat.le_of_ble_eq_true rfl⟩ hK hP hD [0, 1, 2, 3, 4, 5, 6, 7, 8, 9, 10, 11, 12, 13, 14, 15, 16, 17, 18, 19, 20, 21, 22, 23, 24, 25, 26, 27, 28, 29, 30, 31, 32, 33, 34, 35, 36, 37, 38, 39, 40, 41, 42, 43, 44] (by decide) rfl 0 11 rfl rfl rfl rfl hl.1 rfl (Nat.le_of_ble_eq_true rfl) dL_law_885 ⟨Nat.le_of_ble_eq_true rfl, Nat.le_of_ble_eq_true rfl⟩) hP hD hS hA [0, 1, 2, 3, 4, 5, 6, 7, 8, 9, 10, 11, 12, 13, 14, 15, 16, 17, 18, 19, 20, 21, 22, 23, 24, 25, 26, 27, 28, 29, 30, 31, 32, 33, 34, 35, 36, 37, 38, 39, 40, 41, 42, 43, 44] [45, 46, 47] rfl rfl (by decide) (by decide) (fun r_6 w_7 H locs hw hP hD hS => ?_)
    obtain ⟨rfl, rfl⟩ := hw
    have hP : va_P (dC, dI) vwCl [(m0, .inr (12, [.ref m1, .ref m2, .ref m3, .int 0, .ref m4, .int 0, .int 0, .int 0, .int 0, .int 0, .int (-1), .int 0, .int 0, .int 0, .int 0, .ref m5, .ref m6, .ref m7, .ref m8, .ref m9, .ref m10, .ref m11, .ref m12, .int 0, .int 0, .int 0, .int 0, .int 0, .ref m13, .int 0, .ref m14, .ref m15, .int 0, .int 0, .ref m16, .int 0, .ref m17, .ref m18, .int 0, .int (-1), .ref m19, .ref m20, .ref m21, .int 0, .ref m22, .ref m23, .ref m24, .ref m25, .ref m26, .ref m27, .ref m28, .ref m29, .ref m30, .int 0, .int 0, .ref m31])), (m1, .inl (cI, 1560, .inl w0)), (m3, .inl (cI, 1560, .inl z0))] H := hP
    have hD : va_D A [(m0, .inr (12, [.ref m1, .ref m2, .ref m3, .int 0, .ref m4, .int 0, .int 0, .int 0, .int 0, .int 0, .int (-1), .int 0, .int 0, .int 0, .int 0, .ref m5, .ref m6, .ref m7, .ref m8, .ref m9, .ref m10, .ref m11, .ref m12, .int 0, .int 0, .int 0, .int 0, .int 0, .ref m13, .int 0, .ref m14, .ref m15, .int 0, .int 0, .ref m16, .int 0, .ref m17, .ref m18, .int 0, .int (-1), .ref m19, .ref m20, .ref m21, .int 0, .ref m22, .ref m23, .ref m24, .ref m25, .ref m26, .ref m27, .ref m28, .ref m29, .ref m30, .int 0, .int 0, .ref m31])), (m1, .inl (cI, 1560, .inl w0)), (m3, .inl (cI, 1560, .inl z0))] := hD
    refine lv_aload_n hx hb dL_law_888 rfl (lv_at hl 1 rfl) ?_
    refine lv_aload_n hx hb dL_law_889 rfl (lv_at hl 3 rfl) ?_
    refine lv_iload_n hx hb dL_law_890 rfl (lv_at hl 0 rfl) ?_
    refine lv_iconst (v := 1) hx hb dL_law_891 (by decide) ?_
    refine lv_iadd hx hb dL_law_892 ?_
    refine tk_topi (y := 1) (by decide) ?_
    refine va_sld hx hb hX hbl hbA hS (vp_in_nI (n := 1) (by decide) (by decide)) dL_law_893 ?_
    refine tk_topi (y := s1) es1 ?_
    refine lv_if_eq (tgt := 901) hx hb dL_law_894 (by decide) (fun c_8 => ?_) (fun c_8 => ?_)
    · skip
      exfalso
      simp only [Int32.lt_iff_toInt_lt, Int32.le_iff_toInt_le, ← Int32.toInt_inj, ti_0] at c_1 c_8
      omega
    · skip
      refine lv_iconst (v := 1) hx hb dL_law_897 (by decide) ?_
      refine lv_goto (tgt := 902) hx hb dL_law_898 (by decide) ?_
      refine tk_ri (wr := []) (tk_V (As := [.int 1]) (rest := [.int (an_image 1)]) (n := 1) hx hb hml hown hU hN (op_X12_image l (dC, dI) cI cL cZ H.size m0 1 m1 m2 m3 m4 m5 m6 m7 m8 m9 m10 m11 m12 m13 m14 m15 m16 m17 m18 m19 m20 m21 m22 m23 m24 m25 m26 m27 m28 m29 m30 m31) wd_1479 wd_1480 wd_1481 wd_5 wd_1482 (by decide +kernel) ⟨Nat.le_of_ble_eq_true rfl, Nat.le_of_ble_eq_true rfl⟩ hK hP hD [0, 1, 2] (by decide) rfl 0 12 rfl rfl rfl rfl hl.1 rfl (Nat.le_of_ble_eq_true rfl) dL_law_902 ⟨Nat.le_of_ble_eq_true rfl, Nat.le_of_ble_eq_true rfl⟩) hP hD hS hA [0, 1, 2] [] rfl rfl (by decide) (by decide) (fun r_9 w_10 H locs hw hP hD hS => ?_)
      obtain ⟨rfl, rfl⟩ := hw
      have hP : va_P (dC, dI) vwCl [] H := hP
      have hD : va_D A [] := hD
      refine lv_icmp_eq (tgt := 933) hx hb dL_law_905 (by decide) (fun _ => ?_) (fun c9 => absurd rfl c9)
      refine lv_iinc (v := 6) (lv' := [(3, .int 6), (2, .ref m0), (1, .ref x0), (0, .ref b)]) hx hb dL_law_933 hl (k := 0) rfl (by decide) (by decide) rfl (fun ls hl => ?_)
      refine lv_goto (tgt := 18) hx hb dL_law_936 (by decide) ?_
      refine lv_iload_n hx hb dL_law_18 rfl (lv_at hl 0 rfl) ?_
      refine lv_aload_n hx hb dL_law_19 rfl (lv_at hl 3 rfl) ?_
      refine va_slen hx hb hX hbl hbA hS dL_law_20 ?_
      refine tk_topi (y := 6) rfl ?_
      refine lv_bipush (v := 6) hx hb dL_law_21 (by decide) ?_
      refine lv_isub hx hb dL_law_23 ?_
      refine tk_topi (y := 0) (by decide) ?_
      refine lv_icmp_gt (tgt := 939) hx hb dL_law_24 (by decide) (fun _ => ?_) (fun c9 => absurd (by decide) c9) 
      refine lv_iconst (v := 1) hx hb dL_law_939 (by decide) ?_
      refine va_forget (fun q hq => by have h9 := hS.2.2 q hq; rw [hAe] at h9; exact h9) ?_
      refine W.widen (k := 600000) (n := 7302250) (Nat.le_of_ble_eq_true rfl) (Nat.le_of_ble_eq_true rfl) ?_
      exact lw_ret hx hb hr hlocks dL_law_940
set_option maxHeartbeats 8000000 in
set_option maxRecDepth 100000 in
theorem law_look {p : Program} {l : Launch} {e : Env} {s : State} {m : MethodId} {below : List Frame} {meth : Method} {c : Code} {dC : Nat → ClassId} {dI : Nat → Nat → Nat} {cI cL cZ : ClassId} {b : Nat} {xs : Nat → Int32} (C0 : lw_At p s m meth c b 6 xs) (hK : va_K (dC, dI) vwCl (TYS cI cL cZ) s) (hN : nsW s) {A : Nat → Prop} (hA : ∀ q, s.heap.size ≤ q → A q) (hAe : A = fun q : Nat => s.heap.size ≤ q) (x0 m0 x1 x2 x3 x4 x5 x6 x7 x8 x9 x10 x11 x12 x13 x22 x23 x24 x25 x26 x27 x28 x29 x30 x31 x32 x33 x34 x35 x36 x37 x38 x40 x41 x42 x43 x44 x45 x46 x47 m1 m2 m3 m4 m5 m6 m7 m8 m9 m10 m11 m12 m13 m14 m15 m16 m17 m18 m19 m20 m21 m22 m23 m24 m25 m26 m27 m28 m29 m30 m31 : Nat) {H : Heap} {locs : List Loc} (hP : va_P (dC, dI) vwCl [(x0, .inr (11, [.ref x1, .int 0, .ref x2, .ref x3, .ref x4, .ref x5, .ref x6, .ref x7, .int 0, .ref x8, .ref x9, .ref x10, .int 0, .int (-1), .ref x11, .int 0, .ref x12, .ref x13, .int 0])), (x3, .inr (7, [.ref x22, .int 0, .ref x23, .ref x24, .ref x25, .ref x26, .int 0, .ref x27, .ref x28, .ref x29, .ref x30, .ref x31, .int 0, .ref x32, .ref x33, .ref x34])), (x23, .inl (cI, 6, .inl z0)), (x32, .inr (9, [.ref x35, .ref x36, .int 0])), (x33, .inr (9, [.ref x37, .ref x38, .int 0])), (x5, .inr (6, [.int 0, .int 1, .ref x40, .ref x41, .ref x42, .int 0, .ref x43, .ref x44, .ref x45])), (x41, .inr (9, [.ref x46, .ref x47, .int 0])), (m0, .inr (12, [.ref m1, .ref m2, .ref m3, .int 0, .ref m4, .int 0, .int 0, .int 0, .int 0, .int 0, .int (-1), .int 0, .int 0, .int 0, .int 0, .ref m5, .ref m6, .ref m7, .ref m8, .ref m9, .ref m10, .ref m11, .ref m12, .int 0, .int 0, .int 0, .int 0, .int 0, .ref m13, .int 0, .ref m14, .ref m15, .int 0, .int 0, .ref m16, .int 0, .ref m17, .ref m18, .int 0, .int (-1), .ref m19, .ref m20, .ref m21, .int 0, .ref m22, .ref m23, .ref m24, .ref m25, .ref m26, .ref m27, .ref m28, .ref m29, .ref m30, .int 0, .int 0, .ref m31])), (m1, .inl (cI, 1560, .inl w0))] H) (hD : va_D A [(x0, .inr (11, [.ref x1, .int 0, .ref x2, .ref x3, .ref x4, .ref x5, .ref x6, .ref x7, .int 0, .ref x8, .ref x9, .ref x10, .int 0, .int (-1), .ref x11, .int 0, .ref x12, .ref x13, .int 0])), (x3, .inr (7, [.ref x22, .int 0, .ref x23, .ref x24, .ref x25, .ref x26, .int 0, .ref x27, .ref x28, .ref x29, .ref x30, .ref x31, .int 0, .ref x32, .ref x33, .ref x34])), (x23, .inl (cI, 6, .inl z0)), (x32, .inr (9, [.ref x35, .ref x36, .int 0])), (x33, .inr (9, [.ref x37, .ref x38, .int 0])), (x5, .inr (6, [.int 0, .int 1, .ref x40, .ref x41, .ref x42, .int 0, .ref x43, .ref x44, .ref x45])), (x41, .inr (9, [.ref x46, .ref x47, .int 0])), (m0, .inr (12, [.ref m1, .ref m2, .ref m3, .int 0, .ref m4, .int 0, .int 0, .int 0, .int 0, .int 0, .int (-1), .int 0, .int 0, .int 0, .int 0, .ref m5, .ref m6, .ref m7, .ref m8, .ref m9, .ref m10, .ref m11, .ref m12, .int 0, .int 0, .int 0, .int 0, .int 0, .ref m13, .int 0, .ref m14, .ref m15, .int 0, .int 0, .ref m16, .int 0, .ref m17, .ref m18, .int 0, .int (-1), .ref m19, .ref m20, .ref m21, .int 0, .ref m22, .ref m23, .ref m24, .ref m25, .ref m26, .ref m27, .ref m28, .ref m29, .ref m30, .int 0, .int 0, .ref m31])), (m1, .inl (cI, 1560, .inl w0))]) (hS : va_S A s.heap H locs) {ls : Array Slot} (hl : lv_has ls 4 [(3, .int 0), (2, .ref m0), (1, .ref x0), (0, .ref b)]) : W p l e room_1 s m #[Value.ref b] below meth c H locs 559 115398 (lw_Z below #[Value.ref b] s) (F0 m 910 ls []) := by
  obtain ⟨hx, hb, hr, hml, hown0, hts, hX, hbl, hlocks, hgv⟩ := C0
  have hown : s.vm.findClass RL = some m.cls := hown0
  have hU : ∀ w ∈ wsU, w.before #[Value.ref b] s = true := fun w h => hts w (wsU_in w h)
  have hbA : ¬ A b := by rw [hAe]; exact Nat.not_le.mpr hbl
  obtain ⟨s0, es0⟩ : ∃ y : Int32, xs 0 = y := ⟨_, rfl⟩
  obtain ⟨s1, es1⟩ : ∃ y : Int32, xs 1 = y := ⟨_, rfl⟩
  obtain ⟨s2, es2⟩ : ∃ y : Int32, xs 2 = y := ⟨_, rfl⟩
  obtain ⟨s3, es3⟩ : ∃ y : Int32, xs 3 = y := ⟨_, rfl⟩
  obtain ⟨s4, es4⟩ : ∃ y : Int32, xs 4 = y := ⟨_, rfl⟩
  obtain ⟨s5, es5⟩ : ∃ y : Int32, xs 5 = y := ⟨_, rfl⟩
  refine lv_aload_n hx hb dL_law_910 rfl (lv_at hl 2 rfl) ?_
  refine lv_aload_n hx hb dL_law_911 rfl (lv_at hl 3 rfl) ?_
  refine lv_iload_n hx hb dL_law_912 rfl (lv_at hl 0 rfl) ?_
  refine lv_iconst (v := 1) hx hb dL_law_913 (by decide) ?_
  refine lv_iadd hx hb dL_law_914 ?_
  refine tk_topi (y := 1) (by decide) ?_
  refine va_sld hx hb hX hbl hbA hS (vp_in_nI (n := 1) (by decide) (by decide)) dL_law_915 ?_
  refine tk_topi (y := s1) es1 ?_
  refine tk_ri (wr := [(m0, .inr (12, [.ref m1, .ref m2, .ref m3, .int 0, .ref m4, .int 0, .int 0, .int 0, .int 0, .int 0, .int (-1), .int 0, .int 0, .int 0, .int 0, .ref m5, .ref m6, .ref m7, .ref m8, .ref m9, .ref m10, .ref m11, .ref m12, .int 0, .int 0, .int 0, .int 0, .int 0, .ref m13, .int 0, .ref m14, .ref m15, .int 0, .int 0, .ref m16, .int 0, .ref m17, .ref m18, .int 0, .int (-1), .ref m19, .ref m20, .ref m21, .int 0, .ref m22, .ref m23, .ref m24, .ref m25, .ref m26, .ref m27, .ref m28, .ref m29, .ref m30, .int 0, .int 0, .ref m31])), (m1, .inl (cI, 1560, .inl w0))]) (tk_V (As := [.int s1]) (rest := []) (n := 1) hx hb hml hown hU hN (op_X11_look l (dC, dI) cI cL cZ H.size x0 s1 x1 x2 x3 x4 x5 x6 x7 x8 x9 x10 x11 x12 x13 x22 x23 x24 x25 x26 x27 x28 x29 x30 x31 x32 x33 x34 x35 x36 x37 x38 x40 x41 x42 x43 x44 x45 x46 x47) wd_1484 wd_1485 wd_1486 wd_2 wd_1487 (by decide +kernel) ⟨Nat.le_of_ble_eq_true rfl, Nat.le_of_ble_eq_true rfl⟩ hK hP hD [0, 1, 2, 3, 4, 5, 6] (by decide) rfl 0 11 rfl rfl rfl rfl hl.1 rfl (Nat.le_of_ble_eq_true rfl) dL_law_916 ⟨Nat.le_of_ble_eq_true rfl, Nat.le_of_ble_eq_true rfl⟩) hP hD hS hA [0, 1, 2, 3, 4, 5, 6] [7, 8] rfl rfl (by decide) (by decide) (fun r_1 w_2 H locs hw hP hD hS => ?_)
  obtain ⟨rfl, rfl⟩ := hw
  have hP : va_P (dC, dI) vwCl [(m0, .inr (12, [.ref m1, .ref m2, .ref m3, .int 0, .ref m4, .int 0, .int 0, .int 0, .int 0, .int 0, .int (-1), .int 0, .int 0, .int 0, .int 0, .ref m5, .ref m6, .ref m7, .ref m8, .ref m9, .ref m10, .ref m11, .ref m12, .int 0, .int 0, .int 0, .int 0, .int 0, .ref m13, .int 0, .ref m14, .ref m15, .int 0, .int 0, .ref m16, .int 0, .ref m17, .ref m18, .int 0, .int (-1), .ref m19, .ref m20, .ref m21, .int 0, .ref m22, .ref m23, .ref m24, .ref m25, .ref m26, .ref m27, .ref m28, .ref m29, .ref m30, .int 0, .int 0, .ref m31])), (m1, .inl (cI, 1560, .inl w0))] H := hP
  have hD : va_D A [(m0, .inr (12, [.ref m1, .ref m2, .ref m3, .int 0, .ref m4, .int 0, .int 0, .int 0, .int 0, .int 0, .int (-1), .int 0, .int 0, .int 0, .int 0, .ref m5, .ref m6, .ref m7, .ref m8, .ref m9, .ref m10, .ref m11, .ref m12, .int 0, .int 0, .int 0, .int 0, .int 0, .ref m13, .int 0, .ref m14, .ref m15, .int 0, .int 0, .ref m16, .int 0, .ref m17, .ref m18, .int 0, .int (-1), .ref m19, .ref m20, .ref m21, .int 0, .ref m22, .ref m23, .ref m24, .ref m25, .ref m26, .ref m27, .ref m28, .ref m29, .ref m30, .int 0, .int 0, .ref m31])), (m1, .inl (cI, 1560, .inl w0))] := hD
  refine lv_aload_n hx hb dL_law_919 rfl (lv_at hl 1 rfl) ?_
  refine lv_aload_n hx hb dL_law_920 rfl (lv_at hl 3 rfl) ?_
  refine lv_iload_n hx hb dL_law_921 rfl (lv_at hl 0 rfl) ?_
  refine lv_iconst (v := 1) hx hb dL_law_922 (by decide) ?_
  refine lv_iadd hx hb dL_law_923 ?_
  refine tk_topi (y := 1) (by decide) ?_
  refine va_sld hx hb hX hbl hbA hS (vp_in_nI (n := 1) (by decide) (by decide)) dL_law_924 ?_
  refine tk_topi (y := s1) es1 ?_
  refine tk_ri (wr := []) (tk_V (As := [.int s1]) (rest := [.int (an_look s1)]) (n := 1) hx hb hml hown hU hN (op_X12_look l (dC, dI) cI cL cZ H.size m0 s1 m1 m2 m3 m4 m5 m6 m7 m8 m9 m10 m11 m12 m13 m14 m15 m16 m17 m18 m19 m20 m21 m22 m23 m24 m25 m26 m27 m28 m29 m30 m31) wd_1494 wd_1495 wd_1496 wd_5 wd_1497 (by decide +kernel) ⟨Nat.le_of_ble_eq_true rfl, Nat.le_of_ble_eq_true rfl⟩ hK hP hD [0, 1] (by decide) rfl 0 12 rfl rfl rfl rfl hl.1 rfl (Nat.le_of_ble_eq_true rfl) dL_law_925 ⟨Nat.le_of_ble_eq_true rfl, Nat.le_of_ble_eq_true rfl⟩) hP hD hS hA [0, 1] [] rfl rfl (by decide) (by decide) (fun r_3 w_4 H locs hw hP hD hS => ?_)
  obtain ⟨rfl, rfl⟩ := hw
  have hP : va_P (dC, dI) vwCl [] H := hP
  have hD : va_D A [] := hD
  refine lv_icmp_eq (tgt := 933) hx hb dL_law_928 (by decide) (fun _ => ?_) (fun c9 => absurd rfl c9)
  refine lv_iinc (v := 6) (lv' := [(3, .int 6), (2, .ref m0), (1, .ref x0), (0, .ref b)]) hx hb dL_law_933 hl (k := 0) rfl (by decide) (by decide) rfl (fun ls hl => ?_)
  refine lv_goto (tgt := 18) hx hb dL_law_936 (by decide) ?_
  refine lv_iload_n hx hb dL_law_18 rfl (lv_at hl 0 rfl) ?_
  refine lv_aload_n hx hb dL_law_19 rfl (lv_at hl 3 rfl) ?_
  refine va_slen hx hb hX hbl hbA hS dL_law_20 ?_
  refine tk_topi (y := 6) rfl ?_
  refine lv_bipush (v := 6) hx hb dL_law_21 (by decide) ?_
  refine lv_isub hx hb dL_law_23 ?_
  refine tk_topi (y := 0) (by decide) ?_
  refine lv_icmp_gt (tgt := 939) hx hb dL_law_24 (by decide) (fun _ => ?_) (fun c9 => absurd (by decide) c9) 
  refine lv_iconst (v := 1) hx hb dL_law_939 (by decide) ?_
  refine va_forget (fun q hq => by have h9 := hS.2.2 q hq; rw [hAe] at h9; exact h9) ?_
  refine W.widen (k := 600000) (n := 7302250) (Nat.le_of_ble_eq_true rfl) (Nat.le_of_ble_eq_true rfl) ?_
  exact lw_ret hx hb hr hlocks dL_law_940
