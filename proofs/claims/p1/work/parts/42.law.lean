set_option maxHeartbeats 8000000 in
set_option maxRecDepth 100000 in
theorem law_where {p : Program} {l : Launch} {e : Env} {s : State} {m : MethodId} {below : List Frame} {meth : Method} {c : Code} {dC : Nat → ClassId} {dI : Nat → Nat → Nat} {cI cL cZ : ClassId} {b : Nat} {xs : Nat → Int32} (C0 : lw_At p s m meth c b 6 xs) (hK : va_K (dC, dI) vwCl (TYS cI cL cZ) s) (hN : nsW s) {A : Nat → Prop} (hA : ∀ q, s.heap.size ≤ q → A q) (hAe : A = fun q : Nat => s.heap.size ≤ q) (x0 m0 x1 x2 x3 x4 x5 x6 x7 x8 x9 x10 x11 x12 x13 m1 m2 m3 m4 m5 m6 m7 m8 m9 m10 m11 m12 m13 m14 m15 m16 m17 m18 m19 m20 m21 m22 m23 m24 m25 m26 m27 m28 m29 m30 m31 : Nat) {H : Heap} {locs : List Loc} (hP : va_P (dC, dI) vwCl [(x0, .inr (11, [.ref x1, .int 0, .ref x2, .ref x3, .ref x4, .ref x5, .ref x6, .ref x7, .int 0, .ref x8, .ref x9, .ref x10, .int 0, .int (-1), .ref x11, .int 0, .ref x12, .ref x13, .int 0])), (m0, .inr (12, [.ref m1, .ref m2, .ref m3, .int 0, .ref m4, .int 0, .int 0, .int 0, .int 0, .int 0, .int (-1), .int 0, .int 0, .int 0, .int 0, .ref m5, .ref m6, .ref m7, .ref m8, .ref m9, .ref m10, .ref m11, .ref m12, .int 0, .int 0, .int 0, .int 0, .int 0, .ref m13, .int 0, .ref m14, .ref m15, .int 0, .int 0, .ref m16, .int 0, .ref m17, .ref m18, .int 0, .int (-1), .ref m19, .ref m20, .ref m21, .int 0, .ref m22, .ref m23, .ref m24, .ref m25, .ref m26, .ref m27, .ref m28, .ref m29, .ref m30, .int 0, .int 0, .ref m31]))] H) (hD : va_D A [(x0, .inr (11, [.ref x1, .int 0, .ref x2, .ref x3, .ref x4, .ref x5, .ref x6, .ref x7, .int 0, .ref x8, .ref x9, .ref x10, .int 0, .int (-1), .ref x11, .int 0, .ref x12, .ref x13, .int 0])), (m0, .inr (12, [.ref m1, .ref m2, .ref m3, .int 0, .ref m4, .int 0, .int 0, .int 0, .int 0, .int 0, .int (-1), .int 0, .int 0, .int 0, .int 0, .ref m5, .ref m6, .ref m7, .ref m8, .ref m9, .ref m10, .ref m11, .ref m12, .int 0, .int 0, .int 0, .int 0, .int 0, .ref m13, .int 0, .ref m14, .ref m15, .int 0, .int 0, .ref m16, .int 0, .ref m17, .ref m18, .int 0, .int (-1), .ref m19, .ref m20, .ref m21, .int 0, .ref m22, .ref m23, .ref m24, .ref m25, .ref m26, .ref m27, .ref m28, .ref m29, .ref m30, .int 0, .int 0, .ref m31]))]) (hS : va_S A s.heap H locs) {ls : Array Slot} (hl : lv_has ls 4 [(3, .int 0), (2, .ref m0), (1, .ref x0), (0, .ref b)]) : W p l e room_1 s m #[Value.ref b] below meth c H locs 559 115398 (lw_Z below #[Value.ref b] s) (F0 m 450 ls []) := by
  obtain ⟨hx, hb, hr, hml, hown0, hts, hX, hbl, hlocks, hgv⟩ := C0
  have hown : s.vm.findClass RL = some m.cls := hown0
  have hU : ∀ w ∈ wsU, w.before #[Value.ref b] s = true := fun w h => hts w (wsU_in w h)
  have hbA : ¬ A b := by rw [hAe]; exact Nat.not_le.mpr hbl
  obtain ⟨s0, es0⟩ : ∃ y : Int32, xs 0 = y := ⟨_, rfl⟩
  obtain ⟨s1, es1⟩ : ∃ y : Int32, xs 1 = y := ⟨_, rfl⟩
  obtain ⟨s2, es2⟩ : ∃ y : Int32, xs 2 = y := ⟨_, rfl⟩
  obtain ⟨s3, es3⟩ : ∃ y : Int32, xs 3 = y := ⟨_, rfl⟩
  obtain ⟨s4, es4⟩ : ∃ y : Int32, xs 4 = y := ⟨_, rfl⟩
  obtain ⟨s5, es5⟩ : ∃ y : Int32, xs 5 = y := ⟨_, rfl⟩
  refine lv_aload_n hx hb dL_law_450 rfl (lv_at hl 2 rfl) ?_
  refine tk_ri (wr := [(m0, .inr (12, [.ref m1, .ref m2, .ref m3, .int 0, .ref m4, .int 0, .int 0, .int 0, .int 0, .int 0, .int (-1), .int 0, .int 0, .int 0, .int 0, .ref m5, .ref m6, .ref m7, .ref m8, .ref m9, .ref m10, .ref m11, .ref m12, .int 0, .int 0, .int 0, .int 0, .int 0, .ref m13, .int 0, .ref m14, .ref m15, .int 0, .int 0, .ref m16, .int 0, .ref m17, .ref m18, .int 0, .int (-1), .ref m19, .ref m20, .ref m21, .int 0, .ref m22, .ref m23, .ref m24, .ref m25, .ref m26, .ref m27, .ref m28, .ref m29, .ref m30, .int 0, .int 0, .ref m31]))]) (tk_V (As := []) (rest := []) (n := 0) hx hb hml hown hU hN (op_X11_where l (dC, dI) cI cL cZ H.size x0 x1 x2 x3 x4 x5 x6 x7 x8 x9 x10 x11 x12 x13) wd_1089 wd_1090 wd_1091 wd_2 wd_1092 (by decide +kernel) ⟨Nat.le_of_ble_eq_true rfl, Nat.le_of_ble_eq_true rfl⟩ hK hP hD [0] (by decide) rfl 0 11 rfl rfl rfl rfl hl.1 rfl (Nat.le_of_ble_eq_true rfl) dL_law_451 ⟨Nat.le_of_ble_eq_true rfl, Nat.le_of_ble_eq_true rfl⟩) hP hD hS hA [0] [1] rfl rfl (by decide) (by decide) (fun r_1 w_2 H locs hw hP hD hS => ?_)
  obtain ⟨rfl, rfl⟩ := hw
  have hP : va_P (dC, dI) vwCl [(m0, .inr (12, [.ref m1, .ref m2, .ref m3, .int 0, .ref m4, .int 0, .int 0, .int 0, .int 0, .int 0, .int (-1), .int 0, .int 0, .int 0, .int 0, .ref m5, .ref m6, .ref m7, .ref m8, .ref m9, .ref m10, .ref m11, .ref m12, .int 0, .int 0, .int 0, .int 0, .int 0, .ref m13, .int 0, .ref m14, .ref m15, .int 0, .int 0, .ref m16, .int 0, .ref m17, .ref m18, .int 0, .int (-1), .ref m19, .ref m20, .ref m21, .int 0, .ref m22, .ref m23, .ref m24, .ref m25, .ref m26, .ref m27, .ref m28, .ref m29, .ref m30, .int 0, .int 0, .ref m31]))] H := hP
  have hD : va_D A [(m0, .inr (12, [.ref m1, .ref m2, .ref m3, .int 0, .ref m4, .int 0, .int 0, .int 0, .int 0, .int 0, .int (-1), .int 0, .int 0, .int 0, .int 0, .ref m5, .ref m6, .ref m7, .ref m8, .ref m9, .ref m10, .ref m11, .ref m12, .int 0, .int 0, .int 0, .int 0, .int 0, .ref m13, .int 0, .ref m14, .ref m15, .int 0, .int 0, .ref m16, .int 0, .ref m17, .ref m18, .int 0, .int (-1), .ref m19, .ref m20, .ref m21, .int 0, .ref m22, .ref m23, .ref m24, .ref m25, .ref m26, .ref m27, .ref m28, .ref m29, .ref m30, .int 0, .int 0, .ref m31]))] := hD
  refine lv_aload_n hx hb dL_law_454 rfl (lv_at hl 1 rfl) ?_
  refine tk_ri (wr := []) (tk_V (As := []) (rest := [.int (-1)]) (n := 0) hx hb hml hown hU hN (op_X12_where l (dC, dI) cI cL cZ H.size m0 m1 m2 m3 m4 m5 m6 m7 m8 m9 m10 m11 m12 m13 m14 m15 m16 m17 m18 m19 m20 m21 m22 m23 m24 m25 m26 m27 m28 m29 m30 m31) wd_1093 wd_1094 wd_1095 wd_5 wd_1096 (by decide +kernel) ⟨Nat.le_of_ble_eq_true rfl, Nat.le_of_ble_eq_true rfl⟩ hK hP hD [0] (by decide) rfl 0 12 rfl rfl rfl rfl hl.1 rfl (Nat.le_of_ble_eq_true rfl) dL_law_455 ⟨Nat.le_of_ble_eq_true rfl, Nat.le_of_ble_eq_true rfl⟩) hP hD hS hA [0] [] rfl rfl (by decide) (by decide) (fun r_3 w_4 H locs hw hP hD hS => ?_)
  obtain ⟨rfl, rfl⟩ := hw
  have hP : va_P (dC, dI) vwCl [] H := hP
  have hD : va_D A [] := hD
  refine lv_icmp_eq (tgt := 933) hx hb dL_law_458 (by decide) (fun _ => ?_) (fun c9 => absurd (by decide) c9) 
  refine lv_iinc (v := 6) (lv' := [(3, .int 6), (2, .ref m0), (1, .ref x0), (0, .ref b)]) hx hb dL_law_933 hl (k := 0) rfl (by decide) (by decide) rfl (fun ls hl => ?_)
  refine lv_goto (tgt := 18) hx hb dL_law_936 (by decide) ?_
  refine lv_iload_n hx hb dL_law_18 rfl (lv_at hl 0 rfl) ?_
  refine lv_aload_n hx hb dL_law_19 rfl (lv_at hl 3 rfl) ?_
  refine va_slen hx hb hX hbl hbA hS dL_law_20 ?_
  refine tk_topi (y := 6) rfl ?_
  refine lv_bipush (v := 6) hx hb dL_law_21 (by decide) ?_
  refine lv_isub hx hb dL_law_23 ?_
  refine tk_topi (y := 0) (by decide) ?_
  refine lv_icmp_gt (tgt := 939) hx hb dL_law_24 (by decide) (fun _ => ?_) (fun c9 => absurd (by decide) c9) 
  refine lv_iconst (v := 1) hx hb dL_law_939 (by decide) ?_
  refine va_forget (fun q hq => by have h9 := hS.2.2 q hq; rw [hAe] at h9; exact h9) ?_
  refine W.widen (k := 600000) (n := 7302250) (Nat.le_of_ble_eq_true rfl) (Nat.le_of_ble_eq_true rfl) ?_
  exact lw_ret hx hb hr hlocks dL_law_940
set_option maxHeartbeats 8000000 in
set_option maxRecDepth 100000 in
theorem law_ages {p : Program} {l : Launch} {e : Env} {s : State} {m : MethodId} {below : List Frame} {meth : Method} {c : Code} {dC : Nat → ClassId} {dI : Nat → Nat → Nat} {cI cL cZ : ClassId} {b : Nat} {xs : Nat → Int32} (C0 : lw_At p s m meth c b 6 xs) (hK : va_K (dC, dI) vwCl (TYS cI cL cZ) s) (hN : nsW s) {A : Nat → Prop} (hA : ∀ q, s.heap.size ≤ q → A q) (hAe : A = fun q : Nat => s.heap.size ≤ q) (x0 m0 x1 x2 x3 x4 x5 x6 x7 x8 x9 x10 x11 x12 x13 m1 m2 m3 m4 m5 m6 m7 m8 m9 m10 m11 m12 m13 m14 m15 m16 m17 m18 m19 m20 m21 m22 m23 m24 m25 m26 m27 m28 m29 m30 m31 : Nat) {H : Heap} {locs : List Loc} (hP : va_P (dC, dI) vwCl [(x0, .inr (11, [.ref x1, .int 0, .ref x2, .ref x3, .ref x4, .ref x5, .ref x6, .ref x7, .int 0, .ref x8, .ref x9, .ref x10, .int 0, .int (-1), .ref x11, .int 0, .ref x12, .ref x13, .int 0])), (m0, .inr (12, [.ref m1, .ref m2, .ref m3, .int 0, .ref m4, .int 0, .int 0, .int 0, .int 0, .int 0, .int (-1), .int 0, .int 0, .int 0, .int 0, .ref m5, .ref m6, .ref m7, .ref m8, .ref m9, .ref m10, .ref m11, .ref m12, .int 0, .int 0, .int 0, .int 0, .int 0, .ref m13, .int 0, .ref m14, .ref m15, .int 0, .int 0, .ref m16, .int 0, .ref m17, .ref m18, .int 0, .int (-1), .ref m19, .ref m20, .ref m21, .int 0, .ref m22, .ref m23, .ref m24, .ref m25, .ref m26, .ref m27, .ref m28, .ref m29, .ref m30, .int 0, .int 0, .ref m31]))] H) (hD : va_D A [(x0, .inr (11, [.ref x1, .int 0, .ref x2, .ref x3, .ref x4, .ref x5, .ref x6, .ref x7, .int 0, .ref x8, .ref x9, .ref x10, .int 0, .int (-1), .ref x11, .int 0, .ref x12, .ref x13, .int 0])), (m0, .inr (12, [.ref m1, .ref m2, .ref m3, .int 0, .ref m4, .int 0, .int 0, .int 0, .int 0, .int 0, .int (-1), .int 0, .int 0, .int 0, .int 0, .ref m5, .ref m6, .ref m7, .ref m8, .ref m9, .ref m10, .ref m11, .ref m12, .int 0, .int 0, .int 0, .int 0, .int 0, .ref m13, .int 0, .ref m14, .ref m15, .int 0, .int 0, .ref m16, .int 0, .ref m17, .ref m18, .int 0, .int (-1), .ref m19, .ref m20, .ref m21, .int 0, .ref m22, .ref m23, .ref m24, .ref m25, .ref m26, .ref m27, .ref m28, .ref m29, .ref m30, .int 0, .int 0, .ref m31]))]) (hS : va_S A s.heap H locs) {ls : Array Slot} (hl : lv_has ls 4 [(3, .int 0), (2, .ref m0), (1, .ref x0), (0, .ref b)]) : W p l e room_1 s m #[Value.ref b] below meth c H locs 559 115398 (lw_Z below #[Value.ref b] s) (F0 m 463 ls []) := by
  obtain ⟨hx, hb, hr, hml, hown0, hts, hX, hbl, hlocks, hgv⟩ := C0
  have hown : s.vm.findClass RL = some m.cls := hown0
  have hU : ∀ w ∈ wsU, w.before #[Value.ref b] s = true := fun w h => hts w (wsU_in w h)
  have hbA : ¬ A b := by rw [hAe]; exact Nat.not_le.mpr hbl
  obtain ⟨s0, es0⟩ : ∃ y : Int32, xs 0 = y := ⟨_, rfl⟩
  obtain ⟨s1, es1⟩ : ∃ y : Int32, xs 1 = y := ⟨_, rfl⟩
  obtain ⟨s2, es2⟩ : ∃ y : Int32, xs 2 = y := ⟨_, rfl⟩
  obtain ⟨s3, es3⟩ : ∃ y : Int32, xs 3 = y := ⟨_, rfl⟩
  obtain ⟨s4, es4⟩ : ∃ y : Int32, xs 4 = y := ⟨_, rfl⟩
  obtain ⟨s5, es5⟩ : ∃ y : Int32, xs 5 = y := ⟨_, rfl⟩
  refine lv_aload_n hx hb dL_law_463 rfl (lv_at hl 2 rfl) ?_
  refine tk_ri (wr := [(m0, .inr (12, [.ref m1, .ref m2, .ref m3, .int 0, .ref m4, .int 0, .int 0, .int 0, .int 0, .int 0, .int (-1), .int 0, .int 0, .int 0, .int 0, .ref m5, .ref m6, .ref m7, .ref m8, .ref m9, .ref m10, .ref m11, .ref m12, .int 0, .int 0, .int 0, .int 0, .int 0, .ref m13, .int 0, .ref m14, .ref m15, .int 0, .int 0, .ref m16, .int 0, .ref m17, .ref m18, .int 0, .int (-1), .ref m19, .ref m20, .ref m21, .int 0, .ref m22, .ref m23, .ref m24, .ref m25, .ref m26, .ref m27, .ref m28, .ref m29, .ref m30, .int 0, .int 0, .ref m31]))]) (tk_V (As := []) (rest := []) (n := 0) hx hb hml hown hU hN (op_X11_ages l (dC, dI) cI cL cZ H.size x0 x1 x2 x3 x4 x5 x6 x7 x8 x9 x10 x11 x12 x13) wd_1097 wd_1098 wd_1099 wd_2 wd_1100 (by decide +kernel) ⟨Nat.le_of_ble_eq_true rfl, Nat.le_of_ble_eq_true rfl⟩ hK hP hD [0] (by decide) rfl 0 11 rfl rfl rfl rfl hl.1 rfl (Nat.le_of_ble_eq_true rfl) dL_law_464 ⟨Nat.le_of_ble_eq_true rfl, Nat.le_of_ble_eq_true rfl⟩) hP hD hS hA [0] [1] rfl rfl (by decide) (by decide) (fun r_1 w_2 H locs hw hP hD hS => ?_)
  obtain ⟨rfl, rfl⟩ := hw
  have hP : va_P (dC, dI) vwCl [(m0, .inr (12, [.ref m1, .ref m2, .ref m3, .int 0, .ref m4, .int 0, .int 0, .int 0, .int 0, .int 0, .int (-1), .int 0, .int 0, .int 0, .int 0, .ref m5, .ref m6, .ref m7, .ref m8, .ref m9, .ref m10, .ref m11, .ref m12, .int 0, .int 0, .int 0, .int 0, .int 0, .ref m13, .int 0, .ref m14, .ref m15, .int 0, .int 0, .ref m16, .int 0, .ref m17, .ref m18, .int 0, .int (-1), .ref m19, .ref m20, .ref m21, .int 0, .ref m22, .ref m23, .ref m24, .ref m25, .ref m26, .ref m27, .ref m28, .ref m29, .ref m30, .int 0, .int 0, .ref m31]))] H := hP
  have hD : va_D A [(m0, .inr (12, [.ref m1, .ref m2, .ref m3, .int 0, .ref m4, .int 0, .int 0, .int 0, .int 0, .int 0, .int (-1), .int 0, .int 0, .int 0, .int 0, .ref m5, .ref m6, .ref m7, .ref m8, .ref m9, .ref m10, .ref m11, .ref m12, .int 0, .int 0, .int 0, .int 0, .int 0, .ref m13, .int 0, .ref m14, .ref m15, .int 0, .int 0, .ref m16, .int 0, .ref m17, .ref m18, .int 0, .int (-1), .ref m19, .ref m20, .ref m21, .int 0, .ref m22, .ref m23, .ref m24, .ref m25, .ref m26, .ref m27, .ref m28, .ref m29, .ref m30, .int 0, .int 0, .ref m31]))] := hD
  refine lv_aload_n hx hb dL_law_467 rfl (lv_at hl 1 rfl) ?_
  refine tk_ri (wr := []) (tk_V (As := []) (rest := [.int (-1)]) (n := 0) hx hb hml hown hU hN (op_X12_ages l (dC, dI) cI cL cZ H.size m0 m1 m2 m3 m4 m5 m6 m7 m8 m9 m10 m11 m12 m13 m14 m15 m16 m17 m18 m19 m20 m21 m22 m23 m24 m25 m26 m27 m28 m29 m30 m31) wd_1115 wd_1116 wd_1117 wd_5 wd_1118 (by decide +kernel) ⟨Nat.le_of_ble_eq_true rfl, Nat.le_of_ble_eq_true rfl⟩ hK hP hD [0] (by decide) rfl 0 12 rfl rfl rfl rfl hl.1 rfl (Nat.le_of_ble_eq_true rfl) dL_law_468 ⟨Nat.le_of_ble_eq_true rfl, Nat.le_of_ble_eq_true rfl⟩) hP hD hS hA [0] [] rfl rfl (by decide) (by decide) (fun r_3 w_4 H locs hw hP hD hS => ?_)
  obtain ⟨rfl, rfl⟩ := hw
  have hP : va_P (dC, dI) vwCl [] H := hP
  have hD : va_D A [] := hD
  refine lv_icmp_eq (tgt := 933) hx hb dL_law_471 (by decide) (fun _ => ?_) (fun c9 => absurd (by decide) c9) 
  refine lv_iinc (v := 6) (lv' := [(3, .int 6), (2, .ref m0), (1, .ref x0), (0, .ref b)]) hx hb dL_law_933 hl (k := 0) rfl (by decide) (by decide) rfl (fun ls hl => ?_)
  refine lv_goto (tgt := 18) hx hb dL_law_936 (by decide) ?_
  refine lv_iload_n hx hb dL_law_18 rfl (lv_at hl 0 rfl) ?_
  refine lv_aload_n hx hb dL_law_19 rfl (lv_at hl 3 rfl) ?_
  refine va_slen hx hb hX hbl hbA hS dL_law_20 ?_
  refine tk_topi (y := 6) rfl ?_
  refine lv_bipush (v := 6) hx hb dL_law_21 (by decide) ?_
  refine lv_isub hx hb dL_law_23 ?_
  refine tk_topi (y := 0) (by decide) ?_
  refine lv_icmp_gt (tgt := 939) hx hb dL_law_24 (by decide) (fun _ => ?_) (fun c9 => absurd (by decide) c9) 
  refine lv_iconst (v := 1) hx hb dL_law_939 (by decide) ?_
  refine va_forget (fun q hq => by have h9 := hS.2.2 q hq; rw [hAe] at h9; exact h9) ?_
  refine W.widen (k := 600000) (n := 7302250) (Nat.le_of_ble_eq_true rfl) (Nat.le_of_ble_eq_true rfl) ?_
  exact lw_ret hx hb hr hlocks dL_law_940
set_option maxHeartbeats 8000000 in
set_option maxRecDepth 100000 in
theorem law_aged {p : Program} {l : Launch} {e : Env} {s : State} {m : MethodId} {below : List Frame} {meth : Method} {c : Code} {dC : Nat → ClassId} {dI : Nat → Nat → Nat} {cI cL cZ : ClassId} {b : Nat} {xs : Nat → Int32} (C0 : lw_At p s m meth c b 6 xs) (hK : va_K (dC, dI) vwCl (TYS cI cL cZ) s) (hN : nsW s) {A : Nat → Prop} (hA : ∀ q, s.heap.size ≤ q → A q) (hAe : A = fun q : Nat => s.heap.size ≤ q) (x0 m0 x1 x2 x3 x4 x5 x6 x7 x8 x9 x10 x11 x12 x13 m1 m2 m3 m4 m5 m6 m7 m8 m9 m10 m11 m12 m13 m14 m15 m16 m17 m18 m19 m20 m21 m22 m23 m24 m25 m26 m27 m28 m29 m30 m31 : Nat) {H : Heap} {locs : List Loc} (hP : va_P (dC, dI) vwCl [(x0, .inr (11, [.ref x1, .int 0, .ref x2, .ref x3, .ref x4, .ref x5, .ref x6, .ref x7, .int 0, .ref x8, .ref x9, .ref x10, .int 0, .int (-1), .ref x11, .int 0, .ref x12, .ref x13, .int 0])), (m0, .inr (12, [.ref m1, .ref m2, .ref m3, .int 0, .ref m4, .int 0, .int 0, .int 0, .int 0, .int 0, .int (-1), .int 0, .int 0, .int 0, .int 0, .ref m5, .ref m6, .ref m7, .ref m8, .ref m9, .ref m10, .ref m11, .ref m12, .int 0, .int 0, .int 0, .int 0, .int 0, .ref m13, .int 0, .ref m14, .ref m15, .int 0, .int 0, .ref m16, .int 0, .ref m17, .ref m18, .int 0, .int (-1), .ref m19, .ref m20, .ref m21, .int 0, .ref m22, .ref m23, .ref m24, .ref m25, .ref m26, .ref m27, .ref m28, .ref m29, .ref m30, .int 0, .int 0, .ref m31]))] H) (hD : va_D A [(x0, .inr (11, [.ref x1, .int 0, .ref x2, .ref x3, .ref x4, .ref x5, .ref x6, .ref x7, .int 0, .ref x8, .ref x9, .ref x10, .int 0, .int (-1), .ref x11, .int 0, .ref x12, .ref x13, .int 0])), (m0, .inr (12, [.ref m1, .ref m2, .ref m3, .int 0, .ref m4, .int 0, .int 0, .int 0, .int 0, .int 0, .int (-1), .int 0, .int 0, .int 0, .int 0, .ref m5, .ref m6, .ref m7, .ref m8, .ref m9, .ref m10, .ref m11, .ref m12, .int 0, .int 0, .int 0, .int 0, .int 0, .ref m13, .int 0, .ref m14, .ref m15, .int 0, .int 0, .ref m16, .int 0, .ref m17, .ref m18, .int 0, .int (-1), .ref m19, .ref m20, .ref m21, .int 0, .ref m22, .ref m23, .ref m24, .ref m25, .ref m26, .ref m27, .ref m28, .ref m29, .ref m30, .int 0, .int 0, .ref m31]))]) (hS : va_S A s.heap H locs) {ls : Array Slot} (hl : lv_has ls 4 [(3, .int 0), (2, .ref m0), (1, .ref x0), (0, .ref b)]) : W p l e room_1 s m #[Value.ref b] below meth c H locs 559 115398 (lw_Z below #[Value.ref b] s) (F0 m 476 ls []) := by
  obtain ⟨hx, hb, hr, hml, hown0, hts, hX, hbl, hlocks, hgv⟩ := C0
  have hown : s.vm.findClass RL = some m.cls := hown0
  have hU : ∀ w ∈ wsU, w.before #[Value.ref b] s = true := fun w h => hts w (wsU_in w h)
  have hbA : ¬ A b := by rw [hAe]; exact Nat.not_le.mpr hbl
  obtain ⟨s0, es0⟩ : ∃ y : Int32, xs 0 = y := ⟨_, rfl⟩
  obtain ⟨s1, es1⟩ : ∃ y : Int32, xs 1 = y := ⟨_, rfl⟩
  obtain ⟨s2, es2⟩ : ∃ y : Int32, xs 2 = y := ⟨_, rfl⟩
  obtain ⟨s3, es3⟩ : ∃ y : Int32, xs 3 = y := ⟨_, rfl⟩
  obtain ⟨s4, es4⟩ : ∃ y : Int32, xs 4 = y := ⟨_, rfl⟩
  obtain ⟨s5, es5⟩ : ∃ y : Int32, xs 5 = y := ⟨_, rfl⟩
  refine lv_aload_n hx hb dL_law_476 rfl (lv_at hl 2 rfl) ?_
  refine lv_aload_n hx hb dL_law_477 rfl (lv_at hl 3 rfl) ?_
  refine lv_iload_n hx hb dL_law_478 rfl (lv_at hl 0 rfl) ?_
  refine lv_iconst (v := 1) hx hb dL_law_479 (by decide) ?_
  refine lv_iadd hx hb dL_law_480 ?_
  refine tk_topi (y := 1) (by decide) ?_
  refine va_sld hx hb hX hbl hbA hS (vp_in_nI (n := 1) (by decide) (by decide)) dL_law_481 ?_
  refine tk_topi (y := s1) es1 ?_
  refine tk_ri (wr := [(m0, .inr (12, [.ref m1, .ref m2, .ref m3, .int 0, .ref m4, .int 0, .int 0, .int 0, .int 0, .int 0, .int (-1), .int 0, .int 0, .int 0, .int 0, .ref m5, .ref m6, .ref m7, .ref m8, .ref m9, .ref m10, .ref m11, .ref m12, .int 0, .int 0, .int 0, .int 0, .int 0, .ref m13, .int 0, .ref m14, .ref m15, .int 0, .int 0, .ref m16, .int 0, .ref m17, .ref m18, .int 0, .int (-1), .ref m19, .ref m20, .ref m21, .int 0, .ref m22, .ref m23, .ref m24, .ref m25, .ref m26, .ref m27, .ref m28, .ref m29, .ref m30, .int 0, .int 0, .ref m31]))]) (tk_V (As := [.int s1]) (rest := []) (n := 1) hx hb hml hown hU hN (op_X11_aged l (dC, dI) cI cL cZ H.size x0 s1 x1 x2 x3 x4 x5 x6 x7 x8 x9 x10 x11 x12 x13) wd_1123 wd_1124 wd_1125 wd_2 wd_1126 (by decide +kernel) ⟨Nat.le_of_ble_eq_true rfl, Nat.le_of_ble_eq_true rfl⟩ hK hP hD [0] (by decide) rfl 0 11 rfl rfl rfl rfl hl.1 rfl (Nat.le_of_ble_eq_true rfl) dL_law_482 ⟨Nat.le_of_ble_eq_true rfl, Nat.le_of_ble_eq_true rfl⟩) hP hD hS hA [0] [1] rfl rfl (by decide) (by decide) (fun r_1 w_2 H locs hw hP hD hS => ?_)
  obtain ⟨rfl, rfl⟩ := hw
  have hP : va_P (dC, dI) vwCl [(m0, .inr (12, [.ref m1, .ref m2, .ref m3, .int 0, .ref m4, .int 0, .int 0, .int 0, .int 0, .int 0, .int (-1), .int 0, .int 0, .int 0, .int 0, .ref m5, .ref m6, .ref m7, .ref m8, .ref m9, .ref m10, .ref m11, .ref m12, .int 0, .int 0, .int 0, .int 0, .int 0, .ref m13, .int 0, .ref m14, .ref m15, .int 0, .int 0, .ref m16, .int 0, .ref m17, .ref m18, .int 0, .int (-1), .ref m19, .ref m20, .ref m21, .int 0, .ref m22, .ref m23, .ref m24, .ref m25, .ref m26, .ref m27, .ref m28, .ref m29, .ref m30, .int 0, .int 0, .ref m31]))] H := hP
  have hD : va_D A [(m0, .inr (12, [.ref m1, .ref m2, .ref m3, .int 0, .ref m4, .int 0, .int 0, .int 0, .int 0, .int 0, .int (-1), .int 0, .int 0, .int 0, .int 0, .ref m5, .ref m6, .ref m7, .ref m8, .ref m9, .ref m10, .ref m11, .ref m12, .int 0, .int 0, .int 0, .int 0, .int 0, .ref m13, .int 0, .ref m14, .ref m15, .int 0, .int 0, .ref m16, .int 0, .ref m17, .ref m18, .int 0, .int (-1), .ref m19, .ref m20, .ref m21, .int 0, .ref m22, .ref m23, .ref m24, .ref m25, .ref m26, .ref m27, .ref m28, .ref m29, .ref m30, .int 0, .int 0, .ref m31]))] := hD
  refine lv_aload_n hx hb dL_law_485 rfl (lv_at hl 1 rfl) ?_
  refine lv_aload_n hx hb dL_law_486 rfl (lv_at hl 3 rfl) ?_
  refine lv_iload_n hx hb dL_law_487 rfl (lv_at hl 0 rfl) ?_
  refine lv_iconst (v := 1) hx hb dL_law_488 (by decide) ?_
  refine lv_iadd hx hb dL_law_489 ?_
  refine tk_topi (y := 1) (by decide) ?_
  refine va_sld hx hb hX hbl hbA hS (vp_in_nI (n := 1) (by decide) (by decide)) dL_law_490 ?_
  refine tk_topi (y := s1) es1 ?_
  refine tk_ri (wr := []) (tk_V (As := [.int s1]) (rest := [.int (-1)]) (n := 1) hx hb hml hown hU hN (op_X12_aged l (dC, dI) cI cL cZ H.size m0 s1 m1 m2 m3 m4 m5 m6 m7 m8 m9 m10 m11 m12 m13 m14 m15 m16 m17 m18 m19 m20 m21 m22 m23 m24 m25 m26 m27 m28 m29 m30 m31) wd_1127 wd_1128 wd_1129 wd_5 wd_1130 (by decide +kernel) ⟨Nat.le_of_ble_eq_true rfl, Nat.le_of_ble_eq_true rfl⟩ hK hP hD [0] (by decide) rfl 0 12 rfl rfl rfl rfl hl.1 rfl (Nat.le_of_ble_eq_true rfl) dL_law_491 ⟨Nat.le_of_ble_eq_true rfl, Nat.le_of_ble_eq_true rfl⟩) hP hD hS hA [0] [] rfl rfl (by decide) (by decide) (fun r_3 w_4 H locs hw hP hD hS => ?_)
  obtain ⟨rfl, rfl⟩ := hw
  have hP : va_P (dC, dI) vwCl [] H := hP
  have hD : va_D A [] := hD
  refine lv_icmp_eq (tgt := 933) hx hb dL_law_494 (by decide) (fun _ => ?_) (fun c9 => absurd (by decide) c9) 
  refine lv_iinc (v := 6) (lv' := [(3, .int 6), (2, .ref m0), (1, .ref x0), (0, .ref b)]) hx hb dL_law_933 hl (k := 0) rfl (by decide) (by decide) rfl (fun ls hl => ?_)
  refine lv_goto (tgt := 18) hx hb dL_law_936 (by decide) ?_
  refine lv_iload_n hx hb dL_law_18 rfl (lv_at hl 0 rfl) ?_
  refine lv_aload_n hx hb dL_law_19 rfl (lv_at hl 3 rfl) ?_
  refine va_slen hx hb hX hbl hbA hS dL_law_20 ?_
  refine tk_topi (y := 6) rfl ?_
  refine lv_bipush (v := 6) hx hb dL_law_21 (by decide) ?_
  refine lv_isub hx hb dL_law_23 ?_
  refine tk_topi (y := 0) (by decide) ?_
  refine lv_icmp_gt (tgt := 939) hx hb dL_law_24 (by decide) (fun _ => ?_) (fun c9 => absurd (by decide) c9) 
  refine lv_iconst (v := 1) hx hb dL_law_939 (by decide) ?_
  refine va_forget (fun q hq => by have h9 := hS.2.2 q hq; rw [hAe] at h9; exact h9) ?_
  refine W.widen (k := 600000) (n := 7302250) (Nat.le_of_ble_eq_true rfl) (Nat.le_of_ble_eq_true rfl) ?_
  exact lw_ret hx hb hr hlocks dL_law_940
set_option maxHeartbeats 8000000 in
set_option maxRecDepth 100000 in
theorem law_order {p : Program} {l : Launch} {e : Env} {s : State} {m : MethodId} {below : List Frame} {meth : Method} {c : Code} {dC : Nat → ClassId} {dI : Nat → Nat → Nat} {cI cL cZ : ClassId} {b : Nat} {xs : Nat → Int32} (C0 : lw_At p s m meth c b 6 xs) (hK : va_K (dC, dI) vwCl (TYS cI cL cZ) s) (hN : nsW s) {A : Nat → Prop} (hA : ∀ q, s.heap.size ≤ q → A q) (hAe : A = fun q : Nat => s.heap.size ≤ q) (x0 m0 x1 x2 x3 x4 x5 x6 x7 x8 x9 x10 x11 x12 x13 x22 x23 x24 x25 x26 x27 x28 x29 x30 x31 x32 x33 x34 m1 m2 m3 m4 m5 m6 m7 m8 m9 m10 m11 m12 m13 m14 m15 m16 m17 m18 m19 m20 m21 m22 m23 m24 m25 m26 m27 m28 m29 m30 m31 : Nat) {H : Heap} {locs : List Loc} (hP : va_P (dC, dI) vwCl [(x0, .inr (11, [.ref x1, .int 0, .ref x2, .ref x3, .ref x4, .ref x5, .ref x6, .ref x7, .int 0, .ref x8, .ref x9, .ref x10, .int 0, .int (-1), .ref x11, .int 0, .ref x12, .ref x13, .int 0])), (x3, .inr (7, [.ref x22, .int 0, .ref x23, .ref x24, .ref x25, .ref x26, .int 0, .ref x27, .ref x28, .ref x29, .ref x30, .ref x31, .int 0, .ref x32, .ref x33, .ref x34])), (m0, .inr (12, [.ref m1, .ref m2, .ref m3, .int 0, .ref m4, .int 0, .int 0, .int 0, .int 0, .int 0, .int (-1), .int 0, .int 0, .int 0, .int 0, .ref m5, .ref m6, .ref m7, .ref m8, .ref m9, .ref m10, .ref m11, .ref m12, .int 0, .int 0, .int 0, .int 0, .int 0, .ref m13, .int 0, .ref m14, .ref m15, .int 0, .int 0, .ref m16, .int 0, .ref m17, .ref m18, .int 0, .int (-1), .ref m19, .ref m20, .ref m21, .int 0, .ref m22, .ref m23, .ref m24, .ref m25, .ref m26, .ref m27, .ref m28, .ref m29, .ref m30, .int 0, .int 0, .ref m31])), (m1, .inl (cI, 1560, .inl w0))] H) (hD : va_D A [(x0, .inr (11, [.ref x1, .int 0, .ref x2, .ref x3, .ref x4, .ref x5, .ref x6, .ref x7, .int 0, .ref x8, .ref x9, .ref x10, .int 0, .int (-1), .ref x11, .int 0, .ref x12, .ref x13, .int 0])), (x3, .inr (7, [.ref x22, .int 0, .ref x23, .ref x24, .ref x25, .ref x26, .int 0, .ref x27, .ref x28, .ref x29, .ref x30, .ref x31, .int 0, .ref x32, .ref x33, .ref x34])), (m0, .inr (12, [.ref m1, .ref m2, .ref m3, .int 0, .ref m4, .int 0, .int 0, .int 0, .int 0, .int 0, .int (-1), .int 0, .int 0, .int 0, .int 0, .ref m5, .ref m6, .ref m7, .ref m8, .ref m9, .ref m10, .ref m11, .ref m12, .int 0, .int 0, .int 0, .int 0, .int 0, .ref m13, .int 0, .ref m14, .ref m15, .int 0, .int 0, .ref m16, .int 0, .ref m17, .ref m18, .int 0, .int (-1), .ref m19, .ref m20, .ref m21, .int 0, .ref m22, .ref m23, .ref m24, .ref m25, .ref m26, .ref m27, .ref m28, .ref m29, .ref m30, .int 0, .int 0, .ref m31])), (m1, .inl (cI, 1560, .inl w0))]) (hS : va_S A s.heap H locs) {ls : Array Slot} (hl : lv_has ls 4 [(3, .int 0), (2, .ref m0), (1, .ref x0), (0, .ref b)]) : W p l e room_1 s m #[Value.ref b] below meth c H locs 559 115398 (lw_Z below #[Value.ref b] s) (F0 m 499 ls []) := by
  obtain ⟨hx, hb, hr, hml, hown0, hts, hX, hbl, hlocks, hgv⟩ := C0
  have hown : s.vm.findClass RL = some m.cls := hown0
  have hU : ∀ w ∈ wsU, w.before #[Value.ref b] s = true := fun w h => hts w (wsU_in w h)
  have hbA : ¬ A b := by rw [hAe]; exact Nat.not_le.mpr hbl
  obtain ⟨s0, es0⟩ : ∃ y : Int32, xs 0 = y := ⟨_, rfl⟩
  obtain ⟨s1, es1⟩ : ∃ y : Int32, xs 1 = y := ⟨_, rfl⟩
  obtain ⟨s2, es2⟩ : ∃ y : Int32, xs 2 = y := ⟨_, rfl⟩
  obtain ⟨s3, es3⟩ : ∃ y : Int32, xs 3 = y := ⟨_, rfl⟩
  obtain ⟨s4, es4⟩ : ∃ y : Int32, xs 4 = y := ⟨_, rfl⟩
  obtain ⟨s5, es5⟩ : ∃ y : Int32, xs 5 = y := ⟨_, rfl⟩
  refine lv_aload_n hx hb dL_law_499 rfl (lv_at hl 2 rfl) ?_
  refine lv_aload_n hx hb dL_law_500 rfl (lv_at hl 3 rfl) ?_
  refine lv_iload_n hx hb dL_law_501 rfl (lv_at hl 0 rfl) ?_
  refine lv_iconst (v := 1) hx hb dL_law_502 (by decide) ?_
  refine lv_iadd hx hb dL_law_503 ?_
  refine tk_topi (y := 1) (by decide) ?_
  refine va_sld hx hb hX hbl hbA hS (vp_in_nI (n := 1) (by decide) (by decide)) dL_law_504 ?_
  refine tk_topi (y := s1) es1 ?_
  refine lv_aload_n hx hb dL_law_505 rfl (lv_at hl 3 rfl) ?_
  refine lv_iload_n hx hb dL_law_506 rfl (lv_at hl 0 rfl) ?_
  refine lv_iconst (v := 2) hx hb dL_law_507 (by decide) ?_
  refine lv_iadd hx hb dL_law_508 ?_
  refine tk_topi (y := 2) (by decide) ?_
  refine va_sld hx hb hX hbl hbA hS (vp_in_nI (n := 2) (by decide) (by decide)) dL_law_509 ?_
  refine tk_topi (y := s2) es2 ?_
  refine tk_ri (wr := [(m0, .inr (12, [.ref m1, .ref m2, .ref m3, .int 0, .ref m4, .int 0, .int 0, .int 0, .int 0, .int 0, .int (-1), .int 0, .int 0, .int 0, .int 0, .ref m5, .ref m6, .ref m7, .ref m8, .ref m9, .ref m10, .ref m11, .ref m12, .int 0, .int 0, .int 0, .int 0, .int 0, .ref m13, .int 0, .ref m14, .ref m15, .int 0, .int 0, .ref m16, .int 0, .ref m17, .ref m18, .int 0, .int (-1), .ref m19, .ref m20, .ref m21, .int 0, .ref m22, .ref m23, .ref m24, .ref m25, .ref m26, .ref m27, .ref m28, .ref m29, .ref m30, .int 0, .int 0, .ref m31])), (m1, .inl (cI, 1560, .inl w0))]) (tk_V (As := [.int s1, .int s2]) (rest := []) (n := 2) hx hb hml hown hU hN (op_X11_order l (dC, dI) cI cL cZ H.size x0 s1 s2 x1 x2 x3 x4 x5 x6 x7 x8 x9 x10 x11 x12 x13 x22 x23 x24 x25 x26 x27 x28 x29 x30 x31 x32 x33 x34) wd_1131 wd_1132 wd_1133 wd_2 wd_1134 (by decide +kernel) ⟨Nat.le_of_ble_eq_true rfl, Nat.le_of_ble_eq_true rfl⟩ hK hP hD [0, 1] (by decide) rfl 0 11 rfl rfl rfl rfl hl.1 rfl (Nat.le_of_ble_eq_true rfl) dL_law_510 ⟨Nat.le_of_ble_eq_true rfl, Nat.le_of_ble_eq_true rfl⟩) hP hD hS hA [0, 1] [2, 3] rfl rfl (by decide) (by decide) (fun r_1 w_2 H locs hw hP hD hS => ?_)
  obtain ⟨rfl, rfl⟩ := hw
  have hP : va_P (dC, dI) vwCl [(m0, .inr (12, [.ref m1, .ref m2, .ref m3, .int 0, .ref m4, .int 0, .int 0, .int 0, .int 0, .int 0, .int (-1), .int 0, .int 0, .int 0, .int 0, .ref m5, .ref m6, .ref m7, .ref m8, .ref m9, .ref m10, .ref m11, .ref m12, .int 0, .int 0, .int 0, .int 0, .int 0, .ref m13, .int 0, .ref m14, .ref m15, .int 0, .int 0, .ref m16, .int 0, .ref m17, .ref m18, .int 0, .int (-1), .ref m19, .ref m20, .ref m21, .int 0, .ref m22, .ref m23, .ref m24, .ref m25, .ref m26, .ref m27, .ref m28, .ref m29, .ref m30, .int 0, .int 0, .ref m31])), (m1, .inl (cI, 1560, .inl w0))] H := hP
  have hD : va_D A [(m0, .inr (12, [.ref m1, .ref m2, .ref m3, .int 0, .ref m4, .int 0, .int 0, .int 0, .int 0, .int 0, .int (-1), .int 0, .int 0, .int 0, .int 0, .ref m5, .ref m6, .ref m7, .ref m8, .ref m9, .ref m10, .ref m11, .ref m12, .int 0, .int 0, .int 0, .int 0, .int 0, .ref m13, .int 0, .ref m14, .ref m15, .int 0, .int 0, .ref m16, .int 0, .ref m17, .ref m18, .int 0, .int (-1), .ref m19, .ref m20, .ref m21, .int 0, .ref m22, .ref m23, .ref m24, .ref m25, .ref m26, .ref m27, .ref m28, .ref m29, .ref m30, .int 0, .int 0, .ref m31])), (m1, .inl (cI, 1560, .inl w0))] := hD
  refine lv_aload_n hx hb dL_law_513 rfl (lv_at hl 1 rfl) ?_
  refine lv_aload_n hx hb dL_law_514 rfl (lv_at hl 3 rfl) ?_
  refine lv_iload_n hx hb dL_law_515 rfl (lv_at hl 0 rfl) ?_
  refine lv_iconst (v := 1) hx hb dL_law_516 (by decide) ?_
  refine lv_iadd hx hb dL_law_517 ?_
  refine tk_topi (y := 1) (by decide) ?_
  refine va_sld hx hb hX hbl hbA hS (vp_in_nI (n := 1) (by decide) (by decide)) dL_law_518 ?_
  refine tk_topi (y := s1) es1 ?_
  refine lv_aload_n hx hb dL_law_519 rfl (lv_at hl 3 rfl) ?_
  refine lv_iload_n hx hb dL_law_520 rfl (lv_at hl 0 rfl) ?_
  refine lv_iconst (v := 2) hx hb dL_law_521 (by decide) ?_
  refine lv_iadd hx hb dL_law_522 ?_
  refine tk_topi (y := 2) (by decide) ?_
  refine va_sld hx hb hX hbl hbA hS (vp_in_nI (n := 2) (by decide) (by decide)) dL_law_523 ?_
  refine tk_topi (y := s2) es2 ?_
  refine tk_ri (wr := []) (tk_V (As := [.int s1, .int s2]) (rest := [.int 0]) (n := 2) hx hb hml hown hU hN (op_X12_order l (dC, dI) cI cL cZ H.size m0 s1 s2 m1 m2 m3 m4 m5 m6 m7 m8 m9 m10 m11 m12 m13 m14 m15 m16 m17 m18 m19 m20 m21 m22 m23 m24 m25 m26 m27 m28 m29 m30 m31) wd_1143 wd_1144 wd_1145 wd_5 wd_1146 (by decide +kernel) ⟨Nat.le_of_ble_eq_true rfl, Nat.le_of_ble_eq_true rfl⟩ hK hP hD [0, 1] (by decide) rfl 0 12 rfl rfl rfl rfl hl.1 rfl (Nat.le_of_ble_eq_true rfl) dL_law_524 ⟨Nat.le_of_ble_eq_true rfl, Nat.le_of_ble_eq_true rfl⟩) hP hD hS hA [0, 1] [] rfl rfl (by decide) (by decide) (fun r_3 w_4 H locs hw hP hD hS => ?_)
  obtain ⟨rfl, rfl⟩ := hw
  have hP : va_P (dC, dI) vwCl [] H := hP
  have hD : va_D A [] := hD
  refine lv_icmp_eq (tgt := 933) hx hb dL_law_527 (by decide) (fun _ => ?_) (fun c9 => absurd (by decide) c9) 
  refine lv_iinc (v := 6) (lv' := [(3, .int 6), (2, .ref m0), (1, .ref x0), (0, .ref b)]) hx hb dL_law_933 hl (k := 0) rfl (by decide) (by decide) rfl (fun ls hl => ?_)
  refine lv_goto (tgt := 18) hx hb dL_law_936 (by decide) ?_
  refine lv_iload_n hx hb dL_law_18 rfl (lv_at hl 0 rfl) ?_
  refine lv_aload_n hx hb dL_law_19 rfl (lv_at hl 3 rfl) ?_
  refine va_slen hx hb hX hbl hbA hS dL_law_20 ?_
  refine tk_topi (y := 6) rfl ?_
  refine lv_bipush (v := 6) hx hb dL_law_21 (by decide) ?_
  refine lv_isub hx hb dL_law_23 ?_
  refine tk_topi (y := 0) (by decide) ?_
  refine lv_icmp_gt (tgt := 939) hx hb dL_law_24 (by decide) (fun _ => ?_) (fun c9 => absurd (by decide) c9) 
  refine lv_iconst (v := 1) hx hb dL_law_939 (by decide) ?_
  refine va_forget (fun q hq => by have h9 := hS.2.2 q hq; rw [hAe] at h9; exact h9) ?_
  refine W.widen (k := 600000) (n := 7302250) (Nat.le_of_ble_eq_true rfl) (Nat.le_of_ble_eq_true rfl) ?_
  exact lw_ret hx hb hr hlocks dL_law_940
set_option maxHeartbeats 8000000 in
set_option maxRecDepth 100000 in
theorem law_lives {p : Program} {l : Launch} {e : Env} {s : State} {m : MethodId} {below : List Frame} {meth : Method} {c : Code} {dC : Nat → ClassId} {dI : Nat → Nat → Nat} {cI cL cZ : ClassId} {b : Nat} {xs : Nat → Int32} (C0 : lw_At p s m meth c b 6 xs) (hK : va_K (dC, dI) vwCl (TYS cI cL cZ) s) (hN : nsW s) {A : Nat → Prop} (hA : ∀ q, s.heap.size ≤ q → A q) (hAe : A = fun q : Nat => s.heap.size ≤ q) (x0 m0 x1 x2 x3 x4 x5 x6 x7 x8 x9 x10 x11 x12 x13 x22 x23 x24 x25 x26 x27 x28 x29 x30 x31 x32 x33 x34 m1 m2 m3 m4 m5 m6 m7 m8 m9 m10 m11 m12 m13 m14 m15 m16 m17 m18 m19 m20 m21 m22 m23 m24 m25 m26 m27 m28 m29 m30 m31 : Nat) {H : Heap} {locs : List Loc} (hP : va_P (dC, dI) vwCl [(x0, .inr (11, [.ref x1, .int 0, .ref x2, .ref x3, .ref x4, .ref x5, .ref x6, .ref x7, .int 0, .ref x8, .ref x9, .ref x10, .int 0, .int (-1), .ref x11, .int 0, .ref x12, .ref x13, .int 0])), (x3, .inr (7, [.ref x22, .int 0, .ref x23, .ref x24, .ref x25, .ref x26, .int 0, .ref x27, .ref x28, .ref x29, .ref x30, .ref x31, .int 0, .ref x32, .ref x33, .ref x34])), (x24, .inl (cI, 81, .inl z0)), (m0, .inr (12, [.ref m1, .ref m2, .ref m3, .int 0, .ref m4, .int 0, .int 0, .int 0, .int 0, .int 0, .int (-1), .int 0, .int 0, .int 0, .int 0, .ref m5, .ref m6, .ref m7, .ref m8, .ref m9, .ref m10, .ref m11, .ref m12, .int 0, .int 0, .int 0, .int 0, .int 0, .ref m13, .int 0, .ref m14, .ref m15, .int 0, .int 0, .ref m16, .int 0, .ref m17, .ref m18, .int 0, .int (-1), .ref m19, .ref m20, .ref m21, .int 0, .ref m22, .ref m23, .ref m24, .ref m25, .ref m26, .ref m27, .ref m28, .ref m29, .ref m30, .int 0, .int 0, .ref m31])), (m1, .inl (cI, 1560, .inl w0))] H) (hD : va_D A [(x0, .inr (11, [.ref x1, .int 0, .ref x2, .ref x3, .ref x4, .ref x5, .ref x6, .ref x7, .int 0, .ref x8, .ref x9, .ref x10, .int 0, .int (-1), .ref x11, .int 0, .ref x12, .ref x13, .int 0])), (x3, .inr (7, [.ref x22, .int 0, .ref x23, .ref x24, .ref x25, .ref x26, .int 0, .ref x27, .ref x28, .ref x29, .ref x30, .ref x31, .int 0, .ref x32, .ref x33, .ref x34])), (x24, .inl (cI, 81, .inl z0)), (m0, .inr (12, [.ref m1, .ref m2, .ref m3, .int 0, .ref m4, .int 0, .int 0, .int 0, .int 0, .int 0, .int (-1), .int 0, .int 0, .int 0, .int 0, .ref m5, .ref m6, .ref m7, .ref m8, .ref m9, .ref m10, .ref m11, .ref m12, .int 0, .int 0, .int 0, .int 0, .int 0, .ref m13, .int 0, .ref m14, .ref m15, .int 0, .int 0, .ref m16, .int 0, .ref m17, .ref m18, .int 0, .int (-1), .ref m19, .ref m20, .ref m21, .int 0, .ref m22, .ref m23, .ref m24, .ref m25, .ref m26, .ref m27, .ref m28, .ref m29, .ref m30, .int 0, .int 0, .ref m31])), (m1, .inl (cI, 1560, .inl w0))]) (hS : va_S A s.heap H locs) {ls : Array Slot} (hl : lv_has ls 4 [(3, .int 0), (2, .ref m0), (1, .ref x0), (0, .ref b)]) : W p l e room_1 s m #[Value.ref b] below meth c H locs 559 115398 (lw_Z below #[Value.ref b] s) (F0 m 532 ls []) := by
  obtain ⟨hx, hb, hr, hml, hown0, hts, hX, hbl, hlocks, hgv⟩ := C0
  have hown : s.vm.findClass RL = some m.cls := hown0
  have hU : ∀ w ∈ wsU, w.before #[Value.ref b] s = true := fun w h => hts w (wsU_in w h)
  have hbA : ¬ A b := by rw [hAe]; exact Nat.not_le.mpr hbl
  obtain ⟨s0, es0⟩ : ∃ y : Int32, xs 0 = y := ⟨_, rfl⟩
  obtain ⟨s1, es1⟩ : ∃ y : Int32, xs 1 = y := ⟨_, rfl⟩
  obtain ⟨s2, es2⟩ : ∃ y : Int32, xs 2 = y := ⟨_, rfl⟩
  obtain ⟨s3, es3⟩ : ∃ y : Int32, xs 3 = y := ⟨_, rfl⟩
  obtain ⟨s4, es4⟩ : ∃ y : Int32, xs 4 = y := ⟨_, rfl⟩
  obtain ⟨s5, es5⟩ : ∃ y : Int32, xs 5 = y := ⟨_, rfl⟩
  refine lv_aload_n hx hb dL_law_532 rfl (lv_at hl 2 rfl) ?_
  refine lv_aload_n hx hb dL_law_533 rfl (lv_at hl 3 rfl) ?_
  refine lv_iload_n hx hb dL_law_534 rfl (lv_at hl 0 rfl) ?_
  refine lv_iconst (v := 1) hx hb dL_law_535 (by decide) ?_
  refine lv_iadd hx hb dL_law_536 ?_
  refine tk_topi (y := 1) (by decide) ?_
  refine va_sld hx hb hX hbl hbA hS (vp_in_nI (n := 1) (by decide) (by decide)) dL_law_537 ?_
  refine tk_topi (y := s1) es1 ?_
  refine lv_aload_n hx hb dL_law_538 rfl (lv_at hl 3 rfl) ?_
  refine lv_iload_n hx hb dL_law_539 rfl (lv_at hl 0 rfl) ?_
  refine lv_iconst (v := 2) hx hb dL_law_540 (by decide) ?_
  refine lv_iadd hx hb dL_law_541 ?_
  refine tk_topi (y := 2) (by decide) ?_
  refine va_sld hx hb hX hbl hbA hS (vp_in_nI (n := 2) (by decide) (by decide)) dL_law_542 ?_
  refine tk_topi (y := s2) es2 ?_
  refine lv_aload_n hx hb dL_law_543 rfl (lv_at hl 3 rfl) ?_
  refine lv_iload_n hx hb dL_law_544 rfl (lv_at hl 0 rfl) ?_
  refine lv_iconst (v := 3) hx hb dL_law_545 (by decide) ?_
  refine lv_iadd hx hb dL_law_546 ?_
  refine tk_topi (y := 3) (by decide) ?_
  refine va_sld hx hb hX hbl hbA hS (vp_in_nI (n := 3) (by decide) (by decide)) dL_law_547 ?_
  refine tk_topi (y := s3) es3 ?_
  refine tk_ri (wr := [(m0, .inr (12, [.ref m1, .ref m2, .ref m3, .int 0, .ref m4, .int 0, .int 0, .int 0, .int 0, .int 0, .int (-1), .int 0, .int 0, .int 0, .int 0, .ref m5, .ref m6, .ref m7, .ref m8, .ref m9, .ref m10, .ref m11, .ref m12, .int 0, .int 0, .int 0, .int 0, .int 0, .ref m13, .int 0, .ref m14, .ref m15, .int 0, .int 0, .ref m16, .int 0, .ref m17, .ref m18, .int 0, .int (-1), .ref m19, .ref m20, .ref m21, .int 0, .ref m22, .ref m23, .ref m24, .ref m25, .ref m26, .ref m27, .ref m28, .ref m29, .ref m30, .int 0, .int 0, .ref m31])), (m1, .inl (cI, 1560, .inl w0))]) (tk_V (As := [.int s1, .int s2, .int s3]) (rest := []) (n := 3) hx hb hml hown hU hN (op_X11_lives l (dC, dI) cI cL cZ H.size x0 s1 s2 s3 x1 x2 x3 x4 x5 x6 x7 x8 x9 x10 x11 x12 x13 x22 x23 x24 x25 x26 x27 x28 x29 x30 x31 x32 x33 x34) wd_1147 wd_1148 wd_1149 wd_2 wd_1150 (by decide +kernel) ⟨Nat.le_of_ble_eq_true rfl, Nat.le_of_ble_eq_true rfl⟩ hK hP hD [0, 1, 2] (by decide) rfl 0 11 rfl rfl rfl rfl hl.1 rfl (Nat.le_of_ble_eq_true rfl) dL_law_548 ⟨Nat.le_of_ble_eq_true rfl, Nat.le_of_ble_eq_true rfl⟩) hP hD hS hA [0, 1, 2] [3, 4] rfl rfl (by decide) (by decide) (fun r_1 w_2 H locs hw hP hD hS => ?_)
  obtain ⟨rfl, rfl⟩ := hw
  have hP : va_P (dC, dI) vwCl [(m0, .inr (12, [.ref m1, .ref m2, .ref m3, .int 0, .ref m4, .int 0, .int 0, .int 0, .int 0, .int 0, .int (-1), .int 0, .int 0, .int 0, .int 0, .ref m5, .ref m6, .ref m7, .ref m8, .ref m9, .ref m10, .ref m11, .ref m12, .int 0, .int 0, .int 0, .int 0, .int 0, .ref m13, .int 0, .ref m14, .ref m15, .int 0, .int 0, .ref m16, .int 0, .ref m17, .ref m18, .int 0, .int (-1), .ref m19, .ref m20, .ref m21, .int 0, .ref m22, .ref m23, .ref m24, .ref m25, .ref m26, .ref m27, .ref m28, .ref m29, .ref m30, .int 0, .int 0, .ref m31])), (m1, .inl (cI, 1560, .inl w0))] H := hP
  have hD : va_D A [(m0, .inr (12, [.ref m1, .ref m2, .ref m3, .int 0, .ref m4, .int 0, .int 0, .int 0, .int 0, .int 0, .int (-1), .int 0, .int 0, .int 0, .int 0, .ref m5, .ref m6, .ref m7, .ref m8, .ref m9, .ref m10, .ref m11, .ref m12, .int 0, .int 0, .int 0, .int 0, .int 0, .ref m13, .int 0, .ref m14, .ref m15, .int 0, .int 0, .ref m16, .int 0, .ref m17, .ref m18, .int 0, .int (-1), .ref m19, .ref m20, .ref m21, .int 0, .ref m22, .ref m23, .ref m24, .ref m25, .ref m26, .ref m27, .ref m28, .ref m29, .ref m30, .int 0, .int 0, .ref m31])), (m1, .inl (cI, 1560, .inl w0))] := hD
  refine lv_aload_n hx hb dL_law_551 rfl (lv_at hl 1 rfl) ?_
  refine lv_aload_n hx hb dL_law_552 rfl (lv_at hl 3 rfl) ?_
  refine lv_iload_n hx hb dL_law_553 rfl (lv_at hl 0 rfl) ?_
  refine lv_iconst (v := 1) hx hb dL_law_554 (by decide) ?_
  refine lv_iadd hx hb dL_law_555 ?_
  refine tk_topi (y := 1) (by decide) ?_
  refine va_sld hx hb hX hbl hbA hS (vp_in_nI (n := 1) (by decide) (by decide)) dL_law_556 ?_
  refine tk_topi (y := s1) es1 ?_
  refine lv_aload_n hx hb dL_law_557 rfl (lv_at hl 3 rfl) ?_
  refine lv_iload_n hx hb dL_law_558 rfl (lv_at hl 0 rfl) ?_
  refine lv_iconst (v := 2) hx hb dL_law_559 (by decide) ?_
  refine lv_iadd hx hb dL_law_560 ?_
  refine tk_topi (y := 2) (by decide) ?_
  refine va_sld hx hb hX hbl hbA hS (vp_in_nI (n := 2) (by decide) (by decide)) dL_law_561 ?_
  refine tk_topi (y := s2) es2 ?_
  refine lv_aload_n hx hb dL_law_562 rfl (lv_at hl 3 rfl) ?_
  refine lv_iload_n hx hb dL_law_563 rfl (lv_at hl 0 rfl) ?_
  refine lv_iconst (v := 3) hx hb dL_law_564 (by decide) ?_
  refine lv_iadd hx hb dL_law_565 ?_
  refine tk_topi (y := 3) (by decide) ?_
  refine va_sld hx hb hX hbl hbA hS (vp_in_nI (n := 3) (by decide) (by decide)) dL_law_566 ?_
  refine tk_topi (y := s3) es3 ?_
  refine tk_ri (wr := []) (tk_V (As := [.int s1, .int s2, .int s3]) (rest := [.int (-1)]) (n := 3) hx hb hml hown hU hN (op_X12_lives l (dC, dI) cI cL cZ H.size m0 s1 s2 s3 m1 m2 m3 m4 m5 m6 m7 m8 m9 m10 m11 m12 m13 m14 m15 m16 m17 m18 m19 m20 m21 m22 m23 m24 m25 m26 m27 m28 m29 m30 m31) wd_1165 wd_1166 wd_1167 wd_5 wd_1168 (by decide +kernel) ⟨Nat.le_of_ble_eq_true rfl, Nat.le_of_ble_eq_true rfl⟩ hK hP hD [0, 1] (by decide) rfl 0 12 rfl rfl rfl rfl hl.1 rfl (Nat.le_of_ble_eq_true rfl) dL_law_567 ⟨Nat.le_of_ble_eq_true rfl, Nat.le_of_ble_eq_true rfl⟩) hP hD hS hA [0, 1] [] rfl rfl (by decide) (by decide) (fun r_3 w_4 H locs hw hP hD hS => ?_)
  obtain ⟨rfl, rfl⟩ := hw
  have hP : va_P (dC, dI) vwCl [] H := hP
  have hD : va_D A [] := hD
  refine lv_icmp_eq (tgt := 933) hx hb dL_law_570 (by decide) (fun _ => ?_) (fun c9 => absurd (by decide) c9) 
  refine lv_iinc (v := 6) (lv' := [(3, .int 6), (2, .ref m0), (1, .ref x0), (0, .ref b)]) hx hb dL_law_933 hl (k := 0) rfl (by decide) (by decide) rfl (fun ls hl => ?_)
  refine lv_goto (tgt := 18) hx hb dL_law_936 (by decide) ?_
  refine lv_iload_n hx hb dL_law_18 rfl (lv_at hl 0 rfl) ?_
  refine lv_aload_n hx hb dL_law_19 rfl (lv_at hl 3 rfl) ?_
  refine va_slen hx hb hX hbl hbA hS dL_law_20 ?_
  refine tk_topi (y := 6) rfl ?_
  refine lv_bipush (v := 6) hx hb dL_law_21 (by decide) ?_
  refine lv_isub hx hb dL_law_23 ?_
  refine tk_topi (y := 0) (by decide) ?_
  refine lv_icmp_gt (tgt := 939) hx hb dL_law_24 (by decide) (fun _ => ?_) (fun c9 => absurd (by decide) c9) 
  refine lv_iconst (v := 1) hx hb dL_law_939 (by decide) ?_
  refine va_forget (fun q hq => by have h9 := hS.2.2 q hq; rw [hAe] at h9; exact h9) ?_
  refine W.widen (k := 600000) (n := 7302250) (Nat.le_of_ble_eq_true rfl) (Nat.le_of_ble_eq_true rfl) ?_
  exact lw_ret hx hb hr hlocks dL_law_940
set_option maxHeartbeats 8000000 in
set_option maxRecDepth 100000 in
theorem law_orders {p : Program} {l : Launch} {e : Env} {s : State} {m : MethodId} {below : List Frame} {meth : Method} {c : Code} {dC : Nat → ClassId} {dI : Nat → Nat → Nat} {cI cL cZ : ClassId} {b : Nat} {xs : Nat → Int32} (C0 : lw_At p s m meth c b 6 xs) (hK : va_K (dC, dI) vwCl (TYS cI cL cZ) s) (hN : nsW s) {A : Nat → Prop} (hA : ∀ q, s.heap.size ≤ q → A q) (hAe : A = fun q : Nat => s.heap.size ≤ q) (x0 m0 x1 x2 x3 x4 x5 x6 x7 x8 x9 x10 x11 x12 x13 x14 x15 x16 x17 x18 x19 x20 x21 x22 x23 x24 x25 x26 x27 x28 x29 x30 x31 x32 x33 x34 x40 x41 x42 x43 x44 x45 x96 x97 x98 x99 x100 x101 x102 m1 m2 m3 m4 m5 m6 m7 m8 m9 m10 m11 m12 m13 m14 m15 m16 m17 m18 m19 m20 m21 m22 m23 m24 m25 m26 m27 m28 m29 m30 m31 : Nat) {H : Heap} {locs : List Loc} (hP : va_P (dC, dI) vwCl [(x0, .inr (11, [.ref x1, .int 0, .ref x2, .ref x3, .ref x4, .ref x5, .ref x6, .ref x7, .int 0, .ref x8, .ref x9, .ref x10, .int 0, .int (-1), .ref x11, .int 0, .ref x12, .ref x13, .int 0])), (x2, .inr (3, [.ref x3, .ref x4, .ref x14, .ref x15, .ref x16, .int 0, .int 0, .int 0, .int 0, .int 0, .int 0, .int (-1), .ref x17, .ref x18, .ref x19, .int 0, .ref x20, .ref x21])), (x3, .inr (7, [.ref x22, .int 0, .ref x23, .ref x24, .ref x25, .ref x26, .int 0, .ref x27, .ref x28, .ref x29, .ref x30, .ref x31, .int 0, .ref x32, .ref x33, .ref x34])), (x5, .inr (6, [.int 0, .int 1, .ref x40, .ref x41, .ref x42, .int 0, .ref x43, .ref x44, .ref x45])), (x9, .inr (0, [.ref x96, .ref x97, .ref x98, .int 0, .ref x99, .ref x100, .ref x101, .int 0, .ref x102, .int 0, .int (-1)])), (x97, .inl (cI, 5329, .inl z0)), (x99, .inl (cI, 6, .inl z0)), (x100, .inl (cI, 511, .inl z0)), (x101, .inl (cI, 6, .inl z0)), (m0, .inr (12, [.ref m1, .ref m2, .ref m3, .int 0, .ref m4, .int 0, .int 0, .int 0, .int 0, .int 0, .int (-1), .int 0, .int 0, .int 0, .int 0, .ref m5, .ref m6, .ref m7, .ref m8, .ref m9, .ref m10, .ref m11, .ref m12, .int 0, .int 0, .int 0, .int 0, .int 0, .ref m13, .int 0, .ref m14, .ref m15, .int 0, .int 0, .ref m16, .int 0, .ref m17, .ref m18, .int 0, .int (-1), .ref m19, .ref m20, .ref m21, .int 0, .ref m22, .ref m23, .ref m24, .ref m25, .ref m26, .ref m27, .ref m28, .ref m29, .ref m30, .int 0, .int 0, .ref m31])), (m1, .inl (cI, 1560, .inl w0)), (m19, .inl (cI, 16, .inl z0)), (m31, .inl (cI, 16, .inl z0))] H) (hD : va_D A [(x0, .inr (11, [.ref x1, .int 0, .ref x2, .ref x3, .ref x4, .ref x5, .ref x6, .ref x7, .int 0, .ref x8, .ref x9, .ref x10, .int 0, .int (-1), .ref x11, .int 0, .ref x12, .ref x13, .int 0])), (x2, .inr (3, [.ref x3, .ref x4, .ref x14, .ref x15, .ref x16, .int 0, .int 0, .int 0, .int 0, .int 0, .int 0, .int (-1), .ref x17, .ref x18, .ref x19, .int 0, .ref x20, .ref x21])), (x3, .inr (7, [.ref x22, .int 0, .ref x23, .ref x24, .ref x25, .ref x26, .int 0, .ref x27, .ref x28, .ref x29, .ref x30, .ref x31, .int 0, .ref x32, .ref x33, .ref x34])), (x5, .inr (6, [.int 0, .int 1, .ref x40, .ref x41, .ref x42, .int 0, .ref x43, .ref x44, .ref x45])), (x9, .inr (0, [.ref x96, .ref x97, .ref x98, .int 0, .ref x99, .ref x100, .ref x101, .int 0, .ref x102, .int 0, .int (-1)])), (x97, .inl (cI, 5329, .inl z0)), (x99, .inl (cI, 6, .inl z0)), (x100, .inl (cI, 511, .inl z0)), (x101, .inl (cI, 6, .inl z0)), (m0, .inr (12, [.ref m1, .ref m2, .ref m3, .int 0, .ref m4, .int 0, .int 0, .int 0, .int 0, .int 0, .int (-1), .int 0, .int 0, .int 0, .int 0, .ref m5, .ref m6, .ref m7, .ref m8, .ref m9, .ref m10, .ref m11, .ref m12, .int 0, .int 0, .int 0, .int 0, .int 0, .ref m13, .int 0, .ref m14, .ref m15, .int 0, .int 0, .ref m16, .int 0, .ref m17, .ref m18, .int 0, .int (-1), .ref m19, .ref m20, .ref m21, .int 0, .ref m22, .ref m23, .ref m24, .ref m25, .ref m26, .ref m27, .ref m28, .ref m29, .ref m30, .int 0, .int 0, .ref m31])), (m1, .inl (cI, 1560, .inl w0)), (m19, .inl (cI, 16, .inl z0)), (m31, .inl (cI, 16, .inl z0))]) (hS : va_S A s.heap H locs) {ls : Array Slot} (hl : lv_has ls 4 [(3, .int 0), (2, .ref m0), (1, .ref x0), (0, .ref b)]) : W p l e room_1 s m #[Value.ref b] below meth c H locs 559 115398 (lw_Z below #[Value.ref b] s) (F0 m 575 ls []) := by
  obtain ⟨hx, hb, hr, hml, hown0, hts, hX, hbl, hlocks, hgv⟩ := C0
  have hown : s.vm.findClass RL = some m.cls := hown0
  have hU : ∀ w ∈ wsU, w.before #[Value.ref b] s = true := fun w h => hts w (wsU_in w h)
  have hbA : ¬ A b := by rw [hAe]; exact Nat.not_le.mpr hbl
  obtain ⟨s0, es0⟩ : ∃ y : Int32, xs 0 = y := ⟨_, rfl⟩
  obtain ⟨s1, es1⟩ : ∃ y : Int32, xs 1 = y := ⟨_, rfl⟩
  obtain ⟨s2, es2⟩ : ∃ y : Int32, xs 2 = y := ⟨_, rfl⟩
  obtain ⟨s3, es3⟩ : ∃ y : Int32, xs 3 = y := ⟨_, rfl⟩
  obtain ⟨s4, es4⟩ : ∃ y : Int32, xs 4 = y := ⟨_, rfl⟩
  obtain ⟨s5, es5⟩ : ∃ y : Int32, xs 5 = y := ⟨_, rfl⟩
  refine lv_aload_n hx hb dL_law_575 rfl (lv_at hl 2 rfl) ?_
  refine lv_aload_n hx hb dL_law_576 rfl (lv_at hl 3 rfl) ?_
  refine lv_iload_n hx hb dL_law_577 rfl (lv_at hl 0 rfl) ?_
  refine lv_iconst (v := 1) hx hb dL_law_578 (by decide) ?_
  refine lv_iadd hx hb dL_law_579 ?_
  refine tk_topi (y := 1) (by decide) ?_
  refine va_sld hx hb hX hbl hbA hS (vp_in_nI (n := 1) (by decide) (by decide)) dL_law_580 ?_
  refine tk_topi (y := s1) es1 ?_
  refine lv_aload_n hx hb dL_law_581 rfl (lv_at hl 3 rfl) ?_
  refine lv_iload_n hx hb dL_law_582 rfl (lv_at hl 0 rfl) ?_
  refine lv_iconst (v := 2) hx hb dL_law_583 (by decide) ?_
  refine lv_iadd hx hb dL_law_584 ?_
  refine tk_topi (y := 2) (by decide) ?_
  refine va_sld hx hb hX hbl hbA hS (vp_in_nI (n := 2) (by decide) (by decide)) dL_law_585 ?_
  refine tk_topi (y := s2) es2 ?_
  refine tk_ri (wr := [(m0, .inr (12, [.ref m1, .ref m2, .ref m3, .int 0, .ref m4, .int 0, .int 0, .int 0, .int 0, .int 0, .int (-1), .int 0, .int 0, .int 0, .int 0, .ref m5, .ref m6, .ref m7, .ref m8, .ref m9, .ref m10, .ref m11, .ref m12, .int 0, .int 0, .int 0, .int 0, .int 0, .ref m13, .int 0, .ref m14, .ref m15, .int 0, .int 0, .ref m16, .int 0, .ref m17, .ref m18, .int 0, .int (-1), .ref m19, .ref m20, .ref m21, .int 0, .ref m22, .ref m23, .ref m24, .ref m25, .ref m26, .ref m27, .ref m28, .ref m29, .ref m30, .int 0, .int 0, .ref m31])), (m1, .inl (cI, 1560, .inl w0)), (m19, .inl (cI, 16, .inl z0)), (m31, .inl (cI, 16, .inl z0))]) (tk_V (As := [.int s1, .int s2]) (rest := []) (n := 2) hx hb hml hown hU hN (op_X11_orders l (dC, dI) cI cL cZ H.size x0 s1 s2 x1 x2 x3 x4 x5 x6 x7 x8 x9 x10 x11 x12 x13 x14 x15 x16 x17 x18 x19 x20 x21 x22 x23 x24 x25 x26 x27 x28 x29 x30 x31 x32 x33 x34 x40 x41 x42 x43 x44 x45 x96 x97 x98 x99 x100 x101 x102) wd_1177 wd_1178 wd_1179 wd_2 wd_1180 (by decide +kernel) ⟨Nat.le_of_ble_eq_true rfl, Nat.le_of_ble_eq_true rfl⟩ hK hP hD [0, 1, 2, 3, 4, 5, 6, 7, 8] (by decide) rfl 0 11 rfl rfl rfl rfl hl.1 rfl (Nat.le_of_ble_eq_true rfl) dL_law_586 ⟨Nat.le_of_ble_eq_true rfl, Nat.le_of_ble_eq_true rfl⟩) hP hD hS hA [0, 1, 2, 3, 4, 5, 6, 7, 8] [9, 10, 11, 12] rfl rfl (by decide) (by decide) (fun r_1 w_2 H locs hw hP hD hS => ?_)
  obtain ⟨rfl, rfl⟩ := hw
  have hP : va_P (dC, dI) vwCl [(m0, .inr (12, [.ref m1, .ref m2, .ref m3, .int 0, .ref m4, .int 0, .int 0, .int 0, .int 0, .int 0, .int (-1), .int 0, .int 0, .int 0, .int 0, .ref m5, .ref m6, .ref m7, .ref m8, .ref m9, .ref m10, .ref m11, .ref m12, .int 0, .int 0, .int 0, .int 0, .int 0, .ref m13, .int 0, .ref m14, .ref m15, .int 0, .int 0, .ref m16, .int 0, .ref m17, .ref m18, .int 0, .int (-1), .ref m19, .ref m20, .ref m21, .int 0, .ref m22, .ref m23, .ref m24, .ref m25, .ref m26, .ref m27, .ref m28, .ref m29, .ref m30, .int 0, .int 0, .ref m31])), (m1, .inl (cI, 1560, .inl w0)), (m19, .inl (cI, 16, .inl z0)), (m31, .inl (cI, 16, .inl z0))] H := hP
  have hD : va_D A [(m0, .inr (12, [.ref m1, .ref m2, .ref m3, .int 0, .ref m4, .int 0, .int 0, .int 0, .int 0, .int 0, .int (-1), .int 0, .int 0, .int 0, .int 0, .ref m5, .ref m6, .ref m7, .ref m8, .ref m9, .ref m10, .ref m11, .ref m12, .int 0, .int 0, .int 0, .int 0, .int 0, .ref m13, .int 0, .ref m14, .ref m15, .int 0, .int 0, .ref m16, .int 0, .ref m17, .ref m18, .int 0, .int (-1), .ref m19, .ref m20, .ref m21, .int 0, .ref m22, .ref m23, .ref m24, .ref m25, .ref m26, .ref m27, .ref m28, .ref m29, .ref m30, .int 0, .int 0, .ref m31])), (m1, .inl (cI, 1560, .inl w0)), (m19, .inl (cI, 16, .inl z0)), (m31, .inl (cI, 16, .inl z0))] := hD
  refine lv_aload_n hx hb dL_law_589 rfl (lv_at hl 1 rfl) ?_
  refine lv_aload_n hx hb dL_law_590 rfl (lv_at hl 3 rfl) ?_
  refine lv_iload_n hx hb dL_law_591 rfl (lv_at hl 0 rfl) ?_
  refine lv_iconst (v := 1) hx hb dL_law_592 (by decide) ?_
  refine lv_iadd hx hb dL_law_593 ?_
  refine tk_topi (y := 1) (by decide) ?_
  refine va_sld hx hb hX hbl hbA hS (vp_in_nI (n := 1) (by decide) (by decide)) dL_law_594 ?_
  refine tk_topi (y := s1) es1 ?_
  refine lv_aload_n hx hb dL_law_595 rfl (lv_at hl 3 rfl) ?_
  refine lv_iload_n hx hb dL_law_596 rfl (lv_at hl 0 rfl) ?_
  refine lv_iconst (v := 2) hx hb dL_law_597 (by decide) ?_
  refine lv_iadd hx hb dL_law_598 ?_
  refine tk_topi (y := 2) (by decide) ?_
  refine va_sld hx hb hX hbl hbA hS (vp_in_nI (n := 2) (by decide) (by decide)) dL_law_599 ?_
  refine tk_topi (y := s2) es2 ?_
  refine tk_ri (wr := []) (tk_V (As := [.int s1, .int s2]) (rest := [.int (an_orders s1 s2)]) (n := 2) hx hb hml hown hU hN (op_X12_orders l (dC, dI) cI cL cZ H.size m0 s1 s2 m1 m2 m3 m4 m5 m6 m7 m8 m9 m10 m11 m12 m13 m14 m15 m16 m17 m18 m19 m20 m21 m22 m23 m24 m25 m26 m27 m28 m29 m30 m31) wd_1237 wd_1238 wd_1239 wd_5 wd_1240 (by decide +kernel) ⟨Nat.le_of_ble_eq_true rfl, Nat.le_of_ble_eq_true rfl⟩ hK hP hD [0, 1, 2, 3] (by decide) rfl 0 12 rfl rfl rfl rfl hl.1 rfl (Nat.le_of_ble_eq_true rfl) dL_law_600 ⟨Nat.le_of_ble_eq_true rfl, Nat.le_of_ble_eq_true rfl⟩) hP hD hS hA [0, 1, 2, 3] [] rfl rfl (by decide) (by decide) (fun r_3 w_4 H locs hw hP hD hS => ?_)
  obtain ⟨rfl, rfl⟩ := hw
  have hP : va_P (dC, dI) vwCl [] H := hP
  have hD : va_D A [] := hD
  refine lv_icmp_eq (tgt := 933) hx hb dL_law_603 (by decide) (fun _ => ?_) (fun c9 => absurd rfl c9)
  refine lv_iinc (v := 6) (lv' := [(3, .int 6), (2, .ref m0), (1, .ref x0), (0, .ref b)]) hx hb dL_law_933 hl (k := 0) rfl (by decide) (by decide) rfl (fun ls hl => ?_)
  refine lv_goto (tgt := 18) hx hb dL_law_936 (by decide) ?_
  refine lv_iload_n hx hb dL_law_18 rfl (lv_at hl 0 rfl) ?_
  refine lv_aload_n hx hb dL_law_19 rfl (lv_at hl 3 rfl) ?_
  refine va_slen hx hb hX hbl hbA hS dL_law_20 ?_
  refine tk_topi (y := 6) rfl ?_
  refine lv_bipush (v := 6) hx hb dL_law_21 (by decide) ?_
  refine lv_isub hx hb dL_law_23 ?_
  refine tk_topi (y := 0) (by decide) ?_
  refine lv_icmp_gt (tgt := 939) hx hb dL_law_24 (by decide) (fun _ => ?_) (fun c9 => absurd (by decide) c9) 
  refine lv_iconst (v := 1) hx hb dL_law_939 (by decide) ?_
  refine va_forget (fun q hq => by have h9 := hS.2.2 q hq; rw [hAe] at h9; exact h9) ?_
  refine W.widen (k := 600000) (n := 7302250) (Nat.le_of_ble_eq_true rfl) (Nat.le_of_ble_eq_true rfl) ?_
  exact lw_ret hx hb hr hlocks dL_law_940
set_option maxHeartbeats 8000000 in
set_option maxRecDepth 100000 in
theorem law_quarrel {p : Program} {l : Launch} {e : Env} {s : State} {m : MethodId} {below : List Frame} {meth : Method} {c : Code} {dC : Nat → ClassId} {dI : Nat → Nat → Nat} {cI cL cZ : ClassId} {b : Nat} {xs : Nat → Int32} (C0 : lw_At p s m meth c b 6 xs) (hK : va_K (dC, dI) vwCl (TYS cI cL cZ) s) (hN : nsW s) {A : Nat → Prop} (hA : ∀ q, s.heap.size ≤ q → A q) (hAe : A = fun q : Nat => s.heap.size ≤ q) (x0 m0 x1 x2 x3 x4 x5 x6 x7 x8 x9 x10 x11 x12 x13 x22 x23 x24 x25 x26 x27 x28 x29 x30 x31 x32 x33 x34 m1 m2 m3 m4 m5 m6 m7 m8 m9 m10 m11 m12 m13 m14 m15 m16 m17 m18 m19 m20 m21 m22 m23 m24 m25 m26 m27 m28 m29 m30 m31 : Nat) {H : Heap} {locs : List Loc} (hP : va_P (dC, dI) vwCl [(x0, .inr (11, [.ref x1, .int 0, .ref x2, .ref x3, .ref x4, .ref x5, .ref x6, .ref x7, .int 0, .ref x8, .ref x9, .ref x10, .int 0, .int (-1), .ref x11, .int 0, .ref x12, .ref x13, .int 0])), (x3, .inr (7, [.ref x22, .int 0, .ref x23, .ref x24, .ref x25, .ref x26, .int 0, .ref x27, .ref x28, .ref x29, .ref x30, .ref x31, .int 0, .ref x32, .ref x33, .ref x34])), (m0, .inr (12, [.ref m1, .ref m2, .ref m3, .int 0, .ref m4, .int 0, .int 0, .int 0, .int 0, .int 0, .int (-1), .int 0, .int 0, .int 0, .int 0, .ref m5, .ref m6, .ref m7, .ref m8, .ref m9, .ref m10, .ref m11, .ref m12, .int 0, .int 0, .int 0, .int 0, .int 0, .ref m13, .int 0, .ref m14, .ref m15, .int 0, .int 0, .ref m16, .int 0, .ref m17, .ref m18, .int 0, .int (-1), .ref m19, .ref m20, .ref m21, .int 0, .ref m22, .ref m23, .ref m24, .ref m25, .ref m26, .ref m27, .ref m28, .ref m29, .ref m30, .int 0, .int 0, .ref m31])), (m1, .inl (cI, 1560, .inl w0))] H) (hD : va_D A [(x0, .inr (11, [.ref x1, .int 0, .ref x2, .ref x3, .ref x4, .ref x5, .ref x6, .ref x7, .int 0, .ref x8, .ref x9, .ref x10, .int 0, .int (-1), .ref x11, .int 0, .ref x12, .ref x13, .int 0])), (x3, .inr (7, [.ref x22, .int 0, .ref x23, .ref x24, .ref x25, .ref x26, .int 0, .ref x27, .ref x28, .ref x29, .ref x30, .ref x31, .int 0, .ref x32, .ref x33, .ref x34])), (m0, .inr (12, [.ref m1, .ref m2, .ref m3, .int 0, .ref m4, .int 0, .int 0, .int 0, .int 0, .int 0, .int (-1), .int 0, .int 0, .int 0, .int 0, .ref m5, .ref m6, .ref m7, .ref m8, .ref m9, .ref m10, .ref m11, .ref m12, .int 0, .int 0, .int 0, .int 0, .int 0, .ref m13, .int 0, .ref m14, .ref m15, .int 0, .int 0, .ref m16, .int 0, .ref m17, .ref m18, .int 0, .int (-1), .ref m19, .ref m20, .ref m21, .int 0, .ref m22, .ref m23, .ref m24, .ref m25, .ref m26, .ref m27, .ref m28, .ref m29, .ref m30, .int 0, .int 0, .ref m31])), (m1, .inl (cI, 1560, .inl w0))]) (hS : va_S A s.heap H locs) {ls : Array Slot} (hl : lv_has ls 4 [(3, .int 0), (2, .ref m0), (1, .ref x0), (0, .ref b)]) : W p l e room_1 s m #[Value.ref b] below meth c H locs 559 115398 (lw_Z below #[Value.ref b] s) (F0 m 608 ls []) := by
  obtain ⟨hx, hb, hr, hml, hown0, hts, hX, hbl, hlocks, hgv⟩ := C0
  have hown : s.vm.findClass RL = some m.cls := hown0
  have hU : ∀ w ∈ wsU, w.before #[Value.ref b] s = true := fun w h => hts w (wsU_in w h)
  have hbA : ¬ A b := by rw [hAe]; exact Nat.not_le.mpr hbl
  obtain ⟨s0, es0⟩ : ∃ y : Int32, xs 0 = y := ⟨_, rfl⟩
  obtain ⟨s1, es1⟩ : ∃ y : Int32, xs 1 = y := ⟨_, rfl⟩
  obtain ⟨s2, es2⟩ : ∃ y : Int32, xs 2 = y := ⟨_, rfl⟩
  obtain ⟨s3, es3⟩ : ∃ y : Int32, xs 3 = y := ⟨_, rfl⟩
  obtain ⟨s4, es4⟩ : ∃ y : Int32, xs 4 = y := ⟨_, rfl⟩
  obtain ⟨s5, es5⟩ : ∃ y : Int32, xs 5 = y := ⟨_, rfl⟩
  refine lv_aload_n hx hb dL_law_608 rfl (lv_at hl 2 rfl) ?_
  refine lv_aload_n hx hb dL_law_609 rfl (lv_at hl 3 rfl) ?_
  refine lv_iload_n hx hb dL_law_610 rfl (lv_at hl 0 rfl) ?_
  refine lv_iconst (v := 1) hx hb dL_law_611 (by decide) ?_
  refine lv_iadd hx hb dL_law_612 ?_
  refine tk_topi (y := 1) (by decide) ?_
  refine va_sld hx hb hX hbl hbA hS (vp_in_nI (n := 1) (by decide) (by decide)) dL_law_613 ?_
  refine tk_topi (y := s1) es1 ?_
  refine lv_aload_n hx hb dL_law_614 rfl (lv_at hl 3 rfl) ?_
  refine lv_iload_n hx hb dL_law_615 rfl (lv_at hl 0 rfl) ?_
  refine lv_iconst (v := 2) hx hb dL_law_616 (by decide) ?_
  refine lv_iadd hx hb dL_law_617 ?_
  refine tk_topi (y := 2) (by decide) ?_
  refine va_sld hx hb hX hbl hbA hS (vp_in_nI (n := 2) (by decide) (by decide)) dL_law_618 ?_
  refine tk_topi (y := s2) es2 ?_
  refine tk_ri (wr := [(m0, .inr (12, [.ref m1, .ref m2, .ref m3, .int 0, .ref m4, .int 0, .int 0, .int 0, .int 0, .int 0, .int (-1), .int 0, .int 0, .int 0, .int 0, .ref m5, .ref m6, .ref m7, .ref m8, .ref m9, .ref m10, .ref m11, .ref m12, .int 0, .int 0, .int 0, .int 0, .int 0, .ref m13, .int 0, .ref m14, .ref m15, .int 0, .int 0, .ref m16, .int 0, .ref m17, .ref m18, .int 0, .int (-1), .ref m19, .ref m20, .ref m21, .int 0, .ref m22, .ref m23, .ref m24, .ref m25, .ref m26, .ref m27, .ref m28, .ref m29, .ref m30, .int 0, .int 0, .ref m31])), (m1, .inl (cI, 1560, .inl w0))]) (tk_V (As := [.int s1, .int s2]) (rest := []) (n := 2) hx hb hml hown hU hN (op_X11_quarrel l (dC, dI) cI cL cZ H.size x0 s1 s2 x1 x2 x3 x4 x5 x6 x7 x8 x9 x10 x11 x12 x13 x22 x23 x24 x25 x26 x27 x28 x29 x30 x31 x32 x33 x34) wd_1255 wd_1256 wd_1257 wd_2 wd_1258 (by decide +kernel) ⟨Nat.le_of_ble_eq_true rfl, Nat.le_of_ble_eq_true rfl⟩ hK hP hD [0, 1] (by decide) rfl 0 11 rfl rfl rfl rfl hl.1 rfl (Nat.le_of_ble_eq_true rfl) dL_law_619 ⟨Nat.le_of_ble_eq_true rfl, Nat.le_of_ble_eq_true rfl⟩) hP hD hS hA [0, 1] [2, 3] rfl rfl (by decide) (by decide) (fun r_1 w_2 H locs hw hP hD hS => ?_)
  obtain ⟨rfl, rfl⟩ := hw
  have hP : va_P (dC, dI) vwCl [(m0, .inr (12, [.ref m1, .ref m2, .ref m3, .int 0, .ref m4, .int 0, .int 0, .int 0, .int 0, .int 0, .int (-1), .int 0, .int 0, .int 0, .int 0, .ref m5, .ref m6, .ref m7, .ref m8, .ref m9, .ref m10, .ref m11, .ref m12, .int 0, .int 0, .int 0, .int 0, .int 0, .ref m13, .int 0, .ref m14, .ref m15, .int 0, .int 0, .ref m16, .int 0, .ref m17, .ref m18, .int 0, .int (-1), .ref m19, .ref m20, .ref m21, .int 0, .ref m22, .ref m23, .ref m24, .ref m25, .ref m26, .ref m27, .ref m28, .ref m29, .ref m30, .int 0, .int 0, .ref m31])), (m1, .inl (cI, 1560, .inl w0))] H := hP
  have hD : va_D A [(m0, .inr (12, [.ref m1, .ref m2, .ref m3, .int 0, .ref m4, .int 0, .int 0, .int 0, .int 0, .int 0, .int (-1), .int 0, .int 0, .int 0, .int 0, .ref m5, .ref m6, .ref m7, .ref m8, .ref m9, .ref m10, .ref m11, .ref m12, .int 0, .int 0, .int 0, .int 0, .int 0, .ref m13, .int 0, .ref m14, .ref m15, .int 0, .int 0, .ref m16, .int 0, .ref m17, .ref m18, .int 0, .int (-1), .ref m19, .ref m20, .ref m21, .int 0, .ref m22, .ref m23, .ref m24, .ref m25, .ref m26, .ref m27, .ref m28, .ref m29, .ref m30, .int 0, .int 0, .ref m31])), (m1, .inl (cI, 1560, .inl w0))] := hD
  refine lv_aload_n hx hb dL_law_622 rfl (lv_at hl 1 rfl) ?_
  refine lv_aload_n hx hb dL_law_623 rfl (lv_at hl 3 rfl) ?_
  refine lv_iload_n hx hb dL_law_624 rfl (lv_at hl 0 rfl) ?_
  refine lv_iconst (v := 1) hx hb dL_law_625 (by decide) ?_
  refine lv_iadd hx hb dL_law_626 ?_
  refine tk_topi (y := 1) (by decide) ?_
  refine va_sld hx hb hX hbl hbA hS (vp_in_nI (n := 1) (by decide) (by decide)) dL_law_627 ?_
  refine tk_topi (y := s1) es1 ?_
  refine lv_aload_n hx hb dL_law_628 rfl (lv_at hl 3 rfl) ?_
  refine lv_iload_n hx hb dL_law_629 rfl (lv_at hl 0 rfl) ?_
  refine lv_iconst (v := 2) hx hb dL_law_630 (by decide) ?_
  refine lv_iadd hx hb dL_law_631 ?_
  refine tk_topi (y := 2) (by decide) ?_
  refine va_sld hx hb hX hbl hbA hS (vp_in_nI (n := 2) (by decide) (by decide)) dL_law_632 ?_
  refine tk_topi (y := s2) es2 ?_
  refine tk_ri (wr := []) (tk_V (As := [.int s1, .int s2]) (rest := [.int (-1)]) (n := 2) hx hb hml hown hU hN (op_X12_quarrel l (dC, dI) cI cL cZ H.size m0 s1 s2 m1 m2 m3 m4 m5 m6 m7 m8 m9 m10 m11 m12 m13 m14 m15 m16 m17 m18 m19 m20 m21 m22 m23 m24 m25 m26 m27 m28 m29 m30 m31) wd_1285 wd_1286 wd_1287 wd_5 wd_1288 (by decide +kernel) ⟨Nat.le_of_ble_eq_true rfl, Nat.le_of_ble_eq_true rfl⟩ hK hP hD [0, 1] (by decide) rfl 0 12 rfl rfl rfl rfl hl.1 rfl (Nat.le_of_ble_eq_true rfl) dL_law_633 ⟨Nat.le_of_ble_eq_true rfl, Nat.le_of_ble_eq_true rfl⟩) hP hD hS hA [0, 1] [] rfl rfl (by decide) (by decide) (fun r_3 w_4 H locs hw hP hD hS => ?_)
  obtain ⟨rfl, rfl⟩ := hw
  have hP : va_P (dC, dI) vwCl [] H := hP
  have hD : va_D A [] := hD
  refine lv_icmp_eq (tgt := 933) hx hb dL_law_636 (by decide) (fun _ => ?_) (fun c9 => absurd (by decide) c9) 
  refine lv_iinc (v := 6) (lv' := [(3, .int 6), (2, .ref m0), (1, .ref x0), (0, .ref b)]) hx hb dL_law_933 hl (k := 0) rfl (by decide) (by decide) rfl (fun ls hl => ?_)
  refine lv_goto (tgt := 18) hx hb dL_law_936 (by decide) ?_
  refine lv_iload_n hx hb dL_law_18 rfl (lv_at hl 0 rfl) ?_
  refine lv_aload_n hx hb dL_law_19 rfl (lv_at hl 3 rfl) ?_
  refine va_slen hx hb hX hbl hbA hS dL_law_20 ?_
  refine tk_topi (y := 6) rfl ?_
  refine lv_bipush (v := 6) hx hb dL_law_21 (by decide) ?_
  refine lv_isub hx hb dL_law_23 ?_
  refine tk_topi (y := 0) (by decide) ?_
  refine lv_icmp_gt (tgt := 939) hx hb dL_law_24 (by decide) (fun _ => ?_) (fun c9 => absurd (by decide) c9) 
  refine lv_iconst (v := 1) hx hb dL_law_939 (by decide) ?_
  refine va_forget (fun q hq => by have h9 := hS.2.2 q hq; rw [hAe] at h9; exact h9) ?_
  refine W.widen (k := 600000) (n := 7302250) (Nat.le_of_ble_eq_true rfl) (Nat.le_of_ble_eq_true rfl) ?_
  exact lw_ret hx hb hr hlocks dL_law_940
set_option maxHeartbeats 8000000 in
set_option maxRecDepth 100000 in
theorem law_parts {p : Program} {l : Launch} {e : Env} {s : State} {m : MethodId} {below : List Frame} {meth : Method} {c : Code} {dC : Nat → ClassId} {dI : Nat → Nat → Nat} {cI cL cZ : ClassId} {b : Nat} {xs : Nat → Int32} (C0 : lw_At p s m meth c b 6 xs) (hK : va_K (dC, dI) vwCl (TYS cI cL cZ) s) (hN : nsW s) {A : Nat → Prop} (hA : ∀ q, s.heap.size ≤ q → A q) (hAe : A = fun q : Nat => s.heap.size ≤ q) (x0 m0 x1 x2 x3 x4 x5 x6 x7 x8 x9 x10 x11 x12 x13 x22 x23 x24 x25 x26 x27 x28 x29 x30 x31 x32 x33 x34 m1 m2 m3 m4 m5 m6 m7 m8 m9 m10 m11 m12 m13 m14 m15 m16 m17 m18 m19 m20 m21 m22 m23 m24 m25 m26 m27 m28 m29 m30 m31 : Nat) {H : Heap} {locs : List Loc} (hP : va_P (dC, dI) vwCl [(x0, .inr (11, [.ref x1, .int 0, .ref x2, .ref x3, .ref x4, .ref x5, .ref x6, .ref x7, .int 0, .ref x8, .ref x9, .ref x10, .int 0, .int (-1), .ref x11, .int 0, .ref x12, .ref x13, .int 0])), (x3, .inr (7, [.ref x22, .int 0, .ref x23, .ref x24, .ref x25, .ref x26, .int 0, .ref x27, .ref x28, .ref x29, .ref x30, .ref x31, .int 0, .ref x32, .ref x33, .ref x34])), (m0, .inr (12, [.ref m1, .ref m2, .ref m3, .int 0, .ref m4, .int 0, .int 0, .int 0, .int 0, .int 0, .int (-1), .int 0, .int 0, .int 0, .int 0, .ref m5, .ref m6, .ref m7, .ref m8, .ref m9, .ref m10, .ref m11, .ref m12, .int 0, .int 0, .int 0, .int 0, .int 0, .ref m13, .int 0, .ref m14, .ref m15, .int 0, .int 0, .ref m16, .int 0, .ref m17, .ref m18, .int 0, .int (-1), .ref m19, .ref m20, .ref m21, .int 0, .ref m22, .ref m23, .ref m24, .ref m25, .ref m26, .ref m27, .ref m28, .ref m29, .ref m30, .int 0, .int 0, .ref m31])), (m1, .inl (cI, 1560, .inl w0))] H) (hD : va_D A [(x0, .inr (11, [.ref x1, .int 0, .ref x2, .ref x3, .ref x4, .ref x5, .ref x6, .ref x7, .int 0, .ref x8, .ref x9, .ref x10, .int 0, .int (-1), .ref x11, .int 0, .ref x12, .ref x13, .int 0])), (x3, .inr (7, [.ref x22, .int 0, .ref x23, .ref x24, .ref x25, .ref x26, .int 0, .ref x27, .ref x28, .ref x29, .ref x30, .ref x31, .int 0, .ref x32, .ref x33, .ref x34])), (m0, .inr (12, [.ref m1, .ref m2, .ref m3, .int 0, .ref m4, .int 0, .int 0, .int 0, .int 0, .int 0, .int (-1), .int 0, .int 0, .int 0, .int 0, .ref m5, .ref m6, .ref m7, .ref m8, .ref m9, .ref m10, .ref m11, .ref m12, .int 0, .int 0, .int 0, .int 0, .int 0, .ref m13, .int 0, .ref m14, .ref m15, .int 0, .int 0, .ref m16, .int 0, .ref m17, .ref m18, .int 0, .int (-1), .ref m19, .ref m20, .ref m21, .int 0, .ref m22, .ref m23, .ref m24, .ref m25, .ref m26, .ref m27, .ref m28, .ref m29, .ref m30, .int 0, .int 0, .ref m31])), (m1, .inl (cI, 1560, .inl w0))]) (hS : va_S A s.heap H locs) {ls : Array Slot} (hl : lv_has ls 4 [(3, .int 0), (2, .ref m0), (1, .ref x0), (0, .ref b)]) : W p l e room_1 s m #[Value.ref b] below meth c H locs 559 115398 (lw_Z below #[Value.ref b] s) (F0 m 641 ls []) := by
  obtain ⟨hx, hb, hr, hml, hown0, hts, hX, hbl, hlocks, hgv⟩ := C0
  have hown : s.vm.findClass RL = some m.cls := hown0
  have hU : ∀ w ∈ wsU, w.before #[Value.ref b] s = true := fun w h => hts w (wsU_in w h)
  have hbA : ¬ A b := by rw [hAe]; exact Nat.not_le.mpr hbl
  obtain ⟨s0, es0⟩ : ∃ y : Int32, xs 0 = y := ⟨_, rfl⟩
  obtain ⟨s1, es1⟩ : ∃ y : Int32, xs 1 = y := ⟨_, rfl⟩
  obtain ⟨s2, es2⟩ : ∃ y : Int32, xs 2 = y := ⟨_, rfl⟩
  obtain ⟨s3, es3⟩ : ∃ y : Int32, xs 3 = y := ⟨_, rfl⟩
  obtain ⟨s4, es4⟩ : ∃ y : Int32, xs 4 = y := ⟨_, rfl⟩
  obtain ⟨s5, es5⟩ : ∃ y : Int32, xs 5 = y := ⟨_, rfl⟩
  refine lv_aload_n hx hb dL_law_641 rfl (lv_at hl 2 rfl) ?_
  refine lv_aload_n hx hb dL_law_642 rfl (lv_at hl 3 rfl) ?_
  refine lv_iload_n hx hb dL_law_643 rfl (lv_at hl 0 rfl) ?_
  refine lv_iconst (v := 1) hx hb dL_law_644 (by decide) ?_
  refine lv_iadd hx hb dL_law_645 ?_
  refine tk_topi (y := 1) (by decide) ?_
  refine va_sld hx hb hX hbl hbA hS (vp_in_nI (n := 1) (by decide) (by decide)) dL_law_646 ?_
  refine tk_topi (y := s1) es1 ?_
  refine lv_aload_n hx hb dL_law_647 rfl (lv_at hl 3 rfl) ?_
  refine lv_iload_n hx hb dL_law_648 rfl (lv_at hl 0 rfl) ?_
  refine lv_iconst (v := 2) hx hb dL_law_649 (by decide) ?_
  refine lv_iadd hx hb dL_law_650 ?_
  refine tk_topi (y := 2) (by decide) ?_
  refine va_sld hx hb hX hbl hbA hS (vp_in_nI (n := 2) (by decide) (by decide)) dL_law_651 ?_
  refine tk_topi (y := s2) es2 ?_
  refine lv_aload_n hx hb dL_law_652 rfl (lv_at hl 3 rfl) ?_
  refine lv_iload_n hx hb dL_law_653 rfl (lv_at hl 0 rfl) ?_
  refine lv_iconst (v := 3) hx hb dL_law_654 (by decide) ?_
  refine lv_iadd hx hb dL_law_655 ?_
  refine tk_topi (y := 3) (by decide) ?_
  refine va_sld hx hb hX hbl hbA hS (vp_in_nI (n := 3) (by decide) (by decide)) dL_law_656 ?_
  refine tk_topi (y := s3) es3 ?_
  refine tk_ri (wr := [(m0, .inr (12, [.ref m1, .ref m2, .ref m3, .int 0, .ref m4, .int 0, .int 0, .int 0, .int 0, .int 0, .int (-1), .int 0, .int 0, .int 0, .int 0, .ref m5, .ref m6, .ref m7, .ref m8, .ref m9, .ref m10, .ref m11, .ref m12, .int 0, .int 0, .int 0, .int 0, .int 0, .ref m13, .int 0, .ref m14, .ref m15, .int 0, .int 0, .ref m16, .int 0, .ref m17, .ref m18, .int 0, .int (-1), .ref m19, .ref m20, .ref m21, .int 0, .ref m22, .ref m23, .ref m24, .ref m25, .ref m26, .ref m27, .ref m28, .ref m29, .ref m30, .int 0, .int 0, .ref m31])), (m1, .inl (cI, 1560, .inl w0))]) (tk_V (As := [.int s1, .int s2, .int s3]) (rest := []) (n := 3) hx hb hml hown hU hN (op_X11_parts l (dC, dI) cI cL cZ H.size x0 s1 s2 s3 x1 x2 x3 x4 x5 x6 x7 x8 x9 x10 x11 x12 x13 x22 x23 x24 x25 x26 x27 x28 x29 x30 x31 x32 x33 x34) wd_1309 wd_1310 wd_1311 wd_2 wd_1312 (by decide +kernel) ⟨Nat.le_of_ble_eq_true rfl, Nat.le_of_ble_eq_true rfl⟩ hK hP hD [0, 1] (by decide) rfl 0 11 rfl rfl rfl rfl hl.1 rfl (Nat.le_of_ble_eq_true rfl) dL_law_657 ⟨Nat.le_of_ble_eq_true rfl, Nat.le_of_ble_eq_true rfl⟩) hP hD hS hA [0, 1] [2, 3] rfl rfl (by decide) (by decide) (fun r_1 w_2 H locs hw hP hD hS => ?_)
  obtain ⟨rfl, rfl⟩ := hw
  have hP : va_P (dC, dI) vwCl [(m0, .inr (12, [.ref m1, .ref m2, .ref m3, .int 0, .ref m4, .int 0, .int 0, .int 0, .int 0, .int 0, .int (-1), .int 0, .int 0, .int 0, .int 0, .ref m5, .ref m6, .ref m7, .ref m8, .ref m9, .ref m10, .ref m11, .ref m12, .int 0, .int 0, .int 0, .int 0, .int 0, .ref m13, .int 0, .ref m14, .ref m15, .int 0, .int 0, .ref m16, .int 0, .ref m17, .ref m18, .int 0, .int (-1), .ref m19, .ref m20, .ref m21, .int 0, .ref m22, .ref m23, .ref m24, .ref m25, .ref m26, .ref m27, .ref m28, .ref m29, .ref m30, .int 0, .int 0, .ref m31])), (m1, .inl (cI, 1560, .inl w0))] H := hP
  have hD : va_D A [(m0, .inr (12, [.ref m1, .ref m2, .ref m3, .int 0, .ref m4, .int 0, .int 0, .int 0, .int 0, .int 0, .int (-1), .int 0, .int 0, .int 0, .int 0, .ref m5, .ref m6, .ref m7, .ref m8, .ref m9, .ref m10, .ref m11, .ref m12, .int 0, .int 0, .int 0, .int 0, .int 0, .ref m13, .int 0, .ref m14, .ref m15, .int 0, .int 0, .ref m16, .int 0, .ref m17, .ref m18, .int 0, .int (-1), .ref m19, .ref m20, .ref m21, .int 0, .ref m22, .ref m23, .ref m24, .ref m25, .ref m26, .ref m27, .ref m28, .ref m29, .ref m30, .int 0, .int 0, .ref m31])), (m1, .inl (cI, 1560, .inl w0))] := hD
  refine lv_aload_n hx hb dL_law_660 rfl (lv_at hl 1 rfl) ?_
  refine lv_aload_n hx hb dL_law_661 rfl (lv_at hl 3 rfl) ?_
  refine lv_iload_n hx hb dL_law_662 rfl (lv_at hl 0 rfl) ?_
  refine lv_iconst (v := 1) hx hb dL_law_663 (by decide) ?_
  refine lv_iadd hx hb dL_law_664 ?_
  refine tk_topi (y := 1) (by decide) ?_
  refine va_sld hx hb hX hbl hbA hS (vp_in_nI (n := 1) (by decide) (by decide)) dL_law_665 ?_
  refine tk_topi (y := s1) es1 ?_
  refine lv_aload_n hx hb dL_law_666 rfl (lv_at hl 3 rfl) ?_
  refine lv_iload_n hx hb dL_law_667 rfl (lv_at hl 0 rfl) ?_
  refine lv_iconst (v := 2) hx hb dL_law_668 (by decide) ?_
  refine lv_iadd hx hb dL_law_669 ?_
  refine tk_topi (y := 2) (by decide) ?_
  refine va_sld hx hb hX hbl hbA hS (vp_in_nI (n := 2) (by decide) (by decide)) dL_law_670 ?_
  refine tk_topi (y := s2) es2 ?_
  refine lv_aload_n hx hb dL_law_671 rfl (lv_at hl 3 rfl) ?_
  refine lv_iload_n hx hb dL_law_672 rfl (lv_at hl 0 rfl) ?_
  refine lv_iconst (v := 3) hx hb dL_law_673 (by decide) ?_
  refine lv_iadd hx hb dL_law_674 ?_
  refine tk_topi (y := 3) (by decide) ?_
  refine va_sld hx hb hX hbl hbA hS (vp_in_nI (n := 3) (by decide) (by decide)) dL_law_675 ?_
  refine tk_topi (y := s3) es3 ?_
  refine tk_ri (wr := []) (tk_V (As := [.int s1, .int s2, .int s3]) (rest := [.int (an_parts s1 s2 s3)]) (n := 3) hx hb hml hown hU hN (op_X12_parts l (dC, dI) cI cL cZ H.size m0 s1 s2 s3 m1 m2 m3 m4 m5 m6 m7 m8 m9 m10 m11 m12 m13 m14 m15 m16 m17 m18 m19 m20 m21 m22 m23 m24 m25 m26 m27 m28 m29 m30 m31) wd_1330 wd_1331 wd_1332 wd_5 wd_1333 (by decide +kernel) ⟨Nat.le_of_ble_eq_true rfl, Nat.le_of_ble_eq_true rfl⟩ hK hP hD [0, 1] (by decide) rfl 0 12 rfl rfl rfl rfl hl.1 rfl (Nat.le_of_ble_eq_true rfl) dL_law_676 ⟨Nat.le_of_ble_eq_true rfl, Nat.le_of_ble_eq_true rfl⟩) hP hD hS hA [0, 1] [] rfl rfl (by decide) (by decide) (fun r_3 w_4 H locs hw hP hD hS => ?_)
  obtain ⟨rfl, rfl⟩ := hw
  have hP : va_P (dC, dI) vwCl [] H := hP
  have hD : va_D A [] := hD
  refine lv_icmp_eq (tgt := 933) hx hb dL_law_679 (by decide) (fun _ => ?_) (fun c9 => absurd rfl c9)
  refine lv_iinc (v := 6) (lv' := [(3, .int 6), (2, .ref m0), (1, .ref x0), (0, .ref b)]) hx hb dL_law_933 hl (k := 0) rfl (by decide) (by decide) rfl (fun ls hl => ?_)
  refine lv_goto (tgt := 18) hx hb dL_law_936 (by decide) ?_
  refine lv_iload_n hx hb dL_law_18 rfl (lv_at hl 0 rfl) ?_
  refine lv_aload_n hx hb dL_law_19 rfl (lv_at hl 3 rfl) ?_
  refine va_slen hx hb hX hbl hbA hS dL_law_20 ?_
  refine tk_topi (y := 6) rfl ?_
  refine lv_bipush (v := 6) hx hb dL_law_21 (by decide) ?_
  refine lv_isub hx hb dL_law_23 ?_
  refine tk_topi (y := 0) (by decide) ?_
  refine lv_icmp_gt (tgt := 939) hx hb dL_law_24 (by decide) (fun _ => ?_) (fun c9 => absurd (by decide) c9) 
  refine lv_iconst (v := 1) hx hb dL_law_939 (by decide) ?_
  refine va_forget (fun q hq => by have h9 := hS.2.2 q hq; rw [hAe] at h9; exact h9) ?_
  refine W.widen (k := 600000) (n := 7302250) (Nat.le_of_ble_eq_true rfl) (Nat.le_of_ble_eq_true rfl) ?_
  exact lw_ret hx hb hr hlocks dL_law_940
set_option maxHeartbeats 8000000 in
set_option maxRecDepth 100000 in
theorem law_idle {p : Program} {l : Launch} {e : Env} {s : State} {m : MethodId} {below : List Frame} {meth : Method} {c : Code} {dC : Nat → ClassId} {dI : Nat → Nat → Nat} {cI cL cZ : ClassId} {b : Nat} {xs : Nat → Int32} (C0 : lw_At p s m meth c b 6 xs) (hK : va_K (dC, dI) vwCl (TYS cI cL cZ) s) (hN : nsW s) {A : Nat → Prop} (hA : ∀ q, s.heap.size ≤ q → A q) (hAe : A = fun q : Nat => s.heap.size ≤ q) (x0 m0 x1 x2 x3 x4 x5 x6 x7 x8 x9 x10 x11 x12 x13 x22 x23 x24 x25 x26 x27 x28 x29 x30 x31 x32 x33 x34 m1 m2 m3 m4 m5 m6 m7 m8 m9 m10 m11 m12 m13 m14 m15 m16 m17 m18 m19 m20 m21 m22 m23 m24 m25 m26 m27 m28 m29 m30 m31 : Nat) {H : Heap} {locs : List Loc} (hP : va_P (dC, dI) vwCl [(x0, .inr (11, [.ref x1, .int 0, .ref x2, .ref x3, .ref x4, .ref x5, .ref x6, .ref x7, .int 0, .ref x8, .ref x9, .ref x10, .int 0, .int (-1), .ref x11, .int 0, .ref x12, .ref x13, .int 0])), (x3, .inr (7, [.ref x22, .int 0, .ref x23, .ref x24, .ref x25, .ref x26, .int 0, .ref x27, .ref x28, .ref x29, .ref x30, .ref x31, .int 0, .ref x32, .ref x33, .ref x34])), (m0, .inr (12, [.ref m1, .ref m2, .ref m3, .int 0, .ref m4, .int 0, .int 0, .int 0, .int 0, .int 0, .int (-1), .int 0, .int 0, .int 0, .int 0, .ref m5, .ref m6, .ref m7, .ref m8, .ref m9, .ref m10, .ref m11, .ref m12, .int 0, .int 0, .int 0, .int 0, .int 0, .ref m13, .int 0, .ref m14, .ref m15, .int 0, .int 0, .ref m16, .int 0, .ref m17, .ref m18, .int 0, .int (-1), .ref m19, .ref m20, .ref m21, .int 0, .ref m22, .ref m23, .ref m24, .ref m25, .ref m26, .ref m27, .ref m28, .ref m29, .ref m30, .int 0, .int 0, .ref m31])), (m1, .inl (cI, 1560, .inl w0))] H) (hD : va_D A [(x0, .inr (11, [.ref x1, .int 0, .ref x2, .ref x3, .ref x4, .ref x5, .ref x6, .ref x7, .int 0, .ref x8, .ref x9, .ref x10, .int 0, .int (-1), .ref x11, .int 0, .ref x12, .ref x13, .int 0])), (x3, .inr (7, [.ref x22, .int 0, .ref x23, .ref x24, .ref x25, .ref x26, .int 0, .ref x27, .ref x28, .ref x29, .ref x30, .ref x31, .int 0, .ref x32, .ref x33, .ref x34])), (m0, .inr (12, [.ref m1, .ref m2, .ref m3, .int 0, .ref m4, .int 0, .int 0, .int 0, .int 0, .int 0, .int (-1), .int 0, .int 0, .int 0, .int 0, .ref m5, .ref m6, .ref m7, .ref m8, .ref m9, .ref m10, .ref m11, .ref m12, .int 0, .int 0, .int 0, .int 0, .int 0, .ref m13, .int 0, .ref m14, .ref m15, .int 0, .int 0, .ref m16, .int 0, .ref m17, .ref m18, .int 0, .int (-1), .ref m19, .ref m20, .ref m21, .int 0, .ref m22, .ref m23, .ref m24, .ref m25, .ref m26, .ref m27, .ref m28, .ref m29, .ref m30, .int 0, .int 0, .ref m31])), (m1, .inl (cI, 1560, .inl w0))]) (hS : va_S A s.heap H locs) {ls : Array Slot} (hl : lv_has ls 4 [(3, .int 0), (2, .ref m0), (1, .ref x0), (0, .ref b)]) : W p l e room_1 s m #[Value.ref b] below meth c H locs 559 115398 (lw_Z below #[Value.ref b] s) (F0 m 684 ls []) := by
  obtain ⟨hx, hb, hr, hml, hown0, hts, hX, hbl, hlocks, hgv⟩ := C0
  have hown : s.vm.findClass RL = some m.cls := hown0
  have hU : ∀ w ∈ wsU, w.before #[Value.ref b] s = true := fun w h => hts w (wsU_in w h)
  have hbA : ¬ A b := by rw [hAe]; exact Nat.not_le.mpr hbl
  obtain ⟨s0, es0⟩ : ∃ y : Int32, xs 0 = y := ⟨_, rfl⟩
  obtain ⟨s1, es1⟩ : ∃ y : Int32, xs 1 = y := ⟨_, rfl⟩
  obtain ⟨s2, es2⟩ : ∃ y : Int32, xs 2 = y := ⟨_, rfl⟩
  obtain ⟨s3, es3⟩ : ∃ y : Int32, xs 3 = y := ⟨_, rfl⟩
  obtain ⟨s4, es4⟩ : ∃ y : Int32, xs 4 = y := ⟨_, rfl⟩
  obtain ⟨s5, es5⟩ : ∃ y : Int32, xs 5 = y := ⟨_, rfl⟩
  refine lv_aload_n hx hb dL_law_684 rfl (lv_at hl 2 rfl) ?_
  refine lv_aload_n hx hb dL_law_685 rfl (lv_at hl 3 rfl) ?_
  refine lv_iload_n hx hb dL_law_686 rfl (lv_at hl 0 rfl) ?_
  refine lv_iconst (v := 1) hx hb dL_law_687 (by decide) ?_
  refine lv_iadd hx hb dL_law_688 ?_
  refine tk_topi (y := 1) (by decide) ?_
  refine va_sld hx hb hX hbl hbA hS (vp_in_nI (n := 1) (by decide) (by decide)) dL_law_689 ?_
  refine tk_topi (y := s1) es1 ?_
  refine lv_aload_n hx hb dL_law_690 rfl (lv_at hl 3 rfl) ?_
  refine lv_iload_n hx hb dL_law_691 rfl (lv_at hl 0 rfl) ?_
  refine lv_iconst (v := 2) hx hb dL_law_692 (by decide) ?_
  refine lv_iadd hx hb dL_law_693 ?_
  refine tk_topi (y := 2) (by decide) ?_
  refine va_sld hx hb hX hbl hbA hS (vp_in_nI (n := 2) (by decide) (by decide)) dL_law_694 ?_
  refine tk_topi (y := s2) es2 ?_
  refine tk_ri (wr := [(m0, .inr (12, [.ref m1, .ref m2, .ref m3, .int 0, .ref m4, .int 0, .int 0, .int 0, .int 0, .int 0, .int (-1), .int 0, .int 0, .int 0, .int 0, .ref m5, .ref m6, .ref m7, .ref m8, .ref m9, .ref m10, .ref m11, .ref m12, .int 0, .int 0, .int 0, .int 0, .int 0, .ref m13, .int 0, .ref m14, .ref m15, .int 0, .int 0, .ref m16, .int 0, .ref m17, .ref m18, .int 0, .int (-1), .ref m19, .ref m20, .ref m21, .int 0, .ref m22, .ref m23, .ref m24, .ref m25, .ref m26, .ref m27, .ref m28, .ref m29, .ref m30, .int 0, .int 0, .ref m31])), (m1, .inl (cI, 1560, .inl w0))]) (tk_V (As := [.int s1, .int s2]) (rest := []) (n := 2) hx hb hml hown hU hN (op_X11_idle l (dC, dI) cI cL cZ H.size x0 s1 s2 x1 x2 x3 x4 x5 x6 x7 x8 x9 x10 x11 x12 x13 x22 x23 x24 x25 x26 x27 x28 x29 x30 x31 x32 x33 x34) wd_1342 wd_1343 wd_1344 wd_2 wd_1345 (by decide +kernel) ⟨Nat.le_of_ble_eq_true rfl, Nat.le_of_ble_eq_true rfl⟩ hK hP hD [0, 1] (by decide) rfl 0 11 rfl rfl rfl rfl hl.1 rfl (Nat.le_of_ble_eq_true rfl) dL_law_695 ⟨Nat.le_of_ble_eq_true rfl, Nat.le_of_ble_eq_true rfl⟩) hP hD hS hA [0, 1] [2, 3] rfl rfl (by decide) (by decide) (fun r_1 w_2 H locs hw hP hD hS => ?_)
  obtain ⟨rfl, rfl⟩ := hw
  have hP : va_P (dC, dI) vwCl [(m0, .inr (12, [.ref m1, .ref m2, .ref m3, .int 0, .ref m4, .int 0, .int 0, .int 0, .int 0, .int 0, .int (-1), .int 0, .int 0, .int 0, .int 0, .ref m5, .ref m6, .ref m7, .ref m8, .ref m9, .ref m10, .ref m11, .ref m12, .int 0, .int 0, .int 0, .int 0, .int 0, .ref m13, .int 0, .ref m14, .ref m15, .int 0, .int 0, .ref m16, .int 0, .ref m17, .ref m18, .int 0, .int (-1), .ref m19, .ref m20, .ref m21, .int 0, .ref m22, .ref m23, .ref m24, .ref m25, .ref m26, .ref m27, .ref m28, .ref m29, .ref m30, .int 0, .int 0, .ref m31])), (m1, .inl (cI, 1560, .inl w0))] H := hP
  have hD : va_D A [(m0, .inr (12, [.ref m1, .ref m2, .ref m3, .int 0, .ref m4, .int 0, .int 0, .int 0, .int 0, .int 0, .int (-1), .int 0, .int 0, .int 0, .int 0, .ref m5, .ref m6, .ref m7, .ref m8, .ref m9, .ref m10, .ref m11, .ref m12, .int 0, .int 0, .int 0, .int 0, .int 0, .ref m13, .int 0, .ref m14, .ref m15, .int 0, .int 0, .ref m16, .int 0, .ref m17, .ref m18, .int 0, .int (-1), .ref m19, .ref m20, .ref m21, .int 0, .ref m22, .ref m23, .ref m24, .ref m25, .ref m26, .ref m27, .ref m28, .ref m29, .ref m30, .int 0, .int 0, .ref m31])), (m1, .inl (cI, 1560, .inl w0))] := hD
  refine lv_aload_n hx hb dL_law_698 rfl (lv_at hl 1 rfl) ?_
  refine lv_aload_n hx hb dL_law_699 rfl (lv_at hl 3 rfl) ?_
  refine lv_iload_n hx hb dL_law_700 rfl (lv_at hl 0 rfl) ?_
  refine lv_iconst (v := 1) hx hb dL_law_701 (by decide) ?_
  refine lv_iadd hx hb dL_law_702 ?_
  refine tk_topi (y := 1) (by decide) ?_
  refine va_sld hx hb hX hbl hbA hS (vp_in_nI (n := 1) (by decide) (by decide)) dL_law_703 ?_
  refine tk_topi (y := s1) es1 ?_
  refine lv_aload_n hx hb dL_law_704 rfl (lv_at hl 3 rfl) ?_
  refine lv_iload_n hx hb dL_law_705 rfl (lv_at hl 0 rfl) ?_
  refine lv_iconst (v := 2) hx hb dL_law_706 (by decide) ?_
  refine lv_iadd hx hb dL_law_707 ?_
  refine tk_topi (y := 2) (by decide) ?_
  refine va_sld hx hb hX hbl hbA hS (vp_in_nI (n := 2) (by decide) (by decide)) dL_law_708 ?_
  refine tk_topi (y := s2) es2 ?_
  refine tk_ri (wr := []) (tk_V (As := [.int s1, .int s2]) (rest := [.int (-1)]) (n := 2) hx hb hml hown hU hN (op_X12_idle l (dC, dI) cI cL cZ H.size m0 s1 s2 m1 m2 m3 m4 m5 m6 m7 m8 m9 m10 m11 m12 m13 m14 m15 m16 m17 m18 m19 m20 m21 m22 m23 m24 m25 m26 m27 m28 m29 m30 m31) wd_1346 wd_1347 wd_1348 wd_5 wd_1349 (by decide +kernel) ⟨Nat.le_of_ble_eq_true rfl, Nat.le_of_ble_eq_true rfl⟩ hK hP hD [0, 1] (by decide) rfl 0 12 rfl rfl rfl rfl hl.1 rfl (Nat.le_of_ble_eq_true rfl) dL_law_709 ⟨Nat.le_of_ble_eq_true rfl, Nat.le_of_ble_eq_true rfl⟩) hP hD hS hA [0, 1] [] rfl rfl (by decide) (by decide) (fun r_3 w_4 H locs hw hP hD hS => ?_)
  obtain ⟨rfl, rfl⟩ := hw
  have hP : va_P (dC, dI) vwCl [] H := hP
  have hD : va_D A [] := hD
  refine lv_icmp_eq (tgt := 933) hx hb dL_law_712 (by decide) (fun _ => ?_) (fun c9 => absurd (by decide) c9) 
  refine lv_iinc (v := 6) (lv' := [(3, .int 6), (2, .ref m0), (1, .ref x0), (0, .ref b)]) hx hb dL_law_933 hl (k := 0) rfl (by decide) (by decide) rfl (fun ls hl => ?_)
  refine lv_goto (tgt := 18) hx hb dL_law_936 (by decide) ?_
  refine lv_iload_n hx hb dL_law_18 rfl (lv_at hl 0 rfl) ?_
  refine lv_aload_n hx hb dL_law_19 rfl (lv_at hl 3 rfl) ?_
  refine va_slen hx hb hX hbl hbA hS dL_law_20 ?_
  refine tk_topi (y := 6) rfl ?_
  refine lv_bipush (v := 6) hx hb dL_law_21 (by decide) ?_
  refine lv_isub hx hb dL_law_23 ?_
  refine tk_topi (y := 0) (by decide) ?_
  refine lv_icmp_gt (tgt := 939) hx hb dL_law_24 (by decide) (fun _ => ?_) (fun c9 => absurd (by decide) c9) 
  refine lv_iconst (v := 1) hx hb dL_law_939 (by decide) ?_
  refine va_forget (fun q hq => by have h9 := hS.2.2 q hq; rw [hAe] at h9; exact h9) ?_
  refine W.widen (k := 600000) (n := 7302250) (Nat.le_of_ble_eq_true rfl) (Nat.le_of_ble_eq_true rfl) ?_
  exact lw_ret hx hb hr hlocks dL_law_940
set_option maxHeartbeats 8000000 in
set_option maxRecDepth 100000 in
theorem law_fewest {p : Program} {l : Launch} {e : Env} {s : State} {m : MethodId} {below : List Frame} {meth : Method} {c : Code} {dC : Nat → ClassId} {dI : Nat → Nat → Nat} {cI cL cZ : ClassId} {b : Nat} {xs : Nat → Int32} (C0 : lw_At p s m meth c b 6 xs) (hK : va_K (dC, dI) vwCl (TYS cI cL cZ) s) (hN : nsW s) {A : Nat → Prop} (hA : ∀ q, s.heap.size ≤ q → A q) (hAe : A = fun q : Nat => s.heap.size ≤ q) (x0 m0 x1 x2 x3 x4 x5 x6 x7 x8 x9 x10 x11 x12 x13 x14 x15 x16 x17 x18 x19 x20 x21 x22 x23 x24 x25 x26 x27 x28 x29 x30 x31 x32 x33 x34 x40 x41 x42 x43 x44 x45 m1 m2 m3 m4 m5 m6 m7 m8 m9 m10 m11 m12 m13 m14 m15 m16 m17 m18 m19 m20 m21 m22 m23 m24 m25 m26 m27 m28 m29 m30 m31 : Nat) {H : Heap} {locs : List Loc} (hP : va_P (dC, dI) vwCl [(x0, .inr (11, [.ref x1, .int 0, .ref x2, .ref x3, .ref x4, .ref x5, .ref x6, .ref x7, .int 0, .ref x8, .ref x9, .ref x10, .int 0, .int (-1), .ref x11, .int 0, .ref x12, .ref x13, .int 0])), (x2, .inr (3, [.ref x3, .ref x4, .ref x14, .ref x15, .ref x16, .int 0, .int 0, .int 0, .int 0, .int 0, .int 0, .int (-1), .ref x17, .ref x18, .ref x19, .int 0, .ref x20, .ref x21])), (x3, .inr (7, [.ref x22, .int 0, .ref x23, .ref x24, .ref x25, .ref x26, .int 0, .ref x27, .ref x28, .ref x29, .ref x30, .ref x31, .int 0, .ref x32, .ref x33, .ref x34])), (x21, .inl (cI, 256, .inl z0)), (x5, .inr (6, [.int 0, .int 1, .ref x40, .ref x41, .ref x42, .int 0, .ref x43, .ref x44, .ref x45])), (m0, .inr (12, [.ref m1, .ref m2, .ref m3, .int 0, .ref m4, .int 0, .int 0, .int 0, .int 0, .int 0, .int (-1), .int 0, .int 0, .int 0, .int 0, .ref m5, .ref m6, .ref m7, .ref m8, .ref m9, .ref m10, .ref m11, .ref m12, .int 0, .int 0, .int 0, .int 0, .int 0, .ref m13, .int 0, .ref m14, .ref m15, .int 0, .int 0, .ref m16, .int 0, .ref m17, .ref m18, .int 0, .int (-1), .ref m19, .ref m20, .ref m21, .int 0, .ref m22, .ref m23, .ref m24, .ref m25, .ref m26, .ref m27, .ref m28, .ref m29, .ref m30, .int 0, .int 0, .ref m31])), (m1, .inl (cI, 1560, .inl w0)), (m25, .inl (cZ, 256, .inl z0))] H) (hD : va_D A [(x0, .inr (11, [.ref x1, .int 0, .ref x2, .ref x3, .ref x4, .ref x5, .ref x6, .ref x7, .int 0, .ref x8, .ref x9, .ref x10, .int 0, .int (-1), .ref x11, .int 0, .ref x12, .ref x13, .int 0])), (x2, .inr (3, [.ref x3, .ref x4, .ref x14, .ref x15, .ref x16, .int 0, .int 0, .int 0, .int 0, .int 0, .int 0, .int (-1), .ref x17, .ref x18, .ref x19, .int 0, .ref x20, .ref x21])), (x3, .inr (7, [.ref x22, .int 0, .ref x23, .ref x24, .ref x25, .ref x26, .int 0, .ref x27, .ref x28, .ref x29, .ref x30, .ref x31, .int 0, .ref x32, .ref x33, .ref x34])), (x21, .inl (cI, 256, .inl z0)), (x5, .inr (6, [.int 0, .int 1, .ref x40, .ref x41, .ref x42, .int 0, .ref x43, .ref x44, .ref x45])), (m0, .inr (12, [.ref m1, .ref m2, .ref m3, .int 0, .ref m4, .int 0, .int 0, .int 0, .int 0, .int 0, .int (-1), .int 0, .int 0, .int 0, .int 0, .ref m5, .ref m6, .ref m7, .ref m8, .ref m9, .ref m10, .ref m11, .ref m12, .int 0, .int 0, .int 0, .int 0, .int 0, .ref m13, .int 0, .ref m14, .ref m15, .int 0, .int 0, .ref m16, .int 0, .ref m17, .ref m18, .int 0, .int (-1), .ref m19, .ref m20, .ref m21, .int 0, .ref m22, .ref m23, .ref m24, .ref m25, .ref m26, .ref m27, .ref m28, .ref m29, .ref m30, .int 0, .int 0, .ref m31])), (m1, .inl (cI, 1560, .inl w0)), (m25, .inl (cZ, 256, .inl z0))]) (hS : va_S A s.heap H locs) {ls : Array Slot} (hl : lv_has ls 4 [(3, .int 0), (2, .ref m0), (1, .ref x0), (0, .ref b)]) : W p l e room_1 s m #[Value.ref b] below meth c H locs 559 115398 (lw_Z below #[Value.ref b] s) (F0 m 717 ls []) := by
  obtain ⟨hx, hb, hr, hml, hown0, hts, hX, hbl, hlocks, hgv⟩ := C0
  have hown : s.vm.findClass RL = some m.cls := hown0
  have hU : ∀ w ∈ wsU, w.before #[Value.ref b] s = true := fun w h => hts w (wsU_in w h)
  have hbA : ¬ A b := by rw [hAe]; exact Nat.not_le.mpr hbl
  obtain ⟨s0, es0⟩ : ∃ y : Int32, xs 0 = y := ⟨_, rfl⟩
  obtain ⟨s1, es1⟩ : ∃ y : Int32, xs 1 = y := ⟨_, rfl⟩
  obtain ⟨s2, es2⟩ : ∃ y : Int32, xs 2 = y := ⟨_, rfl⟩
  obtain ⟨s3, es3⟩ : ∃ y : Int32, xs 3 = y := ⟨_, rfl⟩
  obtain ⟨s4, es4⟩ : ∃ y : Int32, xs 4 = y := ⟨_, rfl⟩
  obtain ⟨s5, es5⟩ : ∃ y : Int32, xs 5 = y := ⟨_, rfl⟩
  refine lv_aload_n hx hb dL_law_717 rfl (lv_at hl 2 rfl) ?_
  refine lv_aload_n hx hb dL_law_718 rfl (lv_at hl 3 rfl) ?_
  refine lv_iload_n hx hb dL_law_719 rfl (lv_at hl 0 rfl) ?_
  refine lv_iconst (v := 1) hx hb dL_law_720 (by decide) ?_
  refine lv_iadd hx hb dL_law_721 ?_
  refine tk_topi (y := 1) (by decide) ?_
  refine va_sld hx hb hX hbl hbA hS (vp_in_nI (n := 1) (by decide) (by decide)) dL_law_722 ?_
  refine tk_topi (y := s1) es1 ?_
  refine tk_ri (wr := [(m0, .inr (12, [.ref m1, .ref m2, .ref m3, .int 0, .ref m4, .int 0, .int 0, .int 0, .int 0, .int 0, .int (-1), .int 0, .int 0, .int 0, .int 0, .ref m5, .ref m6, .ref m7, .ref m8, .ref m9, .ref m10, .ref m11, .ref m12, .int 0, .int 0, .int 0, .int 0, .int 0, .ref m13, .int 0, .ref m14, .ref m15, .int 0, .int 0, .ref m16, .int 0, .ref m17, .ref m18, .int 0, .int (-1), .ref m19, .ref m20, .ref m21, .int 0, .ref m22, .ref m23, .ref m24, .ref m25, .ref m26, .ref m27, .ref m28, .ref m29, .ref m30, .int 0, .int 0, .ref m31])), (m1, .inl (cI, 1560, .inl w0)), (m25, .inl (cZ, 256, .inl z0))]) (tk_V (As := [.int s1]) (rest := []) (n := 1) hx hb hml hown hU hN (op_X11_fewest l (dC, dI) cI cL cZ H.size x0 s1 x1 x2 x3 x4 x5 x6 x7 x8 x9 x10 x11 x12 x13 x14 x15 x16 x17 x18 x19 x20 x21 x22 x23 x24 x25 x26 x27 x28 x29 x30 x31 x32 x33 x34 x40 x41 x42 x43 x44 x45) wd_1354 wd_1355 wd_1356 wd_2 wd_1357 (by decide +kernel) ⟨Nat.le_of_ble_eq_true rfl, Nat.le_of_ble_eq_true rfl⟩ hK hP hD [0, 1, 2, 3, 4] (by decide) rfl 0 11 rfl rfl rfl rfl hl.1 rfl (Nat.le_of_ble_eq_true rfl) dL_law_723 ⟨Nat.le_of_ble_eq_true rfl, Nat.le_of_ble_eq_true rfl⟩) hP hD hS hA [0, 1, 2, 3, 4] [5, 6, 7] rfl rfl (by decide) (by decide) (fun r_1 w_2 H locs hw hP hD hS => ?_)
  obtain ⟨rfl, rfl⟩ := hw
  have hP : va_P (dC, dI) vwCl [(m0, .inr (12, [.ref m1, .ref m2, .ref m3, .int 0, .ref m4, .int 0, .int 0, .int 0, .int 0, .int 0, .int (-1), .int 0, .int 0, .int 0, .int 0, .ref m5, .ref m6, .ref m7, .ref m8, .ref m9, .ref m10, .ref m11, .ref m12, .int 0, .int 0, .int 0, .int 0, .int 0, .ref m13, .int 0, .ref m14, .ref m15, .int 0, .int 0, .ref m16, .int 0, .ref m17, .ref m18, .int 0, .int (-1), .ref m19, .ref m20, .ref m21, .int 0, .ref m22, .ref m23, .ref m24, .ref m25, .ref m26, .ref m27, .ref m28, .ref m29, .ref m30, .int 0, .int 0, .ref m31])), (m1, .inl (cI, 1560, .inl w0)), (m25, .inl (cZ, 256, .inl z0))] H := hP
  have hD : va_D A [(m0, .inr (12, [.ref m1, .ref m2, .ref m3, .int 0, .ref m4, .int 0, .int 0, .int 0, .int 0, .int 0, .int (-1), .int 0, .int 0, .int 0, .int 0, .ref m5, .ref m6, .ref m7, .ref m8, .ref m9, .ref m10, .ref m11, .ref m12, .int 0, .int 0, .int 0, .int 0, .int 0, .ref m13, .int 0, .ref m14, .ref m15, .int 0, .int 0, .ref m16, .int 0, .ref m17, .ref m18, .int 0, .int (-1), .ref m19, .ref m20, .ref m21, .int 0, .ref m22, .ref m23, .ref m24, .ref m25, .ref m26, .ref m27, .ref m28, .ref m29, .ref m30, .int 0, .int 0, .ref m31])), (m1, .inl (cI, 1560, .inl w0)), (m25, .inl (cZ, 256, .inl z0))] := hD
  refine lv_aload_n hx hb dL_law_726 rfl (lv_at hl 1 rfl) ?_
  refine lv_aload_n hx hb dL_law_727 rfl (lv_at hl 3 rfl) ?_
  refine lv_iload_n hx hb dL_law_728 rfl (lv_at hl 0 rfl) ?_
  refine lv_iconst (v := 1) hx hb dL_law_729 (by decide) ?_
  refine lv_iadd hx hb dL_law_730 ?_
  refine tk_topi (y := 1) (by decide) ?_
  refine va_sld hx hb hX hbl hbA hS (vp_in_nI (n := 1) (by decide) (by decide)) dL_law_731 ?_
  refine tk_topi (y := s1) es1 ?_
  refine tk_ri (wr := []) (tk_V (As := [.int s1]) (rest := [.int (an_fewest s1)]) (n := 1) hx hb hml hown hU hN (op_X12_fewest l (dC, dI) cI cL cZ H.size m0 s1 m1 m2 m3 m4 m5 m6 m7 m8 m9 m10 m11 m12 m13 m14 m15 m16 m17 m18 m19 m20 m21 m22 m23 m24 m25 m26 m27 m28 m29 m30 m31) wd_1376 wd_1377 wd_1378 wd_5 wd_1379 (by decide +kernel) ⟨Nat.le_of_ble_eq_true rfl, Nat.le_of_ble_eq_true rfl⟩ hK hP hD [0, 1, 2] (by decide) rfl 0 12 rfl rfl rfl rfl hl.1 rfl (Nat.le_of_ble_eq_true rfl) dL_law_732 ⟨Nat.le_of_ble_eq_true rfl, Nat.le_of_ble_eq_true rfl⟩) hP hD hS hA [0, 1, 2] [] rfl rfl (by decide) (by decide) (fun r_3 w_4 H locs hw hP hD hS => ?_)
  obtain ⟨rfl, rfl⟩ := hw
  have hP : va_P (dC, dI) vwCl [] H := hP
  have hD : va_D A [] := hD
  refine lv_icmp_eq (tgt := 933) hx hb dL_law_735 (by decide) (fun _ => ?_) (fun c9 => absurd rfl c9)
  refine lv_iinc (v := 6) (lv' := [(3, .int 6), (2, .ref m0), (1, .ref x0), (0, .ref b)]) hx hb dL_law_933 hl (k := 0) rfl (by decide) (by decide) rfl (fun ls hl => ?_)
  refine lv_goto (tgt := 18) hx hb dL_law_936 (by decide) ?_
  refine lv_iload_n hx hb dL_law_18 rfl (lv_at hl 0 rfl) ?_
  refine lv_aload_n hx hb dL_law_19 rfl (lv_at hl 3 rfl) ?_
  refine va_slen hx hb hX hbl hbA hS dL_law_20 ?_
  refine tk_topi (y := 6) rfl ?_
  refine lv_bipush (v := 6) hx hb dL_law_21 (by decide) ?_
  refine lv_isub hx hb dL_law_23 ?_
  refine tk_topi (y := 0) (by decide) ?_
  refine lv_icmp_gt (tgt := 939) hx hb dL_law_24 (by decide) (fun _ => ?_) (fun c9 => absurd (by decide) c9) 
  refine lv_iconst (v := 1) hx hb dL_law_939 (by decide) ?_
  refine va_forget (fun q hq => by have h9 := hS.2.2 q hq; rw [hAe] at h9; exact h9) ?_
  refine W.widen (k := 600000) (n := 7302250) (Nat.le_of_ble_eq_true rfl) (Nat.le_of_ble_eq_true rfl) ?_
  exact lw_ret hx hb hr hlocks dL_law_940
set_option maxHeartbeats 8000000 in
set_option maxRecDepth 100000 in
theorem law_example {p : Program} {l : Launch} {e : Env} {s : State} {m : MethodId} {below : List Frame} {meth : Method} {c : Code} {dC : Nat → ClassId} {dI : Nat → Nat → Nat} {cI cL cZ : ClassId} {b : Nat} {xs : Nat → Int32} (C0 : lw_At p s m meth c b 6 xs) (hK : va_K (dC, dI) vwCl (TYS cI cL cZ) s) (hN : nsW s) {A : Nat → Prop} (hA : ∀ q, s.heap.size ≤ q → A q) (hAe : A = fun q : Nat => s.heap.size ≤ q) (x0 m0 x1 x2 x3 x4 x5 x6 x7 x8 x9 x10 x11 x12 x13 x40 x41 x42 x43 x44 x45 x46 x47 m1 m2 m3 m4 m5 m6 m7 m8 m9 m10 m11 m12 m13 m14 m15 m16 m17 m18 m19 m20 m21 m22 m23 m24 m25 m26 m27 m28 m29 m30 m31 : Nat) {H : Heap} {locs : List Loc} (hP : va_P (dC, dI) vwCl [(x0, .inr (11, [.ref x1, .int 0, .ref x2, .ref x3, .ref x4, .ref x5, .ref x6, .ref x7, .int 0, .ref x8, .ref x9, .ref x10, .int 0, .int (-1), .ref x11, .int 0, .ref x12, .ref x13, .int 0])), (x5, .inr (6, [.int 0, .int 1, .ref x40, .ref x41, .ref x42, .int 0, .ref x43, .ref x44, .ref x45])), (x41, .inr (9, [.ref x46, .ref x47, .int 0])), (m0, .inr (12, [.ref m1, .ref m2, .ref m3, .int 0, .ref m4, .int 0, .int 0, .int 0, .int 0, .int 0, .int (-1), .int 0, .int 0, .int 0, .int 0, .ref m5, .ref m6, .ref m7, .ref m8, .ref m9, .ref m10, .ref m11, .ref m12, .int 0, .int 0, .int 0, .int 0, .int 0, .ref m13, .int 0, .ref m14, .ref m15, .int 0, .int 0, .ref m16, .int 0, .ref m17, .ref m18, .int 0, .int (-1), .ref m19, .ref m20, .ref m21, .int 0, .ref m22, .ref m23, .ref m24, .ref m25, .ref m26, .ref m27, .ref m28, .ref m29, .ref m30, .int 0, .int 0, .ref m31])), (m1, .inl (cI, 1560, .inl w0))] H) (hD : va_D A [(x0, .inr (11, [.ref x1, .int 0, .ref x2, .ref x3, .ref x4, .ref x5, .ref x6, .ref x7, .int 0, .ref x8, .ref x9, .ref x10, .int 0, .int (-1), .ref x11, .int 0, .ref x12, .ref x13, .int 0])), (x5, .inr (6, [.int 0, .int 1, .ref x40, .ref x41, .ref x42, .int 0, .ref x43, .ref x44, .ref x45])), (x41, .inr (9, [.ref x46, .ref x47, .int 0])), (m0, .inr (12, [.ref m1, .ref m2, .ref m3, .int 0, .ref m4, .int 0, .int 0, .int 0, .int 0, .int 0, .int (-1), .int 0, .int 0, .int 0, .int 0, .ref m5, .ref m6, .ref m7, .ref m8, .ref m9, .ref m10, .ref m11, .ref m12, .int 0, .int 0, .int 0, .int 0, .int 0, .ref m13, .int 0, .ref m14, .ref m15, .int 0, .int 0, .ref m16, .int 0, .ref m17, .ref m18, .int 0, .int (-1), .ref m19, .ref m20, .ref m21, .int 0, .ref m22, .ref m23, .ref m24, .ref m25, .ref m26, .ref m27, .ref m28, .ref m29, .ref m30, .int 0, .int 0, .ref m31])), (m1, .inl (cI, 1560, .inl w0))]) (hS : va_S A s.heap H locs) {ls : Array Slot} (hl : lv_has ls 4 [(3, .int 0), (2, .ref m0), (1, .ref x0), (0, .ref b)]) : W p l e room_1 s m #[Value.ref b] below meth c H locs 559 115398 (lw_Z below #[Value.ref b] s) (F0 m 740 ls []) := by
  obtain ⟨hx, hb, hr, hml, hown0, hts, hX, hbl, hlocks, hgv⟩ := C0
  have hown : s.vm.findClass RL = some m.cls := hown0
  have hU : ∀ w ∈ wsU, w.before #[Value.ref b] s = true := fun w h => hts w (wsU_in w h)
  have hbA : ¬ A b := by rw [hAe]; exact Nat.not_le.mpr hbl
  obtain ⟨s0, es0⟩ : ∃ y : Int32, xs 0 = y := ⟨_, rfl⟩
  obtain ⟨s1, es1⟩ : ∃ y : Int32, xs 1 = y := ⟨_, rfl⟩
  obtain ⟨s2, es2⟩ : ∃ y : Int32, xs 2 = y := ⟨_, rfl⟩
  obtain ⟨s3, es3⟩ : ∃ y : Int32, xs 3 = y := ⟨_, rfl⟩
  obtain ⟨s4, es4⟩ : ∃ y : Int32, xs 4 = y := ⟨_, rfl⟩
  obtain ⟨s5, es5⟩ : ∃ y : Int32, xs 5 = y := ⟨_, rfl⟩
  refine lv_aload_n hx hb dL_law_740 rfl (lv_at hl 2 rfl) ?_
  refine lv_aload_n hx hb dL_law_741 rfl (lv_at hl 3 rfl) ?_
  refine lv_iload_n hx hb dL_law_742 rfl (lv_at hl 0 rfl) ?_
  refine lv_iconst (v := 1) hx hb dL_law_743 (by decide) ?_
  refine lv_iadd hx hb dL_law_744 ?_
  refine tk_topi (y := 1) (by decide) ?_
  refine va_sld hx hb hX hbl hbA hS (vp_in_nI (n := 1) (by decide) (by decide)) dL_law_745 ?_
  refine tk_topi (y := s1) es1 ?_
  refine lv_if_eq (tgt := 753) hx hb dL_law_746 (by decide) (fun c_1 => ?_) (fun c_1 => ?_)
  · skip
    subst c_1
    refine lv_iconst (v := 0) hx hb dL_law_753 (by decide) ?_
    refine tk_ri (wr := [(m0, .inr (12, [.ref m1, .ref m2, .ref m3, .int 0, .ref m4, .int 0, .int 0, .int 0, .int 0, .int 0, .int (-1), .int 0, .int 0, .int 0, .int 0, .ref m5, .ref m6, .ref m7, .ref m8, .ref m9, .ref m10, .ref m11, .ref m12, .int 0, .int 0, .int 0, .int 0, .int 0, .ref m13, .int 0, .ref m14, .ref m15, .int 0, .int 0, .ref m16, .int 0, .ref m17, .ref m18, .int 0, .int (-1), .ref m19, .ref m20, .ref m21, .int 0, .ref m22, .ref m23, .ref m24, .ref m25, .ref m26, .ref m27, .ref m28, .ref m29, .ref m30, .int 0, .int 0, .ref m31])), (m1, .inl (cI, 1560, .inl w0))]) (tk_V (As := [.int 0]) (rest := []) (n := 1) hx hb hml hown hU hN (op_X11_example l (dC, dI) cI cL cZ H.size x0 0 x1 x2 x3 x4 x5 x6 x7 x8 x9 x10 x11 x12 x13 x40 x41 x42 x43 x44 x45 x46 x47) wd_1383 wd_1384 wd_1385 wd_2 wd_1386 (by decide +kernel) ⟨Nat.le_of_ble_eq_true rfl, Nat.le_of_ble_eq_true rfl⟩ hK hP hD [0, 1, 2] (by decide) rfl 0 11 rfl rfl rfl rfl hl.1 rfl (Nat.le_of_ble_eq_true rfl) dL_law_754 ⟨Nat.le_of_ble_eq_true rfl, Nat.le_of_ble_eq_true rfl⟩) hP hD hS hA [0, 1, 2] [3, 4] rfl rfl (by decide) (by decide) (fun r_2 w_3 H locs hw hP hD hS => ?_)
    obtain ⟨rfl, rfl⟩ := hw
    have hP : va_P (dC, dI) vwCl [(m0, .inr (12, [.ref m1, .ref m2, .ref m3, .int 0, .ref m4, .int 0, .int 0, .int 0, .int 0, .int 0, .int (-1), .int 0, .int 0, .int 0, .int 0, .ref m5, .ref m6, .ref m7, .ref m8, .ref m9, .ref m10, .ref m11, .ref m12, .int 0, .int 0, .int 0, .int 0, .int 0, .ref m13, .int 0, .ref m14, .ref m15, .int 0, .int 0, .ref m16, .int 0, .ref m17, .ref m18, .int 0, .int (-1), .ref m19, .ref m20, .ref m21, .int 0, .ref m22, .ref m23, .ref m24, .ref m25, .ref m26, .ref m27, .ref m28, .ref m29, .ref m30, .int 0, .int 0, .ref m31])), (m1, .inl (cI, 1560, .inl w0))] H := hP
    have hD : va_D A [(m0, .inr (12, [.ref m1, .ref m2, .ref m3, .int 0, .ref m4, .int 0, .int 0, .int 0, .int 0, .int 0, .int (-1), .int 0, .int 0, .int 0, .int 0, .ref m5, .ref m6, .ref m7, .ref m8, .ref m9, .ref m10, .ref m11, .ref m12, .int 0, .int 0, .int 0, .int 0, .int 0, .ref m13, .int 0, .ref m14, .ref m15, .int 0, .int 0, .ref m16, .int 0, .ref m17, .ref m18, .int 0, .int (-1), .ref m19, .ref m20, .ref m21, .int 0, .ref m22, .ref m23, .ref m24, .ref m25, .ref m26, .ref m27, .ref m28, .ref m29, .ref m30, .int 0, .int 0, .ref m31])), (m1, .inl (cI, 1560, .inl w0))] := hD
    refine lv_aload_n hx hb dL_law_757 rfl (lv_at hl 1 rfl) ?_
    refine lv_aload_n hx hb dL_law_758 rfl (lv_at hl 3 rfl) ?_
    refine lv_iload_n hx hb dL_law_759 rfl (lv_at hl 0 rfl) ?_
    refine lv_iconst (v := 1) hx hb dL_law_760 (by decide) ?_
    refine lv_iadd hx hb dL_law_761 ?_
    refine tk_topi (y := 1) (by decide) ?_
    refine va_sld hx hb hX hbl hbA hS (vp_in_nI (n := 1) (by decide) (by decide)) dL_law_762 ?_
    refine tk_topi (y := 0) es1 ?_
    refine lv_if_eq (tgt := 770) hx hb dL_law_763 (by decide) (fun _ => ?_) (fun c9 => absurd (by decide) c9) 
    refine lv_iconst (v := 0) hx hb dL_law_770 (by decide) ?_
    refine tk_ri (wr := []) (tk_V (As := [.int 0]) (rest := [.int (-1)]) (n := 1) hx hb hml hown hU hN (op_X12_example l (dC, dI) cI cL cZ H.size m0 0 m1 m2 m3 m4 m5 m6 m7 m8 m9 m10 m11 m12 m13 m14 m15 m16 m17 m18 m19 m20 m21 m22 m23 m24 m25 m26 m27 m28 m29 m30 m31) wd_1400 wd_1401 wd_1402 wd_5 wd_1403 (by decide +kernel) ⟨Nat.le_of_ble_eq_true rfl, Nat.le_of_ble_eq_true rfl⟩ hK hP hD [0, 1] (by decide) rfl 0 12 rfl rfl rfl rfl hl.1 rfl (Nat.le_of_ble_eq_true rfl) dL_law_771 ⟨Nat.le_of_ble_eq_true rfl, Nat.le_of_ble_eq_true rfl⟩) hP hD hS hA [0, 1] [] rfl rfl (by decide) (by decide) (fun r_4 w_5 H locs hw hP hD hS => ?_)
    obtain ⟨rfl, rfl⟩ := hw
    have hP : va_P (dC, dI) vwCl [] H := hP
    have hD : va_D A [] := hD
    refine lv_icmp_eq (tgt := 933) hx hb dL_law_774 (by decide) (fun _ => ?_) (fun c9 => absurd (by decide) c9) 
    refine lv_iinc (v := 6) (lv' := [(3, .int 6), (2, .ref m0), (1, .ref x0), (0, .ref b)]) hx hb dL_law_933 hl (k := 0) rfl (by decide) (by decide) rfl (fun ls hl => ?_)
    refine lv_goto (tgt := 18) hx hb dL_law_936 (by decide) ?_
    refine lv_iload_n hx hb dL_law_18 rfl (lv_at hl 0 rfl) ?_
    refine lv_aload_n hx hb dL_law_19 rfl (lv_at hl 3 rfl) ?_
    refine va_slen hx hb hX hbl hbA hS dL_law_20 ?_
    refine tk_topi (y := 6) rfl ?_
    refine lv_bipush (v := 6) hx hb dL_law_21 (by decide) ?_
    refine lv_isub hx hb dL_law_23 ?_
    refine tk_topi (y := 0) (by decide) ?_
    refine lv_icmp_gt (tgt := 939) hx hb dL_law_24 (by decide) (fun _ => ?_) (fun c9 => absurd (by decide) c9) 
    refine lv_iconst (v := 1) hx hb dL_law_939 (by decide) ?_
    refine va_forget (fun q hq => by have h9 := hS.2.2 q hq; rw [hAe] at h9; exact h9) ?_
    refine W.widen (k := 600000) (n := 7302250) (Nat.le_of_ble_eq_true rfl) (Nat.le_of_ble_eq_true rfl) ?_
    exact lw_ret hx hb hr hlocks dL_law_940
  · skip
    refine lv_iconst (v := 1) hx hb dL_law_749 (by decide) ?_
    refine lv_goto (tgt := 754) hx hb dL_law_750 (by decide) ?_
    refine tk_ri (wr := [(m0, .inr (12, [.ref m1, .ref m2, .ref m3, .int 0, .ref m4, .int 0, .int 0, .int 0, .int 0, .int 0, .int (-1), .int 0, .int 0, .int 0, .int 0, .ref m5, .ref m6, .ref m7, .ref m8, .ref m9, .ref m10, .ref m11, .ref m12, .int 0, .int 0, .int 0, .int 0, .int 0, .ref m13, .int 0, .ref m14, .ref m15, .int 0, .int 0, .ref m16, .int 0, .ref m17, .ref m18, .int 0, .int (-1), .ref m19, .ref m20, .ref m21, .int 0, .ref m22, .ref m23, .ref m24, .ref m25, .ref m26, .ref m27, .ref m28, .ref m29, .ref m30, .int 0, .int 0, .ref m31])), (m1, .inl (cI, 1560, .inl w0))]) (tk_V (As := [.int 1]) (rest := []) (n := 1) hx hb hml hown hU hN (op_X11_example l (dC, dI) cI cL cZ H.size x0 1 x1 x2 x3 x4 x5 x6 x7 x8 x9 x10 x11 x12 x13 x40 x41 x42 x43 x44 x45 x46 x47) wd_1383 wd_1384 wd_1385 wd_2 wd_1386 (by decide +kernel) ⟨Nat.le_of_ble_eq_true rfl, Nat.le_of_ble_eq_true rfl⟩ hK hP hD [0, 1, 2] (by decide) rfl 0 11 rfl rfl rfl rfl hl.1 rfl (Nat.le_of_ble_eq_true rfl) dL_law_754 ⟨Nat.le_of_ble_eq_true rfl, Nat.le_of_ble_eq_true rfl⟩) hP hD hS hA [0, 1, 2] [3, 4] rfl rfl (by decide) (by decide) (fun r_6 w_7 H locs hw hP hD hS => ?_)
    obtain ⟨rfl, rfl⟩ := hw
    have hP : va_P (dC, dI) vwCl [(m0, .inr (12, [.ref m1, .ref m2, .ref m3, .int 0, .ref m4, .int 0, .int 0, .int 0, .int 0, .int 0, .int (-1), .int 0, .int 0, .int 0, .int 0, .ref m5, .ref m6, .ref m7, .ref m8, .ref m9, .ref m10, .ref m11, .ref m12, .int 0, .int 0, .int 0, .int 0, .int 0, .ref m13, .int 0, .ref m14, .ref m15, .int 0, .int 0, .ref m16, .int 0, .ref m17, .ref m18, .int 0, .int (-1), .ref m19, .ref m20, .ref m21, .int 0, .ref m22, .ref m23, .ref m24, .ref m25, .ref m26, .ref m27, .ref m28, .ref m29, .ref m30, .int 0, .int 0, .ref m31])), (m1, .inl (cI, 1560, .inl w0))] H := hP
    have hD : va_D A [(m0, .inr (12, [.ref m1, .ref m2, .ref m3, .int 0, .ref m4, .int 0, .int 0, .int 0, .int 0, .int 0, .int (-1), .int 0, .int 0, .int 0, .int 0, .ref m5, .ref m6, .ref m7, .ref m8, .ref m9, .ref m10, .ref m11, .ref m12, .int 0, .int 0, .int 0, .int 0, .int 0, .ref m13, .int 0, .ref m14, .ref m15, .int 0, .int 0, .ref m16, .int 0, .ref m17, .ref m18, .int 0, .int (-1), .ref m19, .ref m20, .ref m21, .int 0, .ref m22, .ref m23, .ref m24, .ref m25, .ref m26, .ref m27, .ref m28, .ref m29, .ref m30, .int 0, .int 0, .ref m31])), (m1, .inl (cI, 1560, .inl w0))] := hD
    refine lv_aload_n hx hb dL_law_757 rfl (lv_at hl 1 rfl) ?_
    refine lv_aload_n hx hb dL_law_758 rfl (lv_at hl 3 rfl) ?_
    refine lv_iload_n hx hb dL_law_759 rfl (lv_at hl 0 rfl) ?_
    refine lv_iconst (v := 1) hx hb dL_law_760 (by decide) ?_
    refine lv_iadd hx hb dL_law_761 ?_
    refine tk_topi (y := 1) (by decide) ?_
    refine va_sld hx hb hX hbl hbA hS (vp_in_nI (n := 1) (by decide) (by decide)) dL_law_762 ?_
    refine tk_topi (y := s1) es1 ?_
    refine lv_if_eq (tgt := 770) hx hb dL_law_763 (by decide) (fun c_8 => ?_) (fun c_8 => ?_)
    · skip
      exfalso
      simp only [Int32.lt_iff_toInt_lt, Int32.le_iff_toInt_le, ← Int32.toInt_inj, ti_0] at c_1 c_8
      omega
    · skip
      refine lv_iconst (v := 1) hx hb dL_law_766 (by decide) ?_
      refine lv_goto (tgt := 771) hx hb dL_law_767 (by decide) ?_
      refine tk_ri (wr := []) (tk_V (As := [.int 1]) (rest := [.int (-1)]) (n := 1) hx hb hml hown hU hN (op_X12_example l (dC, dI) cI cL cZ H.size m0 1 m1 m2 m3 m4 m5 m6 m7 m8 m9 m10 m11 m12 m13 m14 m15 m16 m17 m18 m19 m20 m21 m22 m23 m24 m25 m26 m27 m28 m29 m30 m31) wd_1400 wd_1401 wd_1402 wd_5 wd_1403 (by decide +kernel) ⟨Nat.le_of_ble_eq_true rfl, Nat.le_of_ble_eq_true rfl⟩ hK hP hD [0, 1] (by decide) rfl 0 12 rfl rfl rfl rfl hl.1 rfl (Nat.le_of_ble_eq_true rfl) dL_law_771 ⟨Nat.le_of_ble_eq_true rfl, Nat.le_of_ble_eq_true rfl⟩) hP hD hS hA [0, 1] [] rfl rfl (by decide) (by decide) (fun r_9 w_10 H locs hw hP hD hS => ?_)
      obtain ⟨rfl, rfl⟩ := hw
      have hP : va_P (dC, dI) vwCl [] H := hP
      have hD : va_D A [] := hD
      refine lv_icmp_eq (tgt := 933) hx hb dL_law_774 (by decide) (fun _ => ?_) (fun c9 => absurd (by decide) c9) 
      refine lv_iinc (v := 6) (lv' := [(3, .int 6), (2, .ref m0), (1, .ref x0), (0, .ref b)]) hx hb dL_law_933 hl (k := 0) rfl (by decide) (by decide) rfl (fun ls hl => ?_)
      refine lv_goto (tgt := 18) hx hb dL_law_936 (by decide) ?_
      refine lv_iload_n hx hb dL_law_18 rfl (lv_at hl 0 rfl) ?_
      refine lv_aload_n hx hb dL_law_19 rfl (lv_at hl 3 rfl) ?_
      refine va_slen hx hb hX hbl hbA hS dL_law_20 ?_
      refine tk_topi (y := 6) rfl ?_
      refine lv_bipush (v := 6) hx hb dL_law_21 (by decide) ?_
      refine lv_isub hx hb dL_law_23 ?_
      refine tk_topi (y := 0) (by decide) ?_
      refine lv_icmp_gt (tgt := 939) hx hb dL_law_24 (by decide) (fun _ => ?_) (fun c9 => absurd (by decide) c9) 
      refine lv_iconst (v := 1) hx hb dL_law_939 (by decide) ?_
      refine va_forget (fun q hq => by have h9 := hS.2.2 q hq; rw [hAe] at h9; exact h9) ?_
      refine W.widen (k := 600000) (n := 7302250) (Nat.le_of_ble_eq_true rfl) (Nat.le_of_ble_eq_true rfl) ?_
      exact lw_ret hx hb hr hlocks dL_law_940
