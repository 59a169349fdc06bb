set_option maxHeartbeats 8000000 in
set_option maxRecDepth 100000 in
theorem law_feed {p : Program} {l : Launch} {e : Env} {s : State} {m : MethodId} {below : List Frame} {meth : Method} {c : Code} {dC : Nat → ClassId} {dI : Nat → Nat → Nat} {cI cL cZ : ClassId} {b : Nat} {xs : Nat → Int32} (C0 : lw_At p s m meth c b 6 xs) (hK : va_K (dC, dI) vwCl (TYS cI cL cZ) s) (hN : nsW s) {A : Nat → Prop} (hA : ∀ q, s.heap.size ≤ q → A q) (hAe : A = fun q : Nat => s.heap.size ≤ q) (x0 m0 x1 x2 x3 x4 x5 x6 x7 x8 x9 x10 x11 x12 x13 m1 m2 m3 m4 m5 m6 m7 m8 m9 m10 m11 m12 m13 m14 m15 m16 m17 m18 m19 m20 m21 m22 m23 m24 m25 m26 m27 m28 m29 m30 m31 : Nat) {H : Heap} {locs : List Loc} (hP : va_P (dC, dI) vwCl [(x0, .inr (11, [.ref x1, .int 0, .ref x2, .ref x3, .ref x4, .ref x5, .ref x6, .ref x7, .int 0, .ref x8, .ref x9, .ref x10, .int 0, .int (-1), .ref x11, .int 0, .ref x12, .ref x13, .int 0])), (x1, .inl (cI, 600, .inl z0)), (m0, .inr (12, [.ref m1, .ref m2, .ref m3, .int 0, .ref m4, .int 0, .int 0, .int 0, .int 0, .int 0, .int (-1), .int 0, .int 0, .int 0, .int 0, .ref m5, .ref m6, .ref m7, .ref m8, .ref m9, .ref m10, .ref m11, .ref m12, .int 0, .int 0, .int 0, .int 0, .int 0, .ref m13, .int 0, .ref m14, .ref m15, .int 0, .int 0, .ref m16, .int 0, .ref m17, .ref m18, .int 0, .int (-1), .ref m19, .ref m20, .ref m21, .int 0, .ref m22, .ref m23, .ref m24, .ref m25, .ref m26, .ref m27, .ref m28, .ref m29, .ref m30, .int 0, .int 0, .ref m31])), (m4, .inl (cI, 600, .inl z0))] H) (hD : va_D A [(x0, .inr (11, [.ref x1, .int 0, .ref x2, .ref x3, .ref x4, .ref x5, .ref x6, .ref x7, .int 0, .ref x8, .ref x9, .ref x10, .int 0, .int (-1), .ref x11, .int 0, .ref x12, .ref x13, .int 0])), (x1, .inl (cI, 600, .inl z0)), (m0, .inr (12, [.ref m1, .ref m2, .ref m3, .int 0, .ref m4, .int 0, .int 0, .int 0, .int 0, .int 0, .int (-1), .int 0, .int 0, .int 0, .int 0, .ref m5, .ref m6, .ref m7, .ref m8, .ref m9, .ref m10, .ref m11, .ref m12, .int 0, .int 0, .int 0, .int 0, .int 0, .ref m13, .int 0, .ref m14, .ref m15, .int 0, .int 0, .ref m16, .int 0, .ref m17, .ref m18, .int 0, .int (-1), .ref m19, .ref m20, .ref m21, .int 0, .ref m22, .ref m23, .ref m24, .ref m25, .ref m26, .ref m27, .ref m28, .ref m29, .ref m30, .int 0, .int 0, .ref m31])), (m4, .inl (cI, 600, .inl z0))]) (hS : va_S A s.heap H locs) {ls : Array Slot} (hl : lv_has ls 4 [(3, .int 0), (2, .ref m0), (1, .ref x0), (0, .ref b)]) : W p l e room_1 s m #[Value.ref b] below meth c H locs 559 115398 (lw_Z below #[Value.ref b] s) (F0 m 164 ls []) := by
  obtain ⟨hx, hb, hr, hml, hown0, hts, hX, hbl, hlocks, hgv⟩ := C0
  have hown : s.vm.findClass RL = some m.cls := hown0
  have hU : ∀ w ∈ wsU, w.before #[Value.ref b] s = true := fun w h => hts w (wsU_in w h)
  have hbA : ¬ A b := by rw [hAe]; exact Nat.not_le.mpr hbl
  obtain ⟨s0, es0⟩ : ∃ y : Int32, xs 0 = y := ⟨_, rfl⟩
  obtain ⟨s1, es1⟩ : ∃ y : Int32, xs 1 = y := ⟨_, rfl⟩
  obtain ⟨s2, es2⟩ : ∃ y : Int32, xs 2 = y := ⟨_, rfl⟩
  obtain ⟨s3, es3⟩ : ∃ y : Int32, xs 3 = y := ⟨_, rfl⟩
  obtain ⟨s4, es4⟩ : ∃ y : Int32, xs 4 = y := ⟨_, rfl⟩
  obtain ⟨s5, es5⟩ : ∃ y : Int32, xs 5 = y := ⟨_, rfl⟩
  refine lv_aload_n hx hb dL_law_164 rfl (lv_at hl 2 rfl) ?_
  refine lv_aload_n hx hb dL_law_165 rfl (lv_at hl 3 rfl) ?_
  refine lv_iload_n hx hb dL_law_166 rfl (lv_at hl 0 rfl) ?_
  refine lv_iconst (v := 1) hx hb dL_law_167 (by decide) ?_
  refine lv_iadd hx hb dL_law_168 ?_
  refine tk_topi (y := 1) (by decide) ?_
  refine va_sld hx hb hX hbl hbA hS (vp_in_nI (n := 1) (by decide) (by decide)) dL_law_169 ?_
  refine tk_topi (y := s1) es1 ?_
  refine lv_aload_n hx hb dL_law_170 rfl (lv_at hl 3 rfl) ?_
  refine lv_iload_n hx hb dL_law_171 rfl (lv_at hl 0 rfl) ?_
  refine lv_iconst (v := 2) hx hb dL_law_172 (by decide) ?_
  refine lv_iadd hx hb dL_law_173 ?_
  refine tk_topi (y := 2) (by decide) ?_
  refine va_sld hx hb hX hbl hbA hS (vp_in_nI (n := 2) (by decide) (by decide)) dL_law_174 ?_
  refine tk_topi (y := s2) es2 ?_
  refine lv_aload_n hx hb dL_law_175 rfl (lv_at hl 3 rfl) ?_
  refine lv_iload_n hx hb dL_law_176 rfl (lv_at hl 0 rfl) ?_
  refine lv_iconst (v := 3) hx hb dL_law_177 (by decide) ?_
  refine lv_iadd hx hb dL_law_178 ?_
  refine tk_topi (y := 3) (by decide) ?_
  refine va_sld hx hb hX hbl hbA hS (vp_in_nI (n := 3) (by decide) (by decide)) dL_law_179 ?_
  refine tk_topi (y := s3) es3 ?_
  refine lv_aload_n hx hb dL_law_180 rfl (lv_at hl 3 rfl) ?_
  refine lv_iload_n hx hb dL_law_181 rfl (lv_at hl 0 rfl) ?_
  refine lv_iconst (v := 4) hx hb dL_law_182 (by decide) ?_
  refine lv_iadd hx hb dL_law_183 ?_
  refine tk_topi (y := 4) (by decide) ?_
  refine va_sld hx hb hX hbl hbA hS (vp_in_nI (n := 4) (by decide) (by decide)) dL_law_184 ?_
  refine tk_topi (y := s4) es4 ?_
  refine lv_aload_n hx hb dL_law_185 rfl (lv_at hl 3 rfl) ?_
  refine lv_iload_n hx hb dL_law_186 rfl (lv_at hl 0 rfl) ?_
  refine lv_iconst (v := 5) hx hb dL_law_187 (by decide) ?_
  refine lv_iadd hx hb dL_law_188 ?_
  refine tk_topi (y := 5) (by decide) ?_
  refine va_sld hx hb hX hbl hbA hS (vp_in_nI (n := 5) (by decide) (by decide)) dL_law_189 ?_
  refine tk_topi (y := s5) es5 ?_
  refine tk_ri (wr := [(m0, .inr (12, [.ref m1, .ref m2, .ref m3, .int 0, .ref m4, .int 0, .int 0, .int 0, .int 0, .int 0, .int (-1), .int 0, .int 0, .int 0, .int 0, .ref m5, .ref m6, .ref m7, .ref m8, .ref m9, .ref m10, .ref m11, .ref m12, .int 0, .int 0, .int 0, .int 0, .int 0, .ref m13, .int 0, .ref m14, .ref m15, .int 0, .int 0, .ref m16, .int 0, .ref m17, .ref m18, .int 0, .int (-1), .ref m19, .ref m20, .ref m21, .int 0, .ref m22, .ref m23, .ref m24, .ref m25, .ref m26, .ref m27, .ref m28, .ref m29, .ref m30, .int 0, .int 0, .ref m31])), (m4, .inl (cI, 600, .inl z0))]) (tk_V (As := [.int s1, .int s2, .int s3, .int s4, .int s5]) (rest := []) (n := 5) hx hb hml hown hU hN (op_X11_feed l (dC, dI) cI cL cZ H.size x0 s1 s2 s3 s4 s5 x1 x2 x3 x4 x5 x6 x7 x8 x9 x10 x11 x12 x13) wd_205 wd_206 wd_207 wd_2 wd_208 (by decide +kernel) ⟨Nat.le_of_ble_eq_true rfl, Nat.le_of_ble_eq_true rfl⟩ hK hP hD [0, 1] (by decide) rfl 0 11 rfl rfl rfl rfl hl.1 rfl (Nat.le_of_ble_eq_true rfl) dL_law_190 ⟨Nat.le_of_ble_eq_true rfl, Nat.le_of_ble_eq_true rfl⟩) hP hD hS hA [0, 1] [2, 3] rfl rfl (by decide) (by decide) (fun r_1 w_2 H locs hw hP hD hS => ?_)
  obtain ⟨rfl, rfl⟩ := hw
  have hP : va_P (dC, dI) vwCl [(m0, .inr (12, [.ref m1, .ref m2, .ref m3, .int 0, .ref m4, .int 0, .int 0, .int 0, .int 0, .int 0, .int (-1), .int 0, .int 0, .int 0, .int 0, .ref m5, .ref m6, .ref m7, .ref m8, .ref m9, .ref m10, .ref m11, .ref m12, .int 0, .int 0, .int 0, .int 0, .int 0, .ref m13, .int 0, .ref m14, .ref m15, .int 0, .int 0, .ref m16, .int 0, .ref m17, .ref m18, .int 0, .int (-1), .ref m19, .ref m20, .ref m21, .int 0, .ref m22, .ref m23, .ref m24, .ref m25, .ref m26, .ref m27, .ref m28, .ref m29, .ref m30, .int 0, .int 0, .ref m31])), (m4, .inl (cI, 600, .inl z0))] H := hP
  have hD : va_D A [(m0, .inr (12, [.ref m1, .ref m2, .ref m3, .int 0, .ref m4, .int 0, .int 0, .int 0, .int 0, .int 0, .int (-1), .int 0, .int 0, .int 0, .int 0, .ref m5, .ref m6, .ref m7, .ref m8, .ref m9, .ref m10, .ref m11, .ref m12, .int 0, .int 0, .int 0, .int 0, .int 0, .ref m13, .int 0, .ref m14, .ref m15, .int 0, .int 0, .ref m16, .int 0, .ref m17, .ref m18, .int 0, .int (-1), .ref m19, .ref m20, .ref m21, .int 0, .ref m22, .ref m23, .ref m24, .ref m25, .ref m26, .ref m27, .ref m28, .ref m29, .ref m30, .int 0, .int 0, .ref m31])), (m4, .inl (cI, 600, .inl z0))] := hD
  refine lv_aload_n hx hb dL_law_193 rfl (lv_at hl 1 rfl) ?_
  refine lv_aload_n hx hb dL_law_194 rfl (lv_at hl 3 rfl) ?_
  refine lv_iload_n hx hb dL_law_195 rfl (lv_at hl 0 rfl) ?_
  refine lv_iconst (v := 1) hx hb dL_law_196 (by decide) ?_
  refine lv_iadd hx hb dL_law_197 ?_
  refine tk_topi (y := 1) (by decide) ?_
  refine va_sld hx hb hX hbl hbA hS (vp_in_nI (n := 1) (by decide) (by decide)) dL_law_198 ?_
  refine tk_topi (y := s1) es1 ?_
  refine lv_aload_n hx hb dL_law_199 rfl (lv_at hl 3 rfl) ?_
  refine lv_iload_n hx hb dL_law_200 rfl (lv_at hl 0 rfl) ?_
  refine lv_iconst (v := 2) hx hb dL_law_201 (by decide) ?_
  refine lv_iadd hx hb dL_law_202 ?_
  refine tk_topi (y := 2) (by decide) ?_
  refine va_sld hx hb hX hbl hbA hS (vp_in_nI (n := 2) (by decide) (by decide)) dL_law_203 ?_
  refine tk_topi (y := s2) es2 ?_
  refine lv_aload_n hx hb dL_law_204 rfl (lv_at hl 3 rfl) ?_
  refine lv_iload_n hx hb dL_law_205 rfl (lv_at hl 0 rfl) ?_
  refine lv_iconst (v := 3) hx hb dL_law_206 (by decide) ?_
  refine lv_iadd hx hb dL_law_207 ?_
  refine tk_topi (y := 3) (by decide) ?_
  refine va_sld hx hb hX hbl hbA hS (vp_in_nI (n := 3) (by decide) (by decide)) dL_law_208 ?_
  refine tk_topi (y := s3) es3 ?_
  refine lv_aload_n hx hb dL_law_209 rfl (lv_at hl 3 rfl) ?_
  refine lv_iload_n hx hb dL_law_210 rfl (lv_at hl 0 rfl) ?_
  refine lv_iconst (v := 4) hx hb dL_law_211 (by decide) ?_
  refine lv_iadd hx hb dL_law_212 ?_
  refine tk_topi (y := 4) (by decide) ?_
  refine va_sld hx hb hX hbl hbA hS (vp_in_nI (n := 4) (by decide) (by decide)) dL_law_213 ?_
  refine tk_topi (y := s4) es4 ?_
  refine lv_aload_n hx hb dL_law_214 rfl (lv_at hl 3 rfl) ?_
  refine lv_iload_n hx hb dL_law_215 rfl (lv_at hl 0 rfl) ?_
  refine lv_iconst (v := 5) hx hb dL_law_216 (by decide) ?_
  refine lv_iadd hx hb dL_law_217 ?_
  refine tk_topi (y := 5) (by decide) ?_
  refine va_sld hx hb hX hbl hbA hS (vp_in_nI (n := 5) (by decide) (by decide)) dL_law_218 ?_
  refine tk_topi (y := s5) es5 ?_
  refine tk_ri (wr := []) (tk_V (As := [.int s1, .int s2, .int s3, .int s4, .int s5]) (rest := [.int 20]) (n := 5) hx hb hml hown hU hN (op_X12_feed l (dC, dI) cI cL cZ H.size m0 s1 s2 s3 s4 s5 m1 m2 m3 m4 m5 m6 m7 m8 m9 m10 m11 m12 m13 m14 m15 m16 m17 m18 m19 m20 m21 m22 m23 m24 m25 m26 m27 m28 m29 m30 m31) wd_214 wd_215 wd_216 wd_5 wd_217 (by decide +kernel) ⟨Nat.le_of_ble_eq_true rfl, Nat.le_of_ble_eq_true rfl⟩ hK hP hD [0, 1] (by decide) rfl 0 12 rfl rfl rfl rfl hl.1 rfl (Nat.le_of_ble_eq_true rfl) dL_law_219 ⟨Nat.le_of_ble_eq_true rfl, Nat.le_of_ble_eq_true rfl⟩) hP hD hS hA [0, 1] [] rfl rfl (by decide) (by decide) (fun r_3 w_4 H locs hw hP hD hS => ?_)
  obtain ⟨rfl, rfl⟩ := hw
  have hP : va_P (dC, dI) vwCl [] H := hP
  have hD : va_D A [] := hD
  refine lv_icmp_eq (tgt := 933) hx hb dL_law_222 (by decide) (fun _ => ?_) (fun c9 => absurd (by decide) c9) 
  refine lv_iinc (v := 6) (lv' := [(3, .int 6), (2, .ref m0), (1, .ref x0), (0, .ref b)]) hx hb dL_law_933 hl (k := 0) rfl (by decide) (by decide) rfl (fun ls hl => ?_)
  refine lv_goto (tgt := 18) hx hb dL_law_936 (by decide) ?_
  refine lv_iload_n hx hb dL_law_18 rfl (lv_at hl 0 rfl) ?_
  refine lv_aload_n hx hb dL_law_19 rfl (lv_at hl 3 rfl) ?_
  refine va_slen hx hb hX hbl hbA hS dL_law_20 ?_
  refine tk_topi (y := 6) rfl ?_
  refine lv_bipush (v := 6) hx hb dL_law_21 (by decide) ?_
  refine lv_isub hx hb dL_law_23 ?_
  refine tk_topi (y := 0) (by decide) ?_
  refine lv_icmp_gt (tgt := 939) hx hb dL_law_24 (by decide) (fun _ => ?_) (fun c9 => absurd (by decide) c9) 
  refine lv_iconst (v := 1) hx hb dL_law_939 (by decide) ?_
  refine va_forget (fun q hq => by have h9 := hS.2.2 q hq; rw [hAe] at h9; exact h9) ?_
  refine W.widen (k := 600000) (n := 7302250) (Nat.le_of_ble_eq_true rfl) (Nat.le_of_ble_eq_true rfl) ?_
  exact lw_ret hx hb hr hlocks dL_law_940
set_option maxHeartbeats 8000000 in
set_option maxRecDepth 100000 in
theorem law_end {p : Program} {l : Launch} {e : Env} {s : State} {m : MethodId} {below : List Frame} {meth : Method} {c : Code} {dC : Nat → ClassId} {dI : Nat → Nat → Nat} {cI cL cZ : ClassId} {b : Nat} {xs : Nat → Int32} (C0 : lw_At p s m meth c b 6 xs) (hK : va_K (dC, dI) vwCl (TYS cI cL cZ) s) (hN : nsW s) {A : Nat → Prop} (hA : ∀ q, s.heap.size ≤ q → A q) (hAe : A = fun q : Nat => s.heap.size ≤ q) (x0 m0 x1 x2 x3 x4 x5 x6 x7 x8 x9 x10 x11 x12 x13 m1 m2 m3 m4 m5 m6 m7 m8 m9 m10 m11 m12 m13 m14 m15 m16 m17 m18 m19 m20 m21 m22 m23 m24 m25 m26 m27 m28 m29 m30 m31 : Nat) {H : Heap} {locs : List Loc} (hP : va_P (dC, dI) vwCl [(x0, .inr (11, [.ref x1, .int 0, .ref x2, .ref x3, .ref x4, .ref x5, .ref x6, .ref x7, .int 0, .ref x8, .ref x9, .ref x10, .int 0, .int (-1), .ref x11, .int 0, .ref x12, .ref x13, .int 0])), (m0, .inr (12, [.ref m1, .ref m2, .ref m3, .int 0, .ref m4, .int 0, .int 0, .int 0, .int 0, .int 0, .int (-1), .int 0, .int 0, .int 0, .int 0, .ref m5, .ref m6, .ref m7, .ref m8, .ref m9, .ref m10, .ref m11, .ref m12, .int 0, .int 0, .int 0, .int 0, .int 0, .ref m13, .int 0, .ref m14, .ref m15, .int 0, .int 0, .ref m16, .int 0, .ref m17, .ref m18, .int 0, .int (-1), .ref m19, .ref m20, .ref m21, .int 0, .ref m22, .ref m23, .ref m24, .ref m25, .ref m26, .ref m27, .ref m28, .ref m29, .ref m30, .int 0, .int 0, .ref m31]))] H) (hD : va_D A [(x0, .inr (11, [.ref x1, .int 0, .ref x2, .ref x3, .ref x4, .ref x5, .ref x6, .ref x7, .int 0, .ref x8, .ref x9, .ref x10, .int 0, .int (-1), .ref x11, .int 0, .ref x12, .ref x13, .int 0])), (m0, .inr (12, [.ref m1, .ref m2, .ref m3, .int 0, .ref m4, .int 0, .int 0, .int 0, .int 0, .int 0, .int (-1), .int 0, .int 0, .int 0, .int 0, .ref m5, .ref m6, .ref m7, .ref m8, .ref m9, .ref m10, .ref m11, .ref m12, .int 0, .int 0, .int 0, .int 0, .int 0, .ref m13, .int 0, .ref m14, .ref m15, .int 0, .int 0, .ref m16, .int 0, .ref m17, .ref m18, .int 0, .int (-1), .ref m19, .ref m20, .ref m21, .int 0, .ref m22, .ref m23, .ref m24, .ref m25, .ref m26, .ref m27, .ref m28, .ref m29, .ref m30, .int 0, .int 0, .ref m31]))]) (hS : va_S A s.heap H locs) {ls : Array Slot} (hl : lv_has ls 4 [(3, .int 0), (2, .ref m0), (1, .ref x0), (0, .ref b)]) : W p l e room_1 s m #[Value.ref b] below meth c H locs 559 115398 (lw_Z below #[Value.ref b] s) (F0 m 227 ls []) := by
  obtain ⟨hx, hb, hr, hml, hown0, hts, hX, hbl, hlocks, hgv⟩ := C0
  have hown : s.vm.findClass RL = some m.cls := hown0
  have hU : ∀ w ∈ wsU, w.before #[Value.ref b] s = true := fun w h => hts w (wsU_in w h)
  have hbA : ¬ A b := by rw [hAe]; exact Nat.not_le.mpr hbl
  obtain ⟨s0, es0⟩ : ∃ y : Int32, xs 0 = y := ⟨_, rfl⟩
  obtain ⟨s1, es1⟩ : ∃ y : Int32, xs 1 = y := ⟨_, rfl⟩
  obtain ⟨s2, es2⟩ : ∃ y : Int32, xs 2 = y := ⟨_, rfl⟩
  obtain ⟨s3, es3⟩ : ∃ y : Int32, xs 3 = y := ⟨_, rfl⟩
  obtain ⟨s4, es4⟩ : ∃ y : Int32, xs 4 = y := ⟨_, rfl⟩
  obtain ⟨s5, es5⟩ : ∃ y : Int32, xs 5 = y := ⟨_, rfl⟩
  refine lv_aload_n hx hb dL_law_227 rfl (lv_at hl 2 rfl) ?_
  refine lv_aload_n hx hb dL_law_228 rfl (lv_at hl 3 rfl) ?_
  refine lv_iload_n hx hb dL_law_229 rfl (lv_at hl 0 rfl) ?_
  refine lv_iconst (v := 1) hx hb dL_law_230 (by decide) ?_
  refine lv_iadd hx hb dL_law_231 ?_
  refine tk_topi (y := 1) (by decide) ?_
  refine va_sld hx hb hX hbl hbA hS (vp_in_nI (n := 1) (by decide) (by decide)) dL_law_232 ?_
  refine tk_topi (y := s1) es1 ?_
  refine tk_ri (wr := [(m0, .inr (12, [.ref m1, .ref m2, .ref m3, .int 0, .ref m4, .int 0, .int 0, .int 0, .int 0, .int 0, .int (-1), .int 0, .int 0, .int 0, .int 0, .ref m5, .ref m6, .ref m7, .ref m8, .ref m9, .ref m10, .ref m11, .ref m12, .int 0, .int 0, .int 0, .int 0, .int 0, .ref m13, .int 0, .ref m14, .ref m15, .int 0, .int 0, .ref m16, .int 0, .ref m17, .ref m18, .int 0, .int (-1), .ref m19, .ref m20, .ref m21, .int 0, .ref m22, .ref m23, .ref m24, .ref m25, .ref m26, .ref m27, .ref m28, .ref m29, .ref m30, .int 0, .int 0, .ref m31]))]) (tk_V (As := [.int s1]) (rest := []) (n := 1) hx hb hml hown hU hN (op_X11_end l (dC, dI) cI cL cZ H.size x0 s1 x1 x2 x3 x4 x5 x6 x7 x8 x9 x10 x11 x12 x13) wd_219 wd_220 wd_221 wd_2 wd_222 (by decide +kernel) ⟨Nat.le_of_ble_eq_true rfl, Nat.le_of_ble_eq_true rfl⟩ hK hP hD [0] (by decide) rfl 0 11 rfl rfl rfl rfl hl.1 rfl (Nat.le_of_ble_eq_true rfl) dL_law_233 ⟨Nat.le_of_ble_eq_true rfl, Nat.le_of_ble_eq_true rfl⟩) hP hD hS hA [0] [1] rfl rfl (by decide) (by decide) (fun r_1 w_2 H locs hw hP hD hS => ?_)
  obtain ⟨rfl, rfl⟩ := hw
  have hP : va_P (dC, dI) vwCl [(m0, .inr (12, [.ref m1, .ref m2, .ref m3, .int 0, .ref m4, .int 0, .int 0, .int 0, .int 0, .int 0, .int (-1), .int 0, .int 0, .int 0, .int 0, .ref m5, .ref m6, .ref m7, .ref m8, .ref m9, .ref m10, .ref m11, .ref m12, .int 0, .int 0, .int 0, .int 0, .int 0, .ref m13, .int 0, .ref m14, .ref m15, .int 0, .int 0, .ref m16, .int 0, .ref m17, .ref m18, .int 0, .int (-1), .ref m19, .ref m20, .ref m21, .int 0, .ref m22, .ref m23, .ref m24, .ref m25, .ref m26, .ref m27, .ref m28, .ref m29, .ref m30, .int 0, .int 0, .ref m31]))] H := hP
  have hD : va_D A [(m0, .inr (12, [.ref m1, .ref m2, .ref m3, .int 0, .ref m4, .int 0, .int 0, .int 0, .int 0, .int 0, .int (-1), .int 0, .int 0, .int 0, .int 0, .ref m5, .ref m6, .ref m7, .ref m8, .ref m9, .ref m10, .ref m11, .ref m12, .int 0, .int 0, .int 0, .int 0, .int 0, .ref m13, .int 0, .ref m14, .ref m15, .int 0, .int 0, .ref m16, .int 0, .ref m17, .ref m18, .int 0, .int (-1), .ref m19, .ref m20, .ref m21, .int 0, .ref m22, .ref m23, .ref m24, .ref m25, .ref m26, .ref m27, .ref m28, .ref m29, .ref m30, .int 0, .int 0, .ref m31]))] := hD
  refine lv_aload_n hx hb dL_law_236 rfl (lv_at hl 1 rfl) ?_
  refine lv_aload_n hx hb dL_law_237 rfl (lv_at hl 3 rfl) ?_
  refine lv_iload_n hx hb dL_law_238 rfl (lv_at hl 0 rfl) ?_
  refine lv_iconst (v := 1) hx hb dL_law_239 (by decide) ?_
  refine lv_iadd hx hb dL_law_240 ?_
  refine tk_topi (y := 1) (by decide) ?_
  refine va_sld hx hb hX hbl hbA hS (vp_in_nI (n := 1) (by decide) (by decide)) dL_law_241 ?_
  refine tk_topi (y := s1) es1 ?_
  refine tk_ri (wr := []) (tk_V (As := [.int s1]) (rest := [.int (an_end s1)]) (n := 1) hx hb hml hown hU hN (op_X12_end l (dC, dI) cI cL cZ H.size m0 s1 m1 m2 m3 m4 m5 m6 m7 m8 m9 m10 m11 m12 m13 m14 m15 m16 m17 m18 m19 m20 m21 m22 m23 m24 m25 m26 m27 m28 m29 m30 m31) wd_223 wd_224 wd_225 wd_5 wd_226 (by decide +kernel) ⟨Nat.le_of_ble_eq_true rfl, Nat.le_of_ble_eq_true rfl⟩ hK hP hD [0] (by decide) rfl 0 12 rfl rfl rfl rfl hl.1 rfl (Nat.le_of_ble_eq_true rfl) dL_law_242 ⟨Nat.le_of_ble_eq_true rfl, Nat.le_of_ble_eq_true rfl⟩) hP hD hS hA [0] [] rfl rfl (by decide) (by decide) (fun r_3 w_4 H locs hw hP hD hS => ?_)
  obtain ⟨rfl, rfl⟩ := hw
  have hP : va_P (dC, dI) vwCl [] H := hP
  have hD : va_D A [] := hD
  refine lv_icmp_eq (tgt := 933) hx hb dL_law_245 (by decide) (fun _ => ?_) (fun c9 => absurd rfl c9)
  refine lv_iinc (v := 6) (lv' := [(3, .int 6), (2, .ref m0), (1, .ref x0), (0, .ref b)]) hx hb dL_law_933 hl (k := 0) rfl (by decide) (by decide) rfl (fun ls hl => ?_)
  refine lv_goto (tgt := 18) hx hb dL_law_936 (by decide) ?_
  refine lv_iload_n hx hb dL_law_18 rfl (lv_at hl 0 rfl) ?_
  refine lv_aload_n hx hb dL_law_19 rfl (lv_at hl 3 rfl) ?_
  refine va_slen hx hb hX hbl hbA hS dL_law_20 ?_
  refine tk_topi (y := 6) rfl ?_
  refine lv_bipush (v := 6) hx hb dL_law_21 (by decide) ?_
  refine lv_isub hx hb dL_law_23 ?_
  refine tk_topi (y := 0) (by decide) ?_
  refine lv_icmp_gt (tgt := 939) hx hb dL_law_24 (by decide) (fun _ => ?_) (fun c9 => absurd (by decide) c9) 
  refine lv_iconst (v := 1) hx hb dL_law_939 (by decide) ?_
  refine va_forget (fun q hq => by have h9 := hS.2.2 q hq; rw [hAe] at h9; exact h9) ?_
  refine W.widen (k := 600000) (n := 7302250) (Nat.le_of_ble_eq_true rfl) (Nat.le_of_ble_eq_true rfl) ?_
  exact lw_ret hx hb hr hlocks dL_law_940
set_option maxHeartbeats 8000000 in
set_option maxRecDepth 100000 in
theorem law_text {p : Program} {l : Launch} {e : Env} {s : State} {m : MethodId} {below : List Frame} {meth : Method} {c : Code} {dC : Nat → ClassId} {dI : Nat → Nat → Nat} {cI cL cZ : ClassId} {b : Nat} {xs : Nat → Int32} (C0 : lw_At p s m meth c b 6 xs) (hK : va_K (dC, dI) vwCl (TYS cI cL cZ) s) (hN : nsW s) {A : Nat → Prop} (hA : ∀ q, s.heap.size ≤ q → A q) (hAe : A = fun q : Nat => s.heap.size ≤ q) (x0 m0 x1 x2 x3 x4 x5 x6 x7 x8 x9 x10 x11 x12 x13 x22 x23 x24 x25 x26 x27 x28 x29 x30 x31 x32 x33 x34 x35 x36 x37 x38 x39 x40 x41 x42 x43 x44 x45 x46 x47 x48 x49 x77 x78 x79 x80 x81 x82 x83 x84 x85 x86 x87 x88 x89 x90 x91 x92 x93 x94 x95 m1 m2 m3 m4 m5 m6 m7 m8 m9 m10 m11 m12 m13 m14 m15 m16 m17 m18 m19 m20 m21 m22 m23 m24 m25 m26 m27 m28 m29 m30 m31 : Nat) {H : Heap} {locs : List Loc} (hP : va_P (dC, dI) vwCl [(x0, .inr (11, [.ref x1, .int 0, .ref x2, .ref x3, .ref x4, .ref x5, .ref x6, .ref x7, .int 0, .ref x8, .ref x9, .ref x10, .int 0, .int (-1), .ref x11, .int 0, .ref x12, .ref x13, .int 0])), (x1, .inl (cI, 600, .inl z0)), (x3, .inr (7, [.ref x22, .int 0, .ref x23, .ref x24, .ref x25, .ref x26, .int 0, .ref x27, .ref x28, .ref x29, .ref x30, .ref x31, .int 0, .ref x32, .ref x33, .ref x34])), (x22, .inl (cI, 26, .inl z0)), (x23, .inl (cI, 6, .inl z0)), (x24, .inl (cI, 81, .inl z0)), (x25, .inl (cI, 20, .inl z0)), (x26, .inl (cI, 20, .inl z0)), (x29, .inl (cI, 36, .inl z0)), (x30, .inl (cI, 36, .inl z0)), (x32, .inr (9, [.ref x35, .ref x36, .int 0])), (x35, .inl (cI, 96, .inl z0)), (x36, .inl (cI, 12, .inl z0)), (x33, .inr (9, [.ref x37, .ref x38, .int 0])), (x37, .inl (cI, 64, .inl z0)), (x38, .inl (cI, 8, .inl z0)), (x4, .inr (10, [.ref x39, .int 0, .int 0])), (x5, .inr (6, [.int 0, .int 1, .ref x40, .ref x41, .ref x42, .int 0, .ref x43, .ref x44, .ref x45])), (x40, .inl (cI, 8, .inl z0)), (x41, .inr (9, [.ref x46, .ref x47, .int 0])), (x42, .inr (9, [.ref x48, .ref x49, .int 0])), (x8, .inr (2, [.ref x77, .int 0, .int (-1), .ref x78, .int 0, .int 0, .int 0, .int 0, .int 0, .int 0])), (x77, .inr (7, [.ref x79, .int 0, .ref x80, .ref x81, .ref x82, .ref x83, .int 0, .ref x84, .ref x85, .ref x86, .ref x87, .ref x88, .int 0, .ref x89, .ref x90, .ref x91])), (x79, .inl (cI, 26, .inl z0)), (x80, .inl (cI, 6, .inl z0)), (x81, .inl (cI, 81, .inl z0)), (x82, .inl (cI, 20, .inl z0)), (x83, .inl (cI, 20, .inl z0)), (x84, .inl (cI, 9, .inl z0)), (x85, .inl (cI, 9, .inl z0)), (x86, .inl (cI, 36, .inl z0)), (x87, .inl (cI, 36, .inl z0)), (x89, .inr (9, [.ref x92, .ref x93, .int 0])), (x92, .inl (cI, 96, .inl z0)), (x93, .inl (cI, 12, .inl z0)), (x90, .inr (9, [.ref x94, .ref x95, .int 0])), (x94, .inl (cI, 64, .inl z0)), (x95, .inl (cI, 8, .inl z0)), (x78, .inl (cI, 600, .inl z0)), (m0, .inr (12, [.ref m1, .ref m2, .ref m3, .int 0, .ref m4, .int 0, .int 0, .int 0, .int 0, .int 0, .int (-1), .int 0, .int 0, .int 0, .int 0, .ref m5, .ref m6, .ref m7, .ref m8, .ref m9, .ref m10, .ref m11, .ref m12, .int 0, .int 0, .int 0, .int 0, .int 0, .ref m13, .int 0, .ref m14, .ref m15, .int 0, .int 0, .ref m16, .int 0, .ref m17, .ref m18, .int 0, .int (-1), .ref m19, .ref m20, .ref m21, .int 0, .ref m22, .ref m23, .ref m24, .ref m25, .ref m26, .ref m27, .ref m28, .ref m29, .ref m30, .int 0, .int 0, .ref m31])), (m1, .inl (cI, 1560, .inl w0)), (m2, .inl (cI, 1560, .inl z0))] H) (hD : va_D A [(x0, .inr (11, [.ref x1, .int 0, .ref x2, .ref x3, .ref x4, .ref x5, .ref x6, .ref x7, .int 0, .ref x8, .ref x9, .ref x10, .int 0, .int (-1), .ref x11, .int 0, .ref x12, .ref x13, .int 0])), (x1, .inl (cI, 600, .inl z0)), (x3, .inr (7, [.ref x22, .int 0, .ref x23, .ref x24, .ref x25, .ref x26, .int 0, .ref x27, .ref x28, .ref x29, .ref x30, .ref x31, .int 0, .ref x32, .ref x33, .ref x34])), (x22, .inl (cI, 26, .inl z0)), (x23, .inl (cI, 6, .inl z0)), (x24, .inl (cI, 81, .inl z0)), (x25, .inl (cI, 20, .inl z0)), (x26, .inl (cI, 20, .inl z0)), (x29, .inl (cI, 36, .inl z0)), (x30, .inl (cI, 36, .inl z0)), (x32, .inr (9, [.ref x35, .ref x36, .int 0])), (x35, .inl (cI, 96, .inl z0)), (x36, .inl (cI, 12, .inl z0)), (x33, .inr (9, [.ref x37, .ref x38, .int 0])), (x37, .inl (cI, 64, .inl z0)), (x38, .inl (cI, 8, .inl z0)), (x4, .inr (10, [.ref x39, .int 0, .int 0])), (x5, .inr (6, [.int 0, .int 1, .ref x40, .ref x41, .ref x42, .int 0, .ref x43, .ref x44, .ref x45])), (x40, .inl (cI, 8, .inl z0)), (x41, .inr (9, [.ref x46, .ref x47, .int 0])), (x42, .inr (9, [.ref x48, .ref x49, .int 0])), (x8, .inr (2, [.ref x77, .int 0, .int (-1), .ref x78, .int 0, .int 0, .int 0, .int 0, .int 0, .int 0])), (x77, .inr (7, [.ref x79, .int 0, .ref x80, .ref x81, .ref x82, .ref x83, .int 0, .ref x84, .ref x85, .ref x86, .ref x87, .ref x88, .int 0, .ref x89, .ref x90, .ref x91])), (x79, .inl (cI, 26, .inl z0)), (x80, .inl (cI, 6, .inl z0)), (x81, .inl (cI, 81, .inl z0)), (x82, .inl (cI, 20, .inl z0)), (x83, .inl (cI, 20, .inl z0)), (x84, .inl (cI, 9, .inl z0)), (x85, .inl (cI, 9, .inl z0)), (x86, .inl (cI, 36, .inl z0)), (x87, .inl (cI, 36, .inl z0)), (x89, .inr (9, [.ref x92, .ref x93, .int 0])), (x92, .inl (cI, 96, .inl z0)), (x93, .inl (cI, 12, .inl z0)), (x90, .inr (9, [.ref x94, .ref x95, .int 0])), (x94, .inl (cI, 64, .inl z0)), (x95, .inl (cI, 8, .inl z0)), (x78, .inl (cI, 600, .inl z0)), (m0, .inr (12, [.ref m1, .ref m2, .ref m3, .int 0, .ref m4, .int 0, .int 0, .int 0, .int 0, .int 0, .int (-1), .int 0, .int 0, .int 0, .int 0, .ref m5, .ref m6, .ref m7, .ref m8, .ref m9, .ref m10, .ref m11, .ref m12, .int 0, .int 0, .int 0, .int 0, .int 0, .ref m13, .int 0, .ref m14, .ref m15, .int 0, .int 0, .ref m16, .int 0, .ref m17, .ref m18, .int 0, .int (-1), .ref m19, .ref m20, .ref m21, .int 0, .ref m22, .ref m23, .ref m24, .ref m25, .ref m26, .ref m27, .ref m28, .ref m29, .ref m30, .int 0, .int 0, .ref m31])), (m1, .inl (cI, 1560, .inl w0)), (m2, .inl (cI, 1560, .inl z0))]) (hS : va_S A s.heap H locs) {ls : Array Slot} (hl : lv_has ls 4 [(3, .int 0), (2, .ref m0), (1, .ref x0), (0, .ref b)]) : W p l e room_1 s m #[Value.ref b] below meth c H locs 559 115398 (lw_Z below #[Value.ref b] s) (F0 m 250 ls []) := by
  obtain ⟨hx, hb, hr, hml, hown0, hts, hX, hbl, hlocks, hgv⟩ := C0
  have hown : s.vm.findClass RL = some m.cls := hown0
  have hU : ∀ w ∈ wsU, w.before #[Value.ref b] s = true := fun w h => hts w (wsU_in w h)
  have hbA : ¬ A b := by rw [hAe]; exact Nat.not_le.mpr hbl
  obtain ⟨s0, es0⟩ : ∃ y : Int32, xs 0 = y := ⟨_, rfl⟩
  obtain ⟨s1, es1⟩ : ∃ y : Int32, xs 1 = y := ⟨_, rfl⟩
  obtain ⟨s2, es2⟩ : ∃ y : Int32, xs 2 = y := ⟨_, rfl⟩
  obtain ⟨s3, es3⟩ : ∃ y : Int32, xs 3 = y := ⟨_, rfl⟩
  obtain ⟨s4, es4⟩ : ∃ y : Int32, xs 4 = y := ⟨_, rfl⟩
  obtain ⟨s5, es5⟩ : ∃ y : Int32, xs 5 = y := ⟨_, rfl⟩
  refine lv_aload_n hx hb dL_law_250 rfl (lv_at hl 2 rfl) ?_
  refine tk_ri (wr := [(m0, .inr (12, [.ref m1, .ref m2, .ref m3, .int 0, .ref m4, .int 0, .int 0, .int 0, .int 0, .int 0, .int (-1), .int 0, .int 0, .int 0, .int 0, .ref m5, .ref m6, .ref m7, .ref m8, .ref m9, .ref m10, .ref m11, .ref m12, .int 0, .int 0, .int 0, .int 0, .int 0, .ref m13, .int 0, .ref m14, .ref m15, .int 0, .int 0, .ref m16, .int 0, .ref m17, .ref m18, .int 0, .int (-1), .ref m19, .ref m20, .ref m21, .int 0, .ref m22, .ref m23, .ref m24, .ref m25, .ref m26, .ref m27, .ref m28, .ref m29, .ref m30, .int 0, .int 0, .ref m31])), (m1, .inl (cI, 1560, .inl w0)), (m2, .inl (cI, 1560, .inl z0))]) (tk_V (As := []) (rest := []) (n := 0) hx hb hml hown hU hN (op_X11_text l (dC, dI) cI cL cZ H.size x0 x1 x2 x3 x4 x5 x6 x7 x8 x9 x10 x11 x12 x13 x22 x23 x24 x25 x26 x27 x28 x29 x30 x31 x32 x33 x34 x35 x36 x37 x38 x39 x40 x41 x42 x43 x44 x45 x46 x47 x48 x49 x77 x78 x79 x80 x81 x82 x83 x84 x85 x86 x87 x88 x89 x90 x91 x92 x93 x94 x95) wd_230 wd_231 wd_232 wd_2 wd_233 (by decide +kernel) ⟨Nat.le_of_ble_eq_true rfl, Nat.le_of_ble_eq_true rfl⟩ hK hP hD [0, 1, 2, 3, 4, 5, 6, 7, 8, 9, 10, 11, 12, 13, 14, 15, 16, 17, 18, 19, 20, 21, 22, 23, 24, 25, 26, 27, 28, 29, 30, 31, 32, 33, 34, 35, 36, 37, 38] (by decide) rfl 0 11 rfl rfl rfl rfl hl.1 rfl (Nat.le_of_ble_eq_true rfl) dL_law_251 ⟨Nat.le_of_ble_eq_true rfl, Nat.le_of_ble_eq_true rfl⟩) hP hD hS hA [0, 1, 2, 3, 4, 5, 6, 7, 8, 9, 10, 11, 12, 13, 14, 15, 16, 17, 18, 19, 20, 21, 22, 23, 24, 25, 26, 27, 28, 29, 30, 31, 32, 33, 34, 35, 36, 37, 38] [39, 40, 41] rfl rfl (by decide) (by decide) (fun r_1 w_2 H locs hw hP hD hS => ?_)
  obtain ⟨rfl, rfl⟩ := hw
  have hP : va_P (dC, dI) vwCl [(m0, .inr (12, [.ref m1, .ref m2, .ref m3, .int 0, .ref m4, .int 0, .int 0, .int 0, .int 0, .int 0, .int (-1), .int 0, .int 0, .int 0, .int 0, .ref m5, .ref m6, .ref m7, .ref m8, .ref m9, .ref m10, .ref m11, .ref m12, .int 0, .int 0, .int 0, .int 0, .int 0, .ref m13, .int 0, .ref m14, .ref m15, .int 0, .int 0, .ref m16, .int 0, .ref m17, .ref m18, .int 0, .int (-1), .ref m19, .ref m20, .ref m21, .int 0, .ref m22, .ref m23, .ref m24, .ref m25, .ref m26, .ref m27, .ref m28, .ref m29, .ref m30, .int 0, .int 0, .ref m31])), (m1, .inl (cI, 1560, .inl w0)), (m2, .inl (cI, 1560, .inl z0))] H := hP
  have hD : va_D A [(m0, .inr (12, [.ref m1, .ref m2, .ref m3, .int 0, .ref m4, .int 0, .int 0, .int 0, .int 0, .int 0, .int (-1), .int 0, .int 0, .int 0, .int 0, .ref m5, .ref m6, .ref m7, .ref m8, .ref m9, .ref m10, .ref m11, .ref m12, .int 0, .int 0, .int 0, .int 0, .int 0, .ref m13, .int 0, .ref m14, .ref m15, .int 0, .int 0, .ref m16, .int 0, .ref m17, .ref m18, .int 0, .int (-1), .ref m19, .ref m20, .ref m21, .int 0, .ref m22, .ref m23, .ref m24, .ref m25, .ref m26, .ref m27, .ref m28, .ref m29, .ref m30, .int 0, .int 0, .ref m31])), (m1, .inl (cI, 1560, .inl w0)), (m2, .inl (cI, 1560, .inl z0))] := hD
  refine lv_aload_n hx hb dL_law_254 rfl (lv_at hl 1 rfl) ?_
  refine tk_ri (wr := []) (tk_V (As := []) (rest := [.int 0]) (n := 0) hx hb hml hown hU hN (op_X12_text l (dC, dI) cI cL cZ H.size m0 m1 m2 m3 m4 m5 m6 m7 m8 m9 m10 m11 m12 m13 m14 m15 m16 m17 m18 m19 m20 m21 m22 m23 m24 m25 m26 m27 m28 m29 m30 m31) wd_562 wd_563 wd_564 wd_5 wd_565 (by decide +kernel) ⟨Nat.le_of_ble_eq_true rfl, Nat.le_of_ble_eq_true rfl⟩ hK hP hD [0, 1, 2] (by decide) rfl 0 12 rfl rfl rfl rfl hl.1 rfl (Nat.le_of_ble_eq_true rfl) dL_law_255 ⟨Nat.le_of_ble_eq_true rfl, Nat.le_of_ble_eq_true rfl⟩) hP hD hS hA [0, 1, 2] [] rfl rfl (by decide) (by decide) (fun r_3 w_4 H locs hw hP hD hS => ?_)
  obtain ⟨rfl, rfl⟩ := hw
  have hP : va_P (dC, dI) vwCl [] H := hP
  have hD : va_D A [] := hD
  refine lv_icmp_eq (tgt := 933) hx hb dL_law_258 (by decide) (fun _ => ?_) (fun c9 => absurd (by decide) c9) 
  refine lv_iinc (v := 6) (lv' := [(3, .int 6), (2, .ref m0), (1, .ref x0), (0, .ref b)]) hx hb dL_law_933 hl (k := 0) rfl (by decide) (by decide) rfl (fun ls hl => ?_)
  refine lv_goto (tgt := 18) hx hb dL_law_936 (by decide) ?_
  refine lv_iload_n hx hb dL_law_18 rfl (lv_at hl 0 rfl) ?_
  refine lv_aload_n hx hb dL_law_19 rfl (lv_at hl 3 rfl) ?_
  refine va_slen hx hb hX hbl hbA hS dL_law_20 ?_
  refine tk_topi (y := 6) rfl ?_
  refine lv_bipush (v := 6) hx hb dL_law_21 (by decide) ?_
  refine lv_isub hx hb dL_law_23 ?_
  refine tk_topi (y := 0) (by decide) ?_
  refine lv_icmp_gt (tgt := 939) hx hb dL_law_24 (by decide) (fun _ => ?_) (fun c9 => absurd (by decide) c9) 
  refine lv_iconst (v := 1) hx hb dL_law_939 (by decide) ?_
  refine va_forget (fun q hq => by have h9 := hS.2.2 q hq; rw [hAe] at h9; exact h9) ?_
  refine W.widen (k := 600000) (n := 7302250) (Nat.le_of_ble_eq_true rfl) (Nat.le_of_ble_eq_true rfl) ?_
  exact lw_ret hx hb hr hlocks dL_law_940
set_option maxHeartbeats 8000000 in
set_option maxRecDepth 100000 in
theorem law_fault {p : Program} {l : Launch} {e : Env} {s : State} {m : MethodId} {below : List Frame} {meth : Method} {c : Code} {dC : Nat → ClassId} {dI : Nat → Nat → Nat} {cI cL cZ : ClassId} {b : Nat} {xs : Nat → Int32} (C0 : lw_At p s m meth c b 6 xs) (hK : va_K (dC, dI) vwCl (TYS cI cL cZ) s) (hN : nsW s) {A : Nat → Prop} (hA : ∀ q, s.heap.size ≤ q → A q) (hAe : A = fun q : Nat => s.heap.size ≤ q) (x0 m0 x1 x2 x3 x4 x5 x6 x7 x8 x9 x10 x11 x12 x13 x77 x78 m1 m2 m3 m4 m5 m6 m7 m8 m9 m10 m11 m12 m13 m14 m15 m16 m17 m18 m19 m20 m21 m22 m23 m24 m25 m26 m27 m28 m29 m30 m31 : Nat) {H : Heap} {locs : List Loc} (hP : va_P (dC, dI) vwCl [(x0, .inr (11, [.ref x1, .int 0, .ref x2, .ref x3, .ref x4, .ref x5, .ref x6, .ref x7, .int 0, .ref x8, .ref x9, .ref x10, .int 0, .int (-1), .ref x11, .int 0, .ref x12, .ref x13, .int 0])), (x8, .inr (2, [.ref x77, .int 0, .int (-1), .ref x78, .int 0, .int 0, .int 0, .int 0, .int 0, .int 0])), (m0, .inr (12, [.ref m1, .ref m2, .ref m3, .int 0, .ref m4, .int 0, .int 0, .int 0, .int 0, .int 0, .int (-1), .int 0, .int 0, .int 0, .int 0, .ref m5, .ref m6, .ref m7, .ref m8, .ref m9, .ref m10, .ref m11, .ref m12, .int 0, .int 0, .int 0, .int 0, .int 0, .ref m13, .int 0, .ref m14, .ref m15, .int 0, .int 0, .ref m16, .int 0, .ref m17, .ref m18, .int 0, .int (-1), .ref m19, .ref m20, .ref m21, .int 0, .ref m22, .ref m23, .ref m24, .ref m25, .ref m26, .ref m27, .ref m28, .ref m29, .ref m30, .int 0, .int 0, .ref m31]))] H) (hD : va_D A [(x0, .inr (11, [.ref x1, .int 0, .ref x2, .ref x3, .ref x4, .ref x5, .ref x6, .ref x7, .int 0, .ref x8, .ref x9, .ref x10, .int 0, .int (-1), .ref x11, .int 0, .ref x12, .ref x13, .int 0])), (x8, .inr (2, [.ref x77, .int 0, .int (-1), .ref x78, .int 0, .int 0, .int 0, .int 0, .int 0, .int 0])), (m0, .inr (12, [.ref m1, .ref m2, .ref m3, .int 0, .ref m4, .int 0, .int 0, .int 0, .int 0, .int 0, .int (-1), .int 0, .int 0, .int 0, .int 0, .ref m5, .ref m6, .ref m7, .ref m8, .ref m9, .ref m10, .ref m11, .ref m12, .int 0, .int 0, .int 0, .int 0, .int 0, .ref m13, .int 0, .ref m14, .ref m15, .int 0, .int 0, .ref m16, .int 0, .ref m17, .ref m18, .int 0, .int (-1), .ref m19, .ref m20, .ref m21, .int 0, .ref m22, .ref m23, .ref m24, .ref m25, .ref m26, .ref m27, .ref m28, .ref m29, .ref m30, .int 0, .int 0, .ref m31]))]) (hS : va_S A s.heap H locs) {ls : Array Slot} (hl : lv_has ls 4 [(3, .int 0), (2, .ref m0), (1, .ref x0), (0, .ref b)]) : W p l e room_1 s m #[Value.ref b] below meth c H locs 559 115398 (lw_Z below #[Value.ref b] s) (F0 m 263 ls []) := by
  obtain ⟨hx, hb, hr, hml, hown0, hts, hX, hbl, hlocks, hgv⟩ := C0
  have hown : s.vm.findClass RL = some m.cls := hown0
  have hU : ∀ w ∈ wsU, w.before #[Value.ref b] s = true := fun w h => hts w (wsU_in w h)
  have hbA : ¬ A b := by rw [hAe]; exact Nat.not_le.mpr hbl
  obtain ⟨s0, es0⟩ : ∃ y : Int32, xs 0 = y := ⟨_, rfl⟩
  obtain ⟨s1, es1⟩ : ∃ y : Int32, xs 1 = y := ⟨_, rfl⟩
  obtain ⟨s2, es2⟩ : ∃ y : Int32, xs 2 = y := ⟨_, rfl⟩
  obtain ⟨s3, es3⟩ : ∃ y : Int32, xs 3 = y := ⟨_, rfl⟩
  obtain ⟨s4, es4⟩ : ∃ y : Int32, xs 4 = y := ⟨_, rfl⟩
  obtain ⟨s5, es5⟩ : ∃ y : Int32, xs 5 = y := ⟨_, rfl⟩
  refine lv_aload_n hx hb dL_law_263 rfl (lv_at hl 2 rfl) ?_
  refine lv_aload_n hx hb dL_law_264 rfl (lv_at hl 3 rfl) ?_
  refine lv_iload_n hx hb dL_law_265 rfl (lv_at hl 0 rfl) ?_
  refine lv_iconst (v := 1) hx hb dL_law_266 (by decide) ?_
  refine lv_iadd hx hb dL_law_267 ?_
  refine tk_topi (y := 1) (by decide) ?_
  refine va_sld hx hb hX hbl hbA hS (vp_in_nI (n := 1) (by decide) (by decide)) dL_law_268 ?_
  refine tk_topi (y := s1) es1 ?_
  refine tk_ri (wr := [(m0, .inr (12, [.ref m1, .ref m2, .ref m3, .int 0, .ref m4, .int 0, .int 0, .int 0, .int 0, .int 0, .int (-1), .int 0, .int 0, .int 0, .int 0, .ref m5, .ref m6, .ref m7, .ref m8, .ref m9, .ref m10, .ref m11, .ref m12, .int 0, .int 0, .int 0, .int 0, .int 0, .ref m13, .int 0, .ref m14, .ref m15, .int 0, .int 0, .ref m16, .int 0, .ref m17, .ref m18, .int 0, .int (-1), .ref m19, .ref m20, .ref m21, .int 0, .ref m22, .ref m23, .ref m24, .ref m25, .ref m26, .ref m27, .ref m28, .ref m29, .ref m30, .int 0, .int 0, .ref m31]))]) (tk_V (As := [.int s1]) (rest := []) (n := 1) hx hb hml hown hU hN (op_X11_fault l (dC, dI) cI cL cZ H.size x0 s1 x1 x2 x3 x4 x5 x6 x7 x8 x9 x10 x11 x12 x13 x77 x78) wd_663 wd_664 wd_665 wd_2 wd_666 (by decide +kernel) ⟨Nat.le_of_ble_eq_true rfl, Nat.le_of_ble_eq_true rfl⟩ hK hP hD [0, 1] (by decide) rfl 0 11 rfl rfl rfl rfl hl.1 rfl (Nat.le_of_ble_eq_true rfl) dL_law_269 ⟨Nat.le_of_ble_eq_true rfl, Nat.le_of_ble_eq_true rfl⟩) hP hD hS hA [0, 1] [2] rfl rfl (by decide) (by decide) (fun r_1 w_2 H locs hw hP hD hS => ?_)
  obtain ⟨rfl, rfl⟩ := hw
  have hP : va_P (dC, dI) vwCl [(m0, .inr (12, [.ref m1, .ref m2, .ref m3, .int 0, .ref m4, .int 0, .int 0, .int 0, .int 0, .int 0, .int (-1), .int 0, .int 0, .int 0, .int 0, .ref m5, .ref m6, .ref m7, .ref m8, .ref m9, .ref m10, .ref m11, .ref m12, .int 0, .int 0, .int 0, .int 0, .int 0, .ref m13, .int 0, .ref m14, .ref m15, .int 0, .int 0, .ref m16, .int 0, .ref m17, .ref m18, .int 0, .int (-1), .ref m19, .ref m20, .ref m21, .int 0, .ref m22, .ref m23, .ref m24, .ref m25, .ref m26, .ref m27, .ref m28, .ref m29, .ref m30, .int 0, .int 0, .ref m31]))] H := hP
  have hD : va_D A [(m0, .inr (12, [.ref m1, .ref m2, .ref m3, .int 0, .ref m4, .int 0, .int 0, .int 0, .int 0, .int 0, .int (-1), .int 0, .int 0, .int 0, .int 0, .ref m5, .ref m6, .ref m7, .ref m8, .ref m9, .ref m10, .ref m11, .ref m12, .int 0, .int 0, .int 0, .int 0, .int 0, .ref m13, .int 0, .ref m14, .ref m15, .int 0, .int 0, .ref m16, .int 0, .ref m17, .ref m18, .int 0, .int (-1), .ref m19, .ref m20, .ref m21, .int 0, .ref m22, .ref m23, .ref m24, .ref m25, .ref m26, .ref m27, .ref m28, .ref m29, .ref m30, .int 0, .int 0, .ref m31]))] := hD
  refine lv_aload_n hx hb dL_law_272 rfl (lv_at hl 1 rfl) ?_
  refine lv_aload_n hx hb dL_law_273 rfl (lv_at hl 3 rfl) ?_
  refine lv_iload_n hx hb dL_law_274 rfl (lv_at hl 0 rfl) ?_
  refine lv_iconst (v := 1) hx hb dL_law_275 (by decide) ?_
  refine lv_iadd hx hb dL_law_276 ?_
  refine tk_topi (y := 1) (by decide) ?_
  refine va_sld hx hb hX hbl hbA hS (vp_in_nI (n := 1) (by decide) (by decide)) dL_law_277 ?_
  refine tk_topi (y := s1) es1 ?_
  refine tk_ri (wr := []) (tk_V (As := [.int s1]) (rest := [.int (an_fault s1)]) (n := 1) hx hb hml hown hU hN (op_X12_fault l (dC, dI) cI cL cZ H.size m0 s1 m1 m2 m3 m4 m5 m6 m7 m8 m9 m10 m11 m12 m13 m14 m15 m16 m17 m18 m19 m20 m21 m22 m23 m24 m25 m26 m27 m28 m29 m30 m31) wd_669 wd_670 wd_671 wd_5 wd_672 (by decide +kernel) ⟨Nat.le_of_ble_eq_true rfl, Nat.le_of_ble_eq_true rfl⟩ hK hP hD [0] (by decide) rfl 0 12 rfl rfl rfl rfl hl.1 rfl (Nat.le_of_ble_eq_true rfl) dL_law_278 ⟨Nat.le_of_ble_eq_true rfl, Nat.le_of_ble_eq_true rfl⟩) hP hD hS hA [0] [] rfl rfl (by decide) (by decide) (fun r_3 w_4 H locs hw hP hD hS => ?_)
  obtain ⟨rfl, rfl⟩ := hw
  have hP : va_P (dC, dI) vwCl [] H := hP
  have hD : va_D A [] := hD
  refine lv_icmp_eq (tgt := 933) hx hb dL_law_281 (by decide) (fun _ => ?_) (fun c9 => absurd rfl c9)
  refine lv_iinc (v := 6) (lv' := [(3, .int 6), (2, .ref m0), (1, .ref x0), (0, .ref b)]) hx hb dL_law_933 hl (k := 0) rfl (by decide) (by decide) rfl (fun ls hl => ?_)
  refine lv_goto (tgt := 18) hx hb dL_law_936 (by decide) ?_
  refine lv_iload_n hx hb dL_law_18 rfl (lv_at hl 0 rfl) ?_
  refine lv_aload_n hx hb dL_law_19 rfl (lv_at hl 3 rfl) ?_
  refine va_slen hx hb hX hbl hbA hS dL_law_20 ?_
  refine tk_topi (y := 6) rfl ?_
  refine lv_bipush (v := 6) hx hb dL_law_21 (by decide) ?_
  refine lv_isub hx hb dL_law_23 ?_
  refine tk_topi (y := 0) (by decide) ?_
  refine lv_icmp_gt (tgt := 939) hx hb dL_law_24 (by decide) (fun _ => ?_) (fun c9 => absurd (by decide) c9) 
  refine lv_iconst (v := 1) hx hb dL_law_939 (by decide) ?_
  refine va_forget (fun q hq => by have h9 := hS.2.2 q hq; rw [hAe] at h9; exact h9) ?_
  refine W.widen (k := 600000) (n := 7302250) (Nat.le_of_ble_eq_true rfl) (Nat.le_of_ble_eq_true rfl) ?_
  exact lw_ret hx hb hr hlocks dL_law_940
set_option maxHeartbeats 8000000 in
set_option maxRecDepth 100000 in
theorem law_use {p : Program} {l : Launch} {e : Env} {s : State} {m : MethodId} {below : List Frame} {meth : Method} {c : Code} {dC : Nat → ClassId} {dI : Nat → Nat → Nat} {cI cL cZ : ClassId} {b : Nat} {xs : Nat → Int32} (C0 : lw_At p s m meth c b 6 xs) (hK : va_K (dC, dI) vwCl (TYS cI cL cZ) s) (hN : nsW s) {A : Nat → Prop} (hA : ∀ q, s.heap.size ≤ q → A q) (hAe : A = fun q : Nat => s.heap.size ≤ q) (x0 m0 x1 x2 x3 x4 x5 x6 x7 x8 x9 x10 x11 x12 x13 x22 x23 x24 x25 x26 x27 x28 x29 x30 x31 x32 x33 x34 x40 x41 x42 x43 x44 x45 m1 m2 m3 m4 m5 m6 m7 m8 m9 m10 m11 m12 m13 m14 m15 m16 m17 m18 m19 m20 m21 m22 m23 m24 m25 m26 m27 m28 m29 m30 m31 : Nat) {H : Heap} {locs : List Loc} (hP : va_P (dC, dI) vwCl [(x0, .inr (11, [.ref x1, .int 0, .ref x2, .ref x3, .ref x4, .ref x5, .ref x6, .ref x7, .int 0, .ref x8, .ref x9, .ref x10, .int 0, .int (-1), .ref x11, .int 0, .ref x12, .ref x13, .int 0])), (x3, .inr (7, [.ref x22, .int 0, .ref x23, .ref x24, .ref x25, .ref x26, .int 0, .ref x27, .ref x28, .ref x29, .ref x30, .ref x31, .int 0, .ref x32, .ref x33, .ref x34])), (x5, .inr (6, [.int 0, .int 1, .ref x40, .ref x41, .ref x42, .int 0, .ref x43, .ref x44, .ref x45])), (m0, .inr (12, [.ref m1, .ref m2, .ref m3, .int 0, .ref m4, .int 0, .int 0, .int 0, .int 0, .int 0, .int (-1), .int 0, .int 0, .int 0, .int 0, .ref m5, .ref m6, .ref m7, .ref m8, .ref m9, .ref m10, .ref m11, .ref m12, .int 0, .int 0, .int 0, .int 0, .int 0, .ref m13, .int 0, .ref m14, .ref m15, .int 0, .int 0, .ref m16, .int 0, .ref m17, .ref m18, .int 0, .int (-1), .ref m19, .ref m20, .ref m21, .int 0, .ref m22, .ref m23, .ref m24, .ref m25, .ref m26, .ref m27, .ref m28, .ref m29, .ref m30, .int 0, .int 0, .ref m31])), (m1, .inl (cI, 1560, .inl w0))] H) (hD : va_D A [(x0, .inr (11, [.ref x1, .int 0, .ref x2, .ref x3, .ref x4, .ref x5, .ref x6, .ref x7, .int 0, .ref x8, .ref x9, .ref x10, .int 0, .int (-1), .ref x11, .int 0, .ref x12, .ref x13, .int 0])), (x3, .inr (7, [.ref x22, .int 0, .ref x23, .ref x24, .ref x25, .ref x26, .int 0, .ref x27, .ref x28, .ref x29, .ref x30, .ref x31, .int 0, .ref x32, .ref x33, .ref x34])), (x5, .inr (6, [.int 0, .int 1, .ref x40, .ref x41, .ref x42, .int 0, .ref x43, .ref x44, .ref x45])), (m0, .inr (12, [.ref m1, .ref m2, .ref m3, .int 0, .ref m4, .int 0, .int 0, .int 0, .int 0, .int 0, .int (-1), .int 0, .int 0, .int 0, .int 0, .ref m5, .ref m6, .ref m7, .ref m8, .ref m9, .ref m10, .ref m11, .ref m12, .int 0, .int 0, .int 0, .int 0, .int 0, .ref m13, .int 0, .ref m14, .ref m15, .int 0, .int 0, .ref m16, .int 0, .ref m17, .ref m18, .int 0, .int (-1), .ref m19, .ref m20, .ref m21, .int 0, .ref m22, .ref m23, .ref m24, .ref m25, .ref m26, .ref m27, .ref m28, .ref m29, .ref m30, .int 0, .int 0, .ref m31])), (m1, .inl (cI, 1560, .inl w0))]) (hS : va_S A s.heap H locs) {ls : Array Slot} (hl : lv_has ls 4 [(3, .int 0), (2, .ref m0), (1, .ref x0), (0, .ref b)]) : W p l e room_1 s m #[Value.ref b] below meth c H locs 559 115398 (lw_Z below #[Value.ref b] s) (F0 m 286 ls []) := by
  obtain ⟨hx, hb, hr, hml, hown0, hts, hX, hbl, hlocks, hgv⟩ := C0
  have hown : s.vm.findClass RL = some m.cls := hown0
  have hU : ∀ w ∈ wsU, w.before #[Value.ref b] s = true := fun w h => hts w (wsU_in w h)
  have hbA : ¬ A b := by rw [hAe]; exact Nat.not_le.mpr hbl
  obtain ⟨s0, es0⟩ : ∃ y : Int32, xs 0 = y := ⟨_, rfl⟩
  obtain ⟨s1, es1⟩ : ∃ y : Int32, xs 1 = y := ⟨_, rfl⟩
  obtain ⟨s2, es2⟩ : ∃ y : Int32, xs 2 = y := ⟨_, rfl⟩
  obtain ⟨s3, es3⟩ : ∃ y : Int32, xs 3 = y := ⟨_, rfl⟩
  obtain ⟨s4, es4⟩ : ∃ y : Int32, xs 4 = y := ⟨_, rfl⟩
  obtain ⟨s5, es5⟩ : ∃ y : Int32, xs 5 = y := ⟨_, rfl⟩
  refine lv_aload_n hx hb dL_law_286 rfl (lv_at hl 2 rfl) ?_
  refine lv_aload_n hx hb dL_law_287 rfl (lv_at hl 3 rfl) ?_
  refine lv_iload_n hx hb dL_law_288 rfl (lv_at hl 0 rfl) ?_
  refine lv_iconst (v := 1) hx hb dL_law_289 (by decide) ?_
  refine lv_iadd hx hb dL_law_290 ?_
  refine tk_topi (y := 1) (by decide) ?_
  refine va_sld hx hb hX hbl hbA hS (vp_in_nI (n := 1) (by decide) (by decide)) dL_law_291 ?_
  refine tk_topi (y := s1) es1 ?_
  refine tk_ri (wr := [(m0, .inr (12, [.ref m1, .ref m2, .ref m3, .int 0, .ref m4, .int 0, .int 0, .int 0, .int 0, .int 0, .int (-1), .int 0, .int 0, .int 0, .int 0, .ref m5, .ref m6, .ref m7, .ref m8, .ref m9, .ref m10, .ref m11, .ref m12, .int 0, .int 0, .int 0, .int 0, .int 0, .ref m13, .int 0, .ref m14, .ref m15, .int 0, .int 0, .ref m16, .int 0, .ref m17, .ref m18, .int 0, .int (-1), .ref m19, .ref m20, .ref m21, .int 0, .ref m22, .ref m23, .ref m24, .ref m25, .ref m26, .ref m27, .ref m28, .ref m29, .ref m30, .int 0, .int 0, .ref m31])), (m1, .inl (cI, 1560, .inl w0))]) (tk_V (As := [.int s1]) (rest := []) (n := 1) hx hb hml hown hU hN (op_X11_use l (dC, dI) cI cL cZ H.size x0 s1 x1 x2 x3 x4 x5 x6 x7 x8 x9 x10 x11 x12 x13 x22 x23 x24 x25 x26 x27 x28 x29 x30 x31 x32 x33 x34 x40 x41 x42 x43 x44 x45) wd_673 wd_674 wd_675 wd_2 wd_676 (by decide +kernel) ⟨Nat.le_of_ble_eq_true rfl, Nat.le_of_ble_eq_true rfl⟩ hK hP hD [0, 1, 2] (by decide) rfl 0 11 rfl rfl rfl rfl hl.1 rfl (Nat.le_of_ble_eq_true rfl) dL_law_292 ⟨Nat.le_of_ble_eq_true rfl, Nat.le_of_ble_eq_true rfl⟩) hP hD hS hA [0, 1, 2] [3, 4] rfl rfl (by decide) (by decide) (fun r_1 w_2 H locs hw hP hD hS => ?_)
  obtain ⟨rfl, rfl⟩ := hw
  have hP : va_P (dC, dI) vwCl [(m0, .inr (12, [.ref m1, .ref m2, .ref m3, .int 0, .ref m4, .int 0, .int 0, .int 0, .int 0, .int 0, .int (-1), .int 0, .int 0, .int 0, .int 0, .ref m5, .ref m6, .ref m7, .ref m8, .ref m9, .ref m10, .ref m11, .ref m12, .int 0, .int 0, .int 0, .int 0, .int 0, .ref m13, .int 0, .ref m14, .ref m15, .int 0, .int 0, .ref m16, .int 0, .ref m17, .ref m18, .int 0, .int (-1), .ref m19, .ref m20, .ref m21, .int 0, .ref m22, .ref m23, .ref m24, .ref m25, .ref m26, .ref m27, .ref m28, .ref m29, .ref m30, .int 0, .int 0, .ref m31])), (m1, .inl (cI, 1560, .inl w0))] H := hP
  have hD : va_D A [(m0, .inr (12, [.ref m1, .ref m2, .ref m3, .int 0, .ref m4, .int 0, .int 0, .int 0, .int 0, .int 0, .int (-1), .int 0, .int 0, .int 0, .int 0, .ref m5, .ref m6, .ref m7, .ref m8, .ref m9, .ref m10, .ref m11, .ref m12, .int 0, .int 0, .int 0, .int 0, .int 0, .ref m13, .int 0, .ref m14, .ref m15, .int 0, .int 0, .ref m16, .int 0, .ref m17, .ref m18, .int 0, .int (-1), .ref m19, .ref m20, .ref m21, .int 0, .ref m22, .ref m23, .ref m24, .ref m25, .ref m26, .ref m27, .ref m28, .ref m29, .ref m30, .int 0, .int 0, .ref m31])), (m1, .inl (cI, 1560, .inl w0))] := hD
  refine lv_aload_n hx hb dL_law_295 rfl (lv_at hl 1 rfl) ?_
  refine lv_aload_n hx hb dL_law_296 rfl (lv_at hl 3 rfl) ?_
  refine lv_iload_n hx hb dL_law_297 rfl (lv_at hl 0 rfl) ?_
  refine lv_iconst (v := 1) hx hb dL_law_298 (by decide) ?_
  refine lv_iadd hx hb dL_law_299 ?_
  refine tk_topi (y := 1) (by decide) ?_
  refine va_sld hx hb hX hbl hbA hS (vp_in_nI (n := 1) (by decide) (by decide)) dL_law_300 ?_
  refine tk_topi (y := s1) es1 ?_
  refine tk_ri (wr := []) (tk_V (As := [.int s1]) (rest := [.int (an_use s1)]) (n := 1) hx hb hml hown hU hN (op_X12_use l (dC, dI) cI cL cZ H.size m0 s1 m1 m2 m3 m4 m5 m6 m7 m8 m9 m10 m11 m12 m13 m14 m15 m16 m17 m18 m19 m20 m21 m22 m23 m24 m25 m26 m27 m28 m29 m30 m31) wd_682 wd_683 wd_684 wd_5 wd_685 (by decide +kernel) ⟨Nat.le_of_ble_eq_true rfl, Nat.le_of_ble_eq_true rfl⟩ hK hP hD [0, 1] (by decide) rfl 0 12 rfl rfl rfl rfl hl.1 rfl (Nat.le_of_ble_eq_true rfl) dL_law_301 ⟨Nat.le_of_ble_eq_true rfl, Nat.le_of_ble_eq_true rfl⟩) hP hD hS hA [0, 1] [] rfl rfl (by decide) (by decide) (fun r_3 w_4 H locs hw hP hD hS => ?_)
  obtain ⟨rfl, rfl⟩ := hw
  have hP : va_P (dC, dI) vwCl [] H := hP
  have hD : va_D A [] := hD
  refine lv_icmp_eq (tgt := 933) hx hb dL_law_304 (by decide) (fun _ => ?_) (fun c9 => absurd rfl c9)
  refine lv_iinc (v := 6) (lv' := [(3, .int 6), (2, .ref m0), (1, .ref x0), (0, .ref b)]) hx hb dL_law_933 hl (k := 0) rfl (by decide) (by decide) rfl (fun ls hl => ?_)
  refine lv_goto (tgt := 18) hx hb dL_law_936 (by decide) ?_
  refine lv_iload_n hx hb dL_law_18 rfl (lv_at hl 0 rfl) ?_
  refine lv_aload_n hx hb dL_law_19 rfl (lv_at hl 3 rfl) ?_
  refine va_slen hx hb hX hbl hbA hS dL_law_20 ?_
  refine tk_topi (y := 6) rfl ?_
  refine lv_bipush (v := 6) hx hb dL_law_21 (by decide) ?_
  refine lv_isub hx hb dL_law_23 ?_
  refine tk_topi (y := 0) (by decide) ?_
  refine lv_icmp_gt (tgt := 939) hx hb dL_law_24 (by decide) (fun _ => ?_) (fun c9 => absurd (by decide) c9) 
  refine lv_iconst (v := 1) hx hb dL_law_939 (by decide) ?_
  refine va_forget (fun q hq => by have h9 := hS.2.2 q hq; rw [hAe] at h9; exact h9) ?_
  refine W.widen (k := 600000) (n := 7302250) (Nat.le_of_ble_eq_true rfl) (Nat.le_of_ble_eq_true rfl) ?_
  exact lw_ret hx hb hr hlocks dL_law_940
set_option maxHeartbeats 8000000 in
set_option maxRecDepth 100000 in
theorem law_slack {p : Program} {l : Launch} {e : Env} {s : State} {m : MethodId} {below : List Frame} {meth : Method} {c : Code} {dC : Nat → ClassId} {dI : Nat → Nat → Nat} {cI cL cZ : ClassId} {b : Nat} {xs : Nat → Int32} (C0 : lw_At p s m meth c b 6 xs) (hK : va_K (dC, dI) vwCl (TYS cI cL cZ) s) (hN : nsW s) {A : Nat → Prop} (hA : ∀ q, s.heap.size ≤ q → A q) (hAe : A = fun q : Nat => s.heap.size ≤ q) (x0 m0 x1 x2 x3 x4 x5 x6 x7 x8 x9 x10 x11 x12 x13 x40 x41 x42 x43 x44 x45 m1 m2 m3 m4 m5 m6 m7 m8 m9 m10 m11 m12 m13 m14 m15 m16 m17 m18 m19 m20 m21 m22 m23 m24 m25 m26 m27 m28 m29 m30 m31 : Nat) {H : Heap} {locs : List Loc} (hP : va_P (dC, dI) vwCl [(x0, .inr (11, [.ref x1, .int 0, .ref x2, .ref x3, .ref x4, .ref x5, .ref x6, .ref x7, .int 0, .ref x8, .ref x9, .ref x10, .int 0, .int (-1), .ref x11, .int 0, .ref x12, .ref x13, .int 0])), (x5, .inr (6, [.int 0, .int 1, .ref x40, .ref x41, .ref x42, .int 0, .ref x43, .ref x44, .ref x45])), (m0, .inr (12, [.ref m1, .ref m2, .ref m3, .int 0, .ref m4, .int 0, .int 0, .int 0, .int 0, .int 0, .int (-1), .int 0, .int 0, .int 0, .int 0, .ref m5, .ref m6, .ref m7, .ref m8, .ref m9, .ref m10, .ref m11, .ref m12, .int 0, .int 0, .int 0, .int 0, .int 0, .ref m13, .int 0, .ref m14, .ref m15, .int 0, .int 0, .ref m16, .int 0, .ref m17, .ref m18, .int 0, .int (-1), .ref m19, .ref m20, .ref m21, .int 0, .ref m22, .ref m23, .ref m24, .ref m25, .ref m26, .ref m27, .ref m28, .ref m29, .ref m30, .int 0, .int 0, .ref m31])), (m1, .inl (cI, 1560, .inl w0))] H) (hD : va_D A [(x0, .inr (11, [.ref x1, .int 0, .ref x2, .ref x3, .ref x4, .ref x5, .ref x6, .ref x7, .int 0, .ref x8, .ref x9, .ref x10, .int 0, .int (-1), .ref x11, .int 0, .ref x12, .ref x13, .int 0])), (x5, .inr (6, [.int 0, .int 1, .ref x40, .ref x41, .ref x42, .int 0, .ref x43, .ref x44, .ref x45])), (m0, .inr (12, [.ref m1, .ref m2, .ref m3, .int 0, .ref m4, .int 0, .int 0, .int 0, .int 0, .int 0, .int (-1), .int 0, .int 0, .int 0, .int 0, .ref m5, .ref m6, .ref m7, .ref m8, .ref m9, .ref m10, .ref m11, .ref m12, .int 0, .int 0, .int 0, .int 0, .int 0, .ref m13, .int 0, .ref m14, .ref m15, .int 0, .int 0, .ref m16, .int 0, .ref m17, .ref m18, .int 0, .int (-1), .ref m19, .ref m20, .ref m21, .int 0, .ref m22, .ref m23, .ref m24, .ref m25, .ref m26, .ref m27, .ref m28, .ref m29, .ref m30, .int 0, .int 0, .ref m31])), (m1, .inl (cI, 1560, .inl w0))]) (hS : va_S A s.heap H locs) {ls : Array Slot} (hl : lv_has ls 4 [(3, .int 0), (2, .ref m0), (1, .ref x0), (0, .ref b)]) : W p l e room_1 s m #[Value.ref b] below meth c H locs 559 115398 (lw_Z below #[Value.ref b] s) (F0 m 309 ls []) := by
  obtain ⟨hx, hb, hr, hml, hown0, hts, hX, hbl, hlocks, hgv⟩ := C0
  have hown : s.vm.findClass RL = some m.cls := hown0
  have hU : ∀ w ∈ wsU, w.before #[Value.ref b] s = true := fun w h => hts w (wsU_in w h)
  have hbA : ¬ A b := by rw [hAe]; exact Nat.not_le.mpr hbl
  obtain ⟨s0, es0⟩ : ∃ y : Int32, xs 0 = y := ⟨_, rfl⟩
  obtain ⟨s1, es1⟩ : ∃ y : Int32, xs 1 = y := ⟨_, rfl⟩
  obtain ⟨s2, es2⟩ : ∃ y : Int32, xs 2 = y := ⟨_, rfl⟩
  obtain ⟨s3, es3⟩ : ∃ y : Int32, xs 3 = y := ⟨_, rfl⟩
  obtain ⟨s4, es4⟩ : ∃ y : Int32, xs 4 = y := ⟨_, rfl⟩
  obtain ⟨s5, es5⟩ : ∃ y : Int32, xs 5 = y := ⟨_, rfl⟩
  refine lv_aload_n hx hb dL_law_309 rfl (lv_at hl 2 rfl) ?_
  refine lv_aload_n hx hb dL_law_310 rfl (lv_at hl 3 rfl) ?_
  refine lv_iload_n hx hb dL_law_311 rfl (lv_at hl 0 rfl) ?_
  refine lv_iconst (v := 1) hx hb dL_law_312 (by decide) ?_
  refine lv_iadd hx hb dL_law_313 ?_
  refine tk_topi (y := 1) (by decide) ?_
  refine va_sld hx hb hX hbl hbA hS (vp_in_nI (n := 1) (by decide) (by decide)) dL_law_314 ?_
  refine tk_topi (y := s1) es1 ?_
  refine tk_ri (wr := [(m0, .inr (12, [.ref m1, .ref m2, .ref m3, .int 0, .ref m4, .int 0, .int 0, .int 0, .int 0, .int 0, .int (-1), .int 0, .int 0, .int 0, .int 0, .ref m5, .ref m6, .ref m7, .ref m8, .ref m9, .ref m10, .ref m11, .ref m12, .int 0, .int 0, .int 0, .int 0, .int 0, .ref m13, .int 0, .ref m14, .ref m15, .int 0, .int 0, .ref m16, .int 0, .ref m17, .ref m18, .int 0, .int (-1), .ref m19, .ref m20, .ref m21, .int 0, .ref m22, .ref m23, .ref m24, .ref m25, .ref m26, .ref m27, .ref m28, .ref m29, .ref m30, .int 0, .int 0, .ref m31])), (m1, .inl (cI, 1560, .inl w0))]) (tk_V (As := [.int s1]) (rest := []) (n := 1) hx hb hml hown hU hN (op_X11_slack l (dC, dI) cI cL cZ H.size x0 s1 x1 x2 x3 x4 x5 x6 x7 x8 x9 x10 x11 x12 x13 x40 x41 x42 x43 x44 x45) wd_690 wd_691 wd_692 wd_2 wd_693 (by decide +kernel) ⟨Nat.le_of_ble_eq_true rfl, Nat.le_of_ble_eq_true rfl⟩ hK hP hD [0, 1] (by decide) rfl 0 11 rfl rfl rfl rfl hl.1 rfl (Nat.le_of_ble_eq_true rfl) dL_law_315 ⟨Nat.le_of_ble_eq_true rfl, Nat.le_of_ble_eq_true rfl⟩) hP hD hS hA [0, 1] [2, 3] rfl rfl (by decide) (by decide) (fun r_1 w_2 H locs hw hP hD hS => ?_)
  obtain ⟨rfl, rfl⟩ := hw
  have hP : va_P (dC, dI) vwCl [(m0, .inr (12, [.ref m1, .ref m2, .ref m3, .int 0, .ref m4, .int 0, .int 0, .int 0, .int 0, .int 0, .int (-1), .int 0, .int 0, .int 0, .int 0, .ref m5, .ref m6, .ref m7, .ref m8, .ref m9, .ref m10, .ref m11, .ref m12, .int 0, .int 0, .int 0, .int 0, .int 0, .ref m13, .int 0, .ref m14, .ref m15, .int 0, .int 0, .ref m16, .int 0, .ref m17, .ref m18, .int 0, .int (-1), .ref m19, .ref m20, .ref m21, .int 0, .ref m22, .ref m23, .ref m24, .ref m25, .ref m26, .ref m27, .ref m28, .ref m29, .ref m30, .int 0, .int 0, .ref m31])), (m1, .inl (cI, 1560, .inl w0))] H := hP
  have hD : va_D A [(m0, .inr (12, [.ref m1, .ref m2, .ref m3, .int 0, .ref m4, .int 0, .int 0, .int 0, .int 0, .int 0, .int (-1), .int 0, .int 0, .int 0, .int 0, .ref m5, .ref m6, .ref m7, .ref m8, .ref m9, .ref m10, .ref m11, .ref m12, .int 0, .int 0, .int 0, .int 0, .int 0, .ref m13, .int 0, .ref m14, .ref m15, .int 0, .int 0, .ref m16, .int 0, .ref m17, .ref m18, .int 0, .int (-1), .ref m19, .ref m20, .ref m21, .int 0, .ref m22, .ref m23, .ref m24, .ref m25, .ref m26, .ref m27, .ref m28, .ref m29, .ref m30, .int 0, .int 0, .ref m31])), (m1, .inl (cI, 1560, .inl w0))] := hD
  refine lv_aload_n hx hb dL_law_318 rfl (lv_at hl 1 rfl) ?_
  refine lv_aload_n hx hb dL_law_319 rfl (lv_at hl 3 rfl) ?_
  refine lv_iload_n hx hb dL_law_320 rfl (lv_at hl 0 rfl) ?_
  refine lv_iconst (v := 1) hx hb dL_law_321 (by decide) ?_
  refine lv_iadd hx hb dL_law_322 ?_
  refine tk_topi (y := 1) (by decide) ?_
  refine va_sld hx hb hX hbl hbA hS (vp_in_nI (n := 1) (by decide) (by decide)) dL_law_323 ?_
  refine tk_topi (y := s1) es1 ?_
  refine tk_ri (wr := []) (tk_V (As := [.int s1]) (rest := [.int (an_slack s1)]) (n := 1) hx hb hml hown hU hN (op_X12_slack l (dC, dI) cI cL cZ H.size m0 s1 m1 m2 m3 m4 m5 m6 m7 m8 m9 m10 m11 m12 m13 m14 m15 m16 m17 m18 m19 m20 m21 m22 m23 m24 m25 m26 m27 m28 m29 m30 m31) wd_695 wd_696 wd_697 wd_5 wd_698 (by decide +kernel) ⟨Nat.le_of_ble_eq_true rfl, Nat.le_of_ble_eq_true rfl⟩ hK hP hD [0, 1] (by decide) rfl 0 12 rfl rfl rfl rfl hl.1 rfl (Nat.le_of_ble_eq_true rfl) dL_law_324 ⟨Nat.le_of_ble_eq_true rfl, Nat.le_of_ble_eq_true rfl⟩) hP hD hS hA [0, 1] [] rfl rfl (by decide) (by decide) (fun r_3 w_4 H locs hw hP hD hS => ?_)
  obtain ⟨rfl, rfl⟩ := hw
  have hP : va_P (dC, dI) vwCl [] H := hP
  have hD : va_D A [] := hD
  refine lv_icmp_eq (tgt := 933) hx hb dL_law_327 (by decide) (fun _ => ?_) (fun c9 => absurd rfl c9)
  refine lv_iinc (v := 6) (lv' := [(3, .int 6), (2, .ref m0), (1, .ref x0), (0, .ref b)]) hx hb dL_law_933 hl (k := 0) rfl (by decide) (by decide) rfl (fun ls hl => ?_)
  refine lv_goto (tgt := 18) hx hb dL_law_936 (by decide) ?_
  refine lv_iload_n hx hb dL_law_18 rfl (lv_at hl 0 rfl) ?_
  refine lv_aload_n hx hb dL_law_19 rfl (lv_at hl 3 rfl) ?_
  refine va_slen hx hb hX hbl hbA hS dL_law_20 ?_
  refine tk_topi (y := 6) rfl ?_
  refine lv_bipush (v := 6) hx hb dL_law_21 (by decide) ?_
  refine lv_isub hx hb dL_law_23 ?_
  refine tk_topi (y := 0) (by decide) ?_
  refine lv_icmp_gt (tgt := 939) hx hb dL_law_24 (by decide) (fun _ => ?_) (fun c9 => absurd (by decide) c9) 
  refine lv_iconst (v := 1) hx hb dL_law_939 (by decide) ?_
  refine va_forget (fun q hq => by have h9 := hS.2.2 q hq; rw [hAe] at h9; exact h9) ?_
  refine W.widen (k := 600000) (n := 7302250) (Nat.le_of_ble_eq_true rfl) (Nat.le_of_ble_eq_true rfl) ?_
  exact lw_ret hx hb hr hlocks dL_law_940
set_option maxHeartbeats 8000000 in
set_option maxRecDepth 100000 in
theorem law_say {p : Program} {l : Launch} {e : Env} {s : State} {m : MethodId} {below : List Frame} {meth : Method} {c : Code} {dC : Nat → ClassId} {dI : Nat → Nat → Nat} {cI cL cZ : ClassId} {b : Nat} {xs : Nat → Int32} (C0 : lw_At p s m meth c b 6 xs) (hK : va_K (dC, dI) vwCl (TYS cI cL cZ) s) (hN : nsW s) {A : Nat → Prop} (hA : ∀ q, s.heap.size ≤ q → A q) (hAe : A = fun q : Nat => s.heap.size ≤ q) (x0 m0 x1 x2 x3 x4 x5 x6 x7 x8 x9 x10 x11 x12 x13 x39 m1 m2 m3 m4 m5 m6 m7 m8 m9 m10 m11 m12 m13 m14 m15 m16 m17 m18 m19 m20 m21 m22 m23 m24 m25 m26 m27 m28 m29 m30 m31 : Nat) {H : Heap} {locs : List Loc} (hP : va_P (dC, dI) vwCl [(x0, .inr (11, [.ref x1, .int 0, .ref x2, .ref x3, .ref x4, .ref x5, .ref x6, .ref x7, .int 0, .ref x8, .ref x9, .ref x10, .int 0, .int (-1), .ref x11, .int 0, .ref x12, .ref x13, .int 0])), (x4, .inr (10, [.ref x39, .int 0, .int 0])), (m0, .inr (12, [.ref m1, .ref m2, .ref m3, .int 0, .ref m4, .int 0, .int 0, .int 0, .int 0, .int 0, .int (-1), .int 0, .int 0, .int 0, .int 0, .ref m5, .ref m6, .ref m7, .ref m8, .ref m9, .ref m10, .ref m11, .ref m12, .int 0, .int 0, .int 0, .int 0, .int 0, .ref m13, .int 0, .ref m14, .ref m15, .int 0, .int 0, .ref m16, .int 0, .ref m17, .ref m18, .int 0, .int (-1), .ref m19, .ref m20, .ref m21, .int 0, .ref m22, .ref m23, .ref m24, .ref m25, .ref m26, .ref m27, .ref m28, .ref m29, .ref m30, .int 0, .int 0, .ref m31]))] H) (hD : va_D A [(x0, .inr (11, [.ref x1, .int 0, .ref x2, .ref x3, .ref x4, .ref x5, .ref x6, .ref x7, .int 0, .ref x8, .ref x9, .ref x10, .int 0, .int (-1), .ref x11, .int 0, .ref x12, .ref x13, .int 0])), (x4, .inr (10, [.ref x39, .int 0, .int 0])), (m0, .inr (12, [.ref m1, .ref m2, .ref m3, .int 0, .ref m4, .int 0, .int 0, .int 0, .int 0, .int 0, .int (-1), .int 0, .int 0, .int 0, .int 0, .ref m5, .ref m6, .ref m7, .ref m8, .ref m9, .ref m10, .ref m11, .ref m12, .int 0, .int 0, .int 0, .int 0, .int 0, .ref m13, .int 0, .ref m14, .ref m15, .int 0, .int 0, .ref m16, .int 0, .ref m17, .ref m18, .int 0, .int (-1), .ref m19, .ref m20, .ref m21, .int 0, .ref m22, .ref m23, .ref m24, .ref m25, .ref m26, .ref m27, .ref m28, .ref m29, .ref m30, .int 0, .int 0, .ref m31]))]) (hS : va_S A s.heap H locs) {ls : Array Slot} (hl : lv_has ls 4 [(3, .int 0), (2, .ref m0), (1, .ref x0), (0, .ref b)]) : W p l e room_1 s m #[Value.ref b] below meth c H locs 559 115398 (lw_Z below #[Value.ref b] s) (F0 m 332 ls []) := by
  obtain ⟨hx, hb, hr, hml, hown0, hts, hX, hbl, hlocks, hgv⟩ := C0
  have hown : s.vm.findClass RL = some m.cls := hown0
  have hU : ∀ w ∈ wsU, w.before #[Value.ref b] s = true := fun w h => hts w (wsU_in w h)
  have hbA : ¬ A b := by rw [hAe]; exact Nat.not_le.mpr hbl
  obtain ⟨s0, es0⟩ : ∃ y : Int32, xs 0 = y := ⟨_, rfl⟩
  obtain ⟨s1, es1⟩ : ∃ y : Int32, xs 1 = y := ⟨_, rfl⟩
  obtain ⟨s2, es2⟩ : ∃ y : Int32, xs 2 = y := ⟨_, rfl⟩
  obtain ⟨s3, es3⟩ : ∃ y : Int32, xs 3 = y := ⟨_, rfl⟩
  obtain ⟨s4, es4⟩ : ∃ y : Int32, xs 4 = y := ⟨_, rfl⟩
  obtain ⟨s5, es5⟩ : ∃ y : Int32, xs 5 = y := ⟨_, rfl⟩
  refine lv_aload_n hx hb dL_law_332 rfl (lv_at hl 2 rfl) ?_
  refine tk_ri (wr := [(m0, .inr (12, [.ref m1, .ref m2, .ref m3, .int 0, .ref m4, .int 0, .int 0, .int 0, .int 0, .int 0, .int (-1), .int 0, .int 0, .int 0, .int 0, .ref m5, .ref m6, .ref m7, .ref m8, .ref m9, .ref m10, .ref m11, .ref m12, .int 0, .int 0, .int 0, .int 0, .int 0, .ref m13, .int 0, .ref m14, .ref m15, .int 0, .int 0, .ref m16, .int 0, .ref m17, .ref m18, .int 0, .int (-1), .ref m19, .ref m20, .ref m21, .int 0, .ref m22, .ref m23, .ref m24, .ref m25, .ref m26, .ref m27, .ref m28, .ref m29, .ref m30, .int 0, .int 0, .ref m31]))]) (tk_V (As := []) (rest := []) (n := 0) hx hb hml hown hU hN (op_X11_say l (dC, dI) cI cL cZ H.size x0 x1 x2 x3 x4 x5 x6 x7 x8 x9 x10 x11 x12 x13 x39) wd_699 wd_700 wd_701 wd_2 wd_702 (by decide +kernel) ⟨Nat.le_of_ble_eq_true rfl, Nat.le_of_ble_eq_true rfl⟩ hK hP hD [0, 1] (by decide) rfl 0 11 rfl rfl rfl rfl hl.1 rfl (Nat.le_of_ble_eq_true rfl) dL_law_333 ⟨Nat.le_of_ble_eq_true rfl, Nat.le_of_ble_eq_true rfl⟩) hP hD hS hA [0, 1] [2] rfl rfl (by decide) (by decide) (fun r_1 w_2 H locs hw hP hD hS => ?_)
  obtain ⟨rfl, rfl⟩ := hw
  have hP : va_P (dC, dI) vwCl [(m0, .inr (12, [.ref m1, .ref m2, .ref m3, .int 0, .ref m4, .int 0, .int 0, .int 0, .int 0, .int 0, .int (-1), .int 0, .int 0, .int 0, .int 0, .ref m5, .ref m6, .ref m7, .ref m8, .ref m9, .ref m10, .ref m11, .ref m12, .int 0, .int 0, .int 0, .int 0, .int 0, .ref m13, .int 0, .ref m14, .ref m15, .int 0, .int 0, .ref m16, .int 0, .ref m17, .ref m18, .int 0, .int (-1), .ref m19, .ref m20, .ref m21, .int 0, .ref m22, .ref m23, .ref m24, .ref m25, .ref m26, .ref m27, .ref m28, .ref m29, .ref m30, .int 0, .int 0, .ref m31]))] H := hP
  have hD : va_D A [(m0, .inr (12, [.ref m1, .ref m2, .ref m3, .int 0, .ref m4, .int 0, .int 0, .int 0, .int 0, .int 0, .int (-1), .int 0, .int 0, .int 0, .int 0, .ref m5, .ref m6, .ref m7, .ref m8, .ref m9, .ref m10, .ref m11, .ref m12, .int 0, .int 0, .int 0, .int 0, .int 0, .ref m13, .int 0, .ref m14, .ref m15, .int 0, .int 0, .ref m16, .int 0, .ref m17, .ref m18, .int 0, .int (-1), .ref m19, .ref m20, .ref m21, .int 0, .ref m22, .ref m23, .ref m24, .ref m25, .ref m26, .ref m27, .ref m28, .ref m29, .ref m30, .int 0, .int 0, .ref m31]))] := hD
  refine lv_aload_n hx hb dL_law_336 rfl (lv_at hl 1 rfl) ?_
  refine tk_ri (wr := []) (tk_V (As := []) (rest := [.int (-1)]) (n := 0) hx hb hml hown hU hN (op_X12_say l (dC, dI) cI cL cZ H.size m0 m1 m2 m3 m4 m5 m6 m7 m8 m9 m10 m11 m12 m13 m14 m15 m16 m17 m18 m19 m20 m21 m22 m23 m24 m25 m26 m27 m28 m29 m30 m31) wd_855 wd_856 wd_857 wd_5 wd_858 (by decide +kernel) ⟨Nat.le_of_ble_eq_true rfl, Nat.le_of_ble_eq_true rfl⟩ hK hP hD [0] (by decide) rfl 0 12 rfl rfl rfl rfl hl.1 rfl (Nat.le_of_ble_eq_true rfl) dL_law_337 ⟨Nat.le_of_ble_eq_true rfl, Nat.le_of_ble_eq_true rfl⟩) hP hD hS hA [0] [] rfl rfl (by decide) (by decide) (fun r_3 w_4 H locs hw hP hD hS => ?_)
  obtain ⟨rfl, rfl⟩ := hw
  have hP : va_P (dC, dI) vwCl [] H := hP
  have hD : va_D A [] := hD
  refine lv_icmp_eq (tgt := 933) hx hb dL_law_340 (by decide) (fun _ => ?_) (fun c9 => absurd (by decide) c9) 
  refine lv_iinc (v := 6) (lv' := [(3, .int 6), (2, .ref m0), (1, .ref x0), (0, .ref b)]) hx hb dL_law_933 hl (k := 0) rfl (by decide) (by decide) rfl (fun ls hl => ?_)
  refine lv_goto (tgt := 18) hx hb dL_law_936 (by decide) ?_
  refine lv_iload_n hx hb dL_law_18 rfl (lv_at hl 0 rfl) ?_
  refine lv_aload_n hx hb dL_law_19 rfl (lv_at hl 3 rfl) ?_
  refine va_slen hx hb hX hbl hbA hS dL_law_20 ?_
  refine tk_topi (y := 6) rfl ?_
  refine lv_bipush (v := 6) hx hb dL_law_21 (by decide) ?_
  refine lv_isub hx hb dL_law_23 ?_
  refine tk_topi (y := 0) (by decide) ?_
  refine lv_icmp_gt (tgt := 939) hx hb dL_law_24 (by decide) (fun _ => ?_) (fun c9 => absurd (by decide) c9) 
  refine lv_iconst (v := 1) hx hb dL_law_939 (by decide) ?_
  refine va_forget (fun q hq => by have h9 := hS.2.2 q hq; rw [hAe] at h9; exact h9) ?_
  refine W.widen (k := 600000) (n := 7302250) (Nat.le_of_ble_eq_true rfl) (Nat.le_of_ble_eq_true rfl) ?_
  exact lw_ret hx hb hr hlocks dL_law_940
set_option maxHeartbeats 8000000 in
set_option maxRecDepth 100000 in
theorem law_hear {p : Program} {l : Launch} {e : Env} {s : State} {m : MethodId} {below : List Frame} {meth : Method} {c : Code} {dC : Nat → ClassId} {dI : Nat → Nat → Nat} {cI cL cZ : ClassId} {b : Nat} {xs : Nat → Int32} (C0 : lw_At p s m meth c b 6 xs) (hK : va_K (dC, dI) vwCl (TYS cI cL cZ) s) (hN : nsW s) {A : Nat → Prop} (hA : ∀ q, s.heap.size ≤ q → A q) (hAe : A = fun q : Nat => s.heap.size ≤ q) (x0 m0 x1 x2 x3 x4 x5 x6 x7 x8 x9 x10 x11 x12 x13 x39 m1 m2 m3 m4 m5 m6 m7 m8 m9 m10 m11 m12 m13 m14 m15 m16 m17 m18 m19 m20 m21 m22 m23 m24 m25 m26 m27 m28 m29 m30 m31 : Nat) {H : Heap} {locs : List Loc} (hP : va_P (dC, dI) vwCl [(x0, .inr (11, [.ref x1, .int 0, .ref x2, .ref x3, .ref x4, .ref x5, .ref x6, .ref x7, .int 0, .ref x8, .ref x9, .ref x10, .int 0, .int (-1), .ref x11, .int 0, .ref x12, .ref x13, .int 0])), (x4, .inr (10, [.ref x39, .int 0, .int 0])), (m0, .inr (12, [.ref m1, .ref m2, .ref m3, .int 0, .ref m4, .int 0, .int 0, .int 0, .int 0, .int 0, .int (-1), .int 0, .int 0, .int 0, .int 0, .ref m5, .ref m6, .ref m7, .ref m8, .ref m9, .ref m10, .ref m11, .ref m12, .int 0, .int 0, .int 0, .int 0, .int 0, .ref m13, .int 0, .ref m14, .ref m15, .int 0, .int 0, .ref m16, .int 0, .ref m17, .ref m18, .int 0, .int (-1), .ref m19, .ref m20, .ref m21, .int 0, .ref m22, .ref m23, .ref m24, .ref m25, .ref m26, .ref m27, .ref m28, .ref m29, .ref m30, .int 0, .int 0, .ref m31]))] H) (hD : va_D A [(x0, .inr (11, [.ref x1, .int 0, .ref x2, .ref x3, .ref x4, .ref x5, .ref x6, .ref x7, .int 0, .ref x8, .ref x9, .ref x10, .int 0, .int (-1), .ref x11, .int 0, .ref x12, .ref x13, .int 0])), (x4, .inr (10, [.ref x39, .int 0, .int 0])), (m0, .inr (12, [.ref m1, .ref m2, .ref m3, .int 0, .ref m4, .int 0, .int 0, .int 0, .int 0, .int 0, .int (-1), .int 0, .int 0, .int 0, .int 0, .ref m5, .ref m6, .ref m7, .ref m8, .ref m9, .ref m10, .ref m11, .ref m12, .int 0, .int 0, .int 0, .int 0, .int 0, .ref m13, .int 0, .ref m14, .ref m15, .int 0, .int 0, .ref m16, .int 0, .ref m17, .ref m18, .int 0, .int (-1), .ref m19, .ref m20, .ref m21, .int 0, .ref m22, .ref m23, .ref m24, .ref m25, .ref m26, .ref m27, .ref m28, .ref m29, .ref m30, .int 0, .int 0, .ref m31]))]) (hS : va_S A s.heap H locs) {ls : Array Slot} (hl : lv_has ls 4 [(3, .int 0), (2, .ref m0), (1, .ref x0), (0, .ref b)]) : W p l e room_1 s m #[Value.ref b] below meth c H locs 559 115398 (lw_Z below #[Value.ref b] s) (F0 m 345 ls []) := by
  obtain ⟨hx, hb, hr, hml, hown0, hts, hX, hbl, hlocks, hgv⟩ := C0
  have hown : s.vm.findClass RL = some m.cls := hown0
  have hU : ∀ w ∈ wsU, w.before #[Value.ref b] s = true := fun w h => hts w (wsU_in w h)
  have hbA : ¬ A b := by rw [hAe]; exact Nat.not_le.mpr hbl
  obtain ⟨s0, es0⟩ : ∃ y : Int32, xs 0 = y := ⟨_, rfl⟩
  obtain ⟨s1, es1⟩ : ∃ y : Int32, xs 1 = y := ⟨_, rfl⟩
  obtain ⟨s2, es2⟩ : ∃ y : Int32, xs 2 = y := ⟨_, rfl⟩
  obtain ⟨s3, es3⟩ : ∃ y : Int32, xs 3 = y := ⟨_, rfl⟩
  obtain ⟨s4, es4⟩ : ∃ y : Int32, xs 4 = y := ⟨_, rfl⟩
  obtain ⟨s5, es5⟩ : ∃ y : Int32, xs 5 = y := ⟨_, rfl⟩
  refine lv_aload_n hx hb dL_law_345 rfl (lv_at hl 2 rfl) ?_
  refine tk_ri (wr := [(m0, .inr (12, [.ref m1, .ref m2, .ref m3, .int 0, .ref m4, .int 0, .int 0, .int 0, .int 0, .int 0, .int (-1), .int 0, .int 0, .int 0, .int 0, .ref m5, .ref m6, .ref m7, .ref m8, .ref m9, .ref m10, .ref m11, .ref m12, .int 0, .int 0, .int 0, .int 0, .int 0, .ref m13, .int 0, .ref m14, .ref m15, .int 0, .int 0, .ref m16, .int 0, .ref m17, .ref m18, .int 0, .int (-1), .ref m19, .ref m20, .ref m21, .int 0, .ref m22, .ref m23, .ref m24, .ref m25, .ref m26, .ref m27, .ref m28, .ref m29, .ref m30, .int 0, .int 0, .ref m31]))]) (tk_V (As := []) (rest := []) (n := 0) hx hb hml hown hU hN (op_X11_hear l (dC, dI) cI cL cZ H.size x0 x1 x2 x3 x4 x5 x6 x7 x8 x9 x10 x11 x12 x13 x39) wd_966 wd_967 wd_968 wd_2 wd_969 (by decide +kernel) ⟨Nat.le_of_ble_eq_true rfl, Nat.le_of_ble_eq_true rfl⟩ hK hP hD [0, 1] (by decide) rfl 0 11 rfl rfl rfl rfl hl.1 rfl (Nat.le_of_ble_eq_true rfl) dL_law_346 ⟨Nat.le_of_ble_eq_true rfl, Nat.le_of_ble_eq_true rfl⟩) hP hD hS hA [0, 1] [2] rfl rfl (by decide) (by decide) (fun r_1 w_2 H locs hw hP hD hS => ?_)
  obtain ⟨rfl, rfl⟩ := hw
  have hP : va_P (dC, dI) vwCl [(m0, .inr (12, [.ref m1, .ref m2, .ref m3, .int 0, .ref m4, .int 0, .int 0, .int 0, .int 0, .int 0, .int (-1), .int 0, .int 0, .int 0, .int 0, .ref m5, .ref m6, .ref m7, .ref m8, .ref m9, .ref m10, .ref m11, .ref m12, .int 0, .int 0, .int 0, .int 0, .int 0, .ref m13, .int 0, .ref m14, .ref m15, .int 0, .int 0, .ref m16, .int 0, .ref m17, .ref m18, .int 0, .int (-1), .ref m19, .ref m20, .ref m21, .int 0, .ref m22, .ref m23, .ref m24, .ref m25, .ref m26, .ref m27, .ref m28, .ref m29, .ref m30, .int 0, .int 0, .ref m31]))] H := hP
  have hD : va_D A [(m0, .inr (12, [.ref m1, .ref m2, .ref m3, .int 0, .ref m4, .int 0, .int 0, .int 0, .int 0, .int 0, .int (-1), .int 0, .int 0, .int 0, .int 0, .ref m5, .ref m6, .ref m7, .ref m8, .ref m9, .ref m10, .ref m11, .ref m12, .int 0, .int 0, .int 0, .int 0, .int 0, .ref m13, .int 0, .ref m14, .ref m15, .int 0, .int 0, .ref m16, .int 0, .ref m17, .ref m18, .int 0, .int (-1), .ref m19, .ref m20, .ref m21, .int 0, .ref m22, .ref m23, .ref m24, .ref m25, .ref m26, .ref m27, .ref m28, .ref m29, .ref m30, .int 0, .int 0, .ref m31]))] := hD
  refine lv_aload_n hx hb dL_law_349 rfl (lv_at hl 1 rfl) ?_
  refine tk_ri (wr := []) (tk_V (As := []) (rest := [.int (-1)]) (n := 0) hx hb hml hown hU hN (op_X12_hear l (dC, dI) cI cL cZ H.size m0 m1 m2 m3 m4 m5 m6 m7 m8 m9 m10 m11 m12 m13 m14 m15 m16 m17 m18 m19 m20 m21 m22 m23 m24 m25 m26 m27 m28 m29 m30 m31) wd_970 wd_971 wd_972 wd_5 wd_973 (by decide +kernel) ⟨Nat.le_of_ble_eq_true rfl, Nat.le_of_ble_eq_true rfl⟩ hK hP hD [0] (by decide) rfl 0 12 rfl rfl rfl rfl hl.1 rfl (Nat.le_of_ble_eq_true rfl) dL_law_350 ⟨Nat.le_of_ble_eq_true rfl, Nat.le_of_ble_eq_true rfl⟩) hP hD hS hA [0] [] rfl rfl (by decide) (by decide) (fun r_3 w_4 H locs hw hP hD hS => ?_)
  obtain ⟨rfl, rfl⟩ := hw
  have hP : va_P (dC, dI) vwCl [] H := hP
  have hD : va_D A [] := hD
  refine lv_icmp_eq (tgt := 933) hx hb dL_law_353 (by decide) (fun _ => ?_) (fun c9 => absurd (by decide) c9) 
  refine lv_iinc (v := 6) (lv' := [(3, .int 6), (2, .ref m0), (1, .ref x0), (0, .ref b)]) hx hb dL_law_933 hl (k := 0) rfl (by decide) (by decide) rfl (fun ls hl => ?_)
  refine lv_goto (tgt := 18) hx hb dL_law_936 (by decide) ?_
  refine lv_iload_n hx hb dL_law_18 rfl (lv_at hl 0 rfl) ?_
  refine lv_aload_n hx hb dL_law_19 rfl (lv_at hl 3 rfl) ?_
  refine va_slen hx hb hX hbl hbA hS dL_law_20 ?_
  refine tk_topi (y := 6) rfl ?_
  refine lv_bipush (v := 6) hx hb dL_law_21 (by decide) ?_
  refine lv_isub hx hb dL_law_23 ?_
  refine tk_topi (y := 0) (by decide) ?_
  refine lv_icmp_gt (tgt := 939) hx hb dL_law_24 (by decide) (fun _ => ?_) (fun c9 => absurd (by decide) c9) 
  refine lv_iconst (v := 1) hx hb dL_law_939 (by decide) ?_
  refine va_forget (fun q hq => by have h9 := hS.2.2 q hq; rw [hAe] at h9; exact h9) ?_
  refine W.widen (k := 600000) (n := 7302250) (Nat.le_of_ble_eq_true rfl) (Nat.le_of_ble_eq_true rfl) ?_
  exact lw_ret hx hb hr hlocks dL_law_940
set_option maxHeartbeats 8000000 in
set_option maxRecDepth 100000 in
theorem law_found {p : Program} {l : Launch} {e : Env} {s : State} {m : MethodId} {below : List Frame} {meth : Method} {c : Code} {dC : Nat → ClassId} {dI : Nat → Nat → Nat} {cI cL cZ : ClassId} {b : Nat} {xs : Nat → Int32} (C0 : lw_At p s m meth c b 6 xs) (hK : va_K (dC, dI) vwCl (TYS cI cL cZ) s) (hN : nsW s) {A : Nat → Prop} (hA : ∀ q, s.heap.size ≤ q → A q) (hAe : A = fun q : Nat => s.heap.size ≤ q) (x0 m0 x1 x2 x3 x4 x5 x6 x7 x8 x9 x10 x11 x12 x13 x39 m1 m2 m3 m4 m5 m6 m7 m8 m9 m10 m11 m12 m13 m14 m15 m16 m17 m18 m19 m20 m21 m22 m23 m24 m25 m26 m27 m28 m29 m30 m31 : Nat) {H : Heap} {locs : List Loc} (hP : va_P (dC, dI) vwCl [(x0, .inr (11, [.ref x1, .int 0, .ref x2, .ref x3, .ref x4, .ref x5, .ref x6, .ref x7, .int 0, .ref x8, .ref x9, .ref x10, .int 0, .int (-1), .ref x11, .int 0, .ref x12, .ref x13, .int 0])), (x4, .inr (10, [.ref x39, .int 0, .int 0])), (m0, .inr (12, [.ref m1, .ref m2, .ref m3, .int 0, .ref m4, .int 0, .int 0, .int 0, .int 0, .int 0, .int (-1), .int 0, .int 0, .int 0, .int 0, .ref m5, .ref m6, .ref m7, .ref m8, .ref m9, .ref m10, .ref m11, .ref m12, .int 0, .int 0, .int 0, .int 0, .int 0, .ref m13, .int 0, .ref m14, .ref m15, .int 0, .int 0, .ref m16, .int 0, .ref m17, .ref m18, .int 0, .int (-1), .ref m19, .ref m20, .ref m21, .int 0, .ref m22, .ref m23, .ref m24, .ref m25, .ref m26, .ref m27, .ref m28, .ref m29, .ref m30, .int 0, .int 0, .ref m31]))] H) (hD : va_D A [(x0, .inr (11, [.ref x1, .int 0, .ref x2, .ref x3, .ref x4, .ref x5, .ref x6, .ref x7, .int 0, .ref x8, .ref x9, .ref x10, .int 0, .int (-1), .ref x11, .int 0, .ref x12, .ref x13, .int 0])), (x4, .inr (10, [.ref x39, .int 0, .int 0])), (m0, .inr (12, [.ref m1, .ref m2, .ref m3, .int 0, .ref m4, .int 0, .int 0, .int 0, .int 0, .int 0, .int (-1), .int 0, .int 0, .int 0, .int 0, .ref m5, .ref m6, .ref m7, .ref m8, .ref m9, .ref m10, .ref m11, .ref m12, .int 0, .int 0, .int 0, .int 0, .int 0, .ref m13, .int 0, .ref m14, .ref m15, .int 0, .int 0, .ref m16, .int 0, .ref m17, .ref m18, .int 0, .int (-1), .ref m19, .ref m20, .ref m21, .int 0, .ref m22, .ref m23, .ref m24, .ref m25, .ref m26, .ref m27, .ref m28, .ref m29, .ref m30, .int 0, .int 0, .ref m31]))]) (hS : va_S A s.heap H locs) {ls : Array Slot} (hl : lv_has ls 4 [(3, .int 0), (2, .ref m0), (1, .ref x0), (0, .ref b)]) : W p l e room_1 s m #[Value.ref b] below meth c H locs 559 115398 (lw_Z below #[Value.ref b] s) (F0 m 358 ls []) := by
  obtain ⟨hx, hb, hr, hml, hown0, hts, hX, hbl, hlocks, hgv⟩ := C0
  have hown : s.vm.findClass RL = some m.cls := hown0
  have hU : ∀ w ∈ wsU, w.before #[Value.ref b] s = true := fun w h => hts w (wsU_in w h)
  have hbA : ¬ A b := by rw [hAe]; exact Nat.not_le.mpr hbl
  obtain ⟨s0, es0⟩ : ∃ y : Int32, xs 0 = y := ⟨_, rfl⟩
  obtain ⟨s1, es1⟩ : ∃ y : Int32, xs 1 = y := ⟨_, rfl⟩
  obtain ⟨s2, es2⟩ : ∃ y : Int32, xs 2 = y := ⟨_, rfl⟩
  obtain ⟨s3, es3⟩ : ∃ y : Int32, xs 3 = y := ⟨_, rfl⟩
  obtain ⟨s4, es4⟩ : ∃ y : Int32, xs 4 = y := ⟨_, rfl⟩
  obtain ⟨s5, es5⟩ : ∃ y : Int32, xs 5 = y := ⟨_, rfl⟩
  refine lv_aload_n hx hb dL_law_358 rfl (lv_at hl 2 rfl) ?_
  refine lv_aload_n hx hb dL_law_359 rfl (lv_at hl 3 rfl) ?_
  refine lv_iload_n hx hb dL_law_360 rfl (lv_at hl 0 rfl) ?_
  refine lv_iconst (v := 1) hx hb dL_law_361 (by decide) ?_
  refine lv_iadd hx hb dL_law_362 ?_
  refine tk_topi (y := 1) (by decide) ?_
  refine va_sld hx hb hX hbl hbA hS (vp_in_nI (n := 1) (by decide) (by decide)) dL_law_363 ?_
  refine tk_topi (y := s1) es1 ?_
  refine lv_aload_n hx hb dL_law_364 rfl (lv_at hl 3 rfl) ?_
  refine lv_iload_n hx hb dL_law_365 rfl (lv_at hl 0 rfl) ?_
  refine lv_iconst (v := 2) hx hb dL_law_366 (by decide) ?_
  refine lv_iadd hx hb dL_law_367 ?_
  refine tk_topi (y := 2) (by decide) ?_
  refine va_sld hx hb hX hbl hbA hS (vp_in_nI (n := 2) (by decide) (by decide)) dL_law_368 ?_
  refine tk_topi (y := s2) es2 ?_
  refine tk_ri (wr := [(m0, .inr (12, [.ref m1, .ref m2, .ref m3, .int 0, .ref m4, .int 0, .int 0, .int 0, .int 0, .int 0, .int (-1), .int 0, .int 0, .int 0, .int 0, .ref m5, .ref m6, .ref m7, .ref m8, .ref m9, .ref m10, .ref m11, .ref m12, .int 0, .int 0, .int 0, .int 0, .int 0, .ref m13, .int 0, .ref m14, .ref m15, .int 0, .int 0, .ref m16, .int 0, .ref m17, .ref m18, .int 0, .int (-1), .ref m19, .ref m20, .ref m21, .int 0, .ref m22, .ref m23, .ref m24, .ref m25, .ref m26, .ref m27, .ref m28, .ref m29, .ref m30, .int 0, .int 0, .ref m31]))]) (tk_V (As := [.int s1, .int s2]) (rest := []) (n := 2) hx hb hml hown hU hN (op_X11_found l (dC, dI) cI cL cZ H.size x0 s1 s2 x1 x2 x3 x4 x5 x6 x7 x8 x9 x10 x11 x12 x13 x39) wd_974 wd_975 wd_976 wd_2 wd_977 (by decide +kernel) ⟨Nat.le_of_ble_eq_true rfl, Nat.le_of_ble_eq_true rfl⟩ hK hP hD [0, 1] (by decide) rfl 0 11 rfl rfl rfl rfl hl.1 rfl (Nat.le_of_ble_eq_true rfl) dL_law_369 ⟨Nat.le_of_ble_eq_true rfl, Nat.le_of_ble_eq_true rfl⟩) hP hD hS hA [0, 1] [2] rfl rfl (by decide) (by decide) (fun r_1 w_2 H locs hw hP hD hS => ?_)
  obtain ⟨rfl, rfl⟩ := hw
  have hP : va_P (dC, dI) vwCl [(m0, .inr (12, [.ref m1, .ref m2, .ref m3, .int 0, .ref m4, .int 0, .int 0, .int 0, .int 0, .int 0, .int (-1), .int 0, .int 0, .int 0, .int 0, .ref m5, .ref m6, .ref m7, .ref m8, .ref m9, .ref m10, .ref m11, .ref m12, .int 0, .int 0, .int 0, .int 0, .int 0, .ref m13, .int 0, .ref m14, .ref m15, .int 0, .int 0, .ref m16, .int 0, .ref m17, .ref m18, .int 0, .int (-1), .ref m19, .ref m20, .ref m21, .int 0, .ref m22, .ref m23, .ref m24, .ref m25, .ref m26, .ref m27, .ref m28, .ref m29, .ref m30, .int 0, .int 0, .ref m31]))] H := hP
  have hD : va_D A [(m0, .inr (12, [.ref m1, .ref m2, .ref m3, .int 0, .ref m4, .int 0, .int 0, .int 0, .int 0, .int 0, .int (-1), .int 0, .int 0, .int 0, .int 0, .ref m5, .ref m6, .ref m7, .ref m8, .ref m9, .ref m10, .ref m11, .ref m12, .int 0, .int 0, .int 0, .int 0, .int 0, .ref m13, .int 0, .ref m14, .ref m15, .int 0, .int 0, .ref m16, .int 0, .ref m17, .ref m18, .int 0, .int (-1), .ref m19, .ref m20, .ref m21, .int 0, .ref m22, .ref m23, .ref m24, .ref m25, .ref m26, .ref m27, .ref m28, .ref m29, .ref m30, .int 0, .int 0, .ref m31]))] := hD
  refine lv_aload_n hx hb dL_law_372 rfl (lv_at hl 1 rfl) ?_
  refine lv_aload_n hx hb dL_law_373 rfl (lv_at hl 3 rfl) ?_
  refine lv_iload_n hx hb dL_law_374 rfl (lv_at hl 0 rfl) ?_
  refine lv_iconst (v := 1) hx hb dL_law_375 (by decide) ?_
  refine lv_iadd hx hb dL_law_376 ?_
  refine tk_topi (y := 1) (by decide) ?_
  refine va_sld hx hb hX hbl hbA hS (vp_in_nI (n := 1) (by decide) (by decide)) dL_law_377 ?_
  refine tk_topi (y := s1) es1 ?_
  refine lv_aload_n hx hb dL_law_378 rfl (lv_at hl 3 rfl) ?_
  refine lv_iload_n hx hb dL_law_379 rfl (lv_at hl 0 rfl) ?_
  refine lv_iconst (v := 2) hx hb dL_law_380 (by decide) ?_
  refine lv_iadd hx hb dL_law_381 ?_
  refine tk_topi (y := 2) (by decide) ?_
  refine va_sld hx hb hX hbl hbA hS (vp_in_nI (n := 2) (by decide) (by decide)) dL_law_382 ?_
  refine tk_topi (y := s2) es2 ?_
  refine tk_ri (wr := []) (tk_V (As := [.int s1, .int s2]) (rest := [.int (-1)]) (n := 2) hx hb hml hown hU hN (op_X12_found l (dC, dI) cI cL cZ H.size m0 s1 s2 m1 m2 m3 m4 m5 m6 m7 m8 m9 m10 m11 m12 m13 m14 m15 m16 m17 m18 m19 m20 m21 m22 m23 m24 m25 m26 m27 m28 m29 m30 m31) wd_991 wd_992 wd_993 wd_5 wd_994 (by decide +kernel) ⟨Nat.le_of_ble_eq_true rfl, Nat.le_of_ble_eq_true rfl⟩ hK hP hD [0] (by decide) rfl 0 12 rfl rfl rfl rfl hl.1 rfl (Nat.le_of_ble_eq_true rfl) dL_law_383 ⟨Nat.le_of_ble_eq_true rfl, Nat.le_of_ble_eq_true rfl⟩) hP hD hS hA [0] [] rfl rfl (by decide) (by decide) (fun r_3 w_4 H locs hw hP hD hS => ?_)
  obtain ⟨rfl, rfl⟩ := hw
  have hP : va_P (dC, dI) vwCl [] H := hP
  have hD : va_D A [] := hD
  refine lv_icmp_eq (tgt := 933) hx hb dL_law_386 (by decide) (fun _ => ?_) (fun c9 => absurd (by decide) c9) 
  refine lv_iinc (v := 6) (lv' := [(3, .int 6), (2, .ref m0), (1, .ref x0), (0, .ref b)]) hx hb dL_law_933 hl (k := 0) rfl (by decide) (by decide) rfl (fun ls hl => ?_)
  refine lv_goto (tgt := 18) hx hb dL_law_936 (by decide) ?_
  refine lv_iload_n hx hb dL_law_18 rfl (lv_at hl 0 rfl) ?_
  refine lv_aload_n hx hb dL_law_19 rfl (lv_at hl 3 rfl) ?_
  refine va_slen hx hb hX hbl hbA hS dL_law_20 ?_
  refine tk_topi (y := 6) rfl ?_
  refine lv_bipush (v := 6) hx hb dL_law_21 (by decide) ?_
  refine lv_isub hx hb dL_law_23 ?_
  refine tk_topi (y := 0) (by decide) ?_
  refine lv_icmp_gt (tgt := 939) hx hb dL_law_24 (by decide) (fun _ => ?_) (fun c9 => absurd (by decide) c9) 
  refine lv_iconst (v := 1) hx hb dL_law_939 (by decide) ?_
  refine va_forget (fun q hq => by have h9 := hS.2.2 q hq; rw [hAe] at h9; exact h9) ?_
  refine W.widen (k := 600000) (n := 7302250) (Nat.le_of_ble_eq_true rfl) (Nat.le_of_ble_eq_true rfl) ?_
  exact lw_ret hx hb hr hlocks dL_law_940
set_option maxHeartbeats 8000000 in
set_option maxRecDepth 100000 in
theorem law_understand {p : Program} {l : Launch} {e : Env} {s : State} {m : MethodId} {below : List Frame} {meth : Method} {c : Code} {dC : Nat → ClassId} {dI : Nat → Nat → Nat} {cI cL cZ : ClassId} {b : Nat} {xs : Nat → Int32} (C0 : lw_At p s m meth c b 6 xs) (hK : va_K (dC, dI) vwCl (TYS cI cL cZ) s) (hN : nsW s) {A : Nat → Prop} (hA : ∀ q, s.heap.size ≤ q → A q) (hAe : A = fun q : Nat => s.heap.size ≤ q) (x0 m0 x1 x2 x3 x4 x5 x6 x7 x8 x9 x10 x11 x12 x13 m1 m2 m3 m4 m5 m6 m7 m8 m9 m10 m11 m12 m13 m14 m15 m16 m17 m18 m19 m20 m21 m22 m23 m24 m25 m26 m27 m28 m29 m30 m31 : Nat) {H : Heap} {locs : List Loc} (hP : va_P (dC, dI) vwCl [(x0, .inr (11, [.ref x1, .int 0, .ref x2, .ref x3, .ref x4, .ref x5, .ref x6, .ref x7, .int 0, .ref x8, .ref x9, .ref x10, .int 0, .int (-1), .ref x11, .int 0, .ref x12, .ref x13, .int 0])), (m0, .inr (12, [.ref m1, .ref m2, .ref m3, .int 0, .ref m4, .int 0, .int 0, .int 0, .int 0, .int 0, .int (-1), .int 0, .int 0, .int 0, .int 0, .ref m5, .ref m6, .ref m7, .ref m8, .ref m9, .ref m10, .ref m11, .ref m12, .int 0, .int 0, .int 0, .int 0, .int 0, .ref m13, .int 0, .ref m14, .ref m15, .int 0, .int 0, .ref m16, .int 0, .ref m17, .ref m18, .int 0, .int (-1), .ref m19, .ref m20, .ref m21, .int 0, .ref m22, .ref m23, .ref m24, .ref m25, .ref m26, .ref m27, .ref m28, .ref m29, .ref m30, .int 0, .int 0, .ref m31]))] H) (hD : va_D A [(x0, .inr (11, [.ref x1, .int 0, .ref x2, .ref x3, .ref x4, .ref x5, .ref x6, .ref x7, .int 0, .ref x8, .ref x9, .ref x10, .int 0, .int (-1), .ref x11, .int 0, .ref x12, .ref x13, .int 0])), (m0, .inr (12, [.ref m1, .ref m2, .ref m3, .int 0, .ref m4, .int 0, .int 0, .int 0, .int 0, .int 0, .int (-1), .int 0, .int 0, .int 0, .int 0, .ref m5, .ref m6, .ref m7, .ref m8, .ref m9, .ref m10, .ref m11, .ref m12, .int 0, .int 0, .int 0, .int 0, .int 0, .ref m13, .int 0, .ref m14, .ref m15, .int 0, .int 0, .ref m16, .int 0, .ref m17, .ref m18, .int 0, .int (-1), .ref m19, .ref m20, .ref m21, .int 0, .ref m22, .ref m23, .ref m24, .ref m25, .ref m26, .ref m27, .ref m28, .ref m29, .ref m30, .int 0, .int 0, .ref m31]))]) (hS : va_S A s.heap H locs) {ls : Array Slot} (hl : lv_has ls 4 [(3, .int 0), (2, .ref m0), (1, .ref x0), (0, .ref b)]) : W p l e room_1 s m #[Value.ref b] below meth c H locs 559 115398 (lw_Z below #[Value.ref b] s) (F0 m 391 ls []) := by
  obtain ⟨hx, hb, hr, hml, hown0, hts, hX, hbl, hlocks, hgv⟩ := C0
  have hown : s.vm.findClass RL = some m.cls := hown0
  have hU : ∀ w ∈ wsU, w.before #[Value.ref b] s = true := fun w h => hts w (wsU_in w h)
  have hbA : ¬ A b := by rw [hAe]; exact Nat.not_le.mpr hbl
  obtain ⟨s0, es0⟩ : ∃ y : Int32, xs 0 = y := ⟨_, rfl⟩
  obtain ⟨s1, es1⟩ : ∃ y : Int32, xs 1 = y := ⟨_, rfl⟩
  obtain ⟨s2, es2⟩ : ∃ y : Int32, xs 2 = y := ⟨_, rfl⟩
  obtain ⟨s3, es3⟩ : ∃ y : Int32, xs 3 = y := ⟨_, rfl⟩
  obtain ⟨s4, es4⟩ : ∃ y : Int32, xs 4 = y := ⟨_, rfl⟩
  obtain ⟨s5, es5⟩ : ∃ y : Int32, xs 5 = y := ⟨_, rfl⟩
  refine lv_aload_n hx hb dL_law_391 rfl (lv_at hl 2 rfl) ?_
  refine tk_ri (wr := [(m0, .inr (12, [.ref m1, .ref m2, .ref m3, .int 0, .ref m4, .int 0, .int 0, .int 0, .int 0, .int 0, .int (-1), .int 0, .int 0, .int 0, .int 0, .ref m5, .ref m6, .ref m7, .ref m8, .ref m9, .ref m10, .ref m11, .ref m12, .int 0, .int 0, .int 0, .int 0, .int 0, .ref m13, .int 0, .ref m14, .ref m15, .int 0, .int 0, .ref m16, .int 0, .ref m17, .ref m18, .int 0, .int (-1), .ref m19, .ref m20, .ref m21, .int 0, .ref m22, .ref m23, .ref m24, .ref m25, .ref m26, .ref m27, .ref m28, .ref m29, .ref m30, .int 0, .int 0, .ref m31]))]) (tk_V (As := []) (rest := []) (n := 0) hx hb hml hown hU hN (op_X11_understand l (dC, dI) cI cL cZ H.size x0 x1 x2 x3 x4 x5 x6 x7 x8 x9 x10 x11 x12 x13) wd_995 wd_996 wd_997 wd_2 wd_998 (by decide +kernel) ⟨Nat.le_of_ble_eq_true rfl, Nat.le_of_ble_eq_true rfl⟩ hK hP hD [0] (by decide) rfl 0 11 rfl rfl rfl rfl hl.1 rfl (Nat.le_of_ble_eq_true rfl) dL_law_392 ⟨Nat.le_of_ble_eq_true rfl, Nat.le_of_ble_eq_true rfl⟩) hP hD hS hA [0] [1] rfl rfl (by decide) (by decide) (fun r_1 w_2 H locs hw hP hD hS => ?_)
  obtain ⟨rfl, rfl⟩ := hw
  have hP : va_P (dC, dI) vwCl [(m0, .inr (12, [.ref m1, .ref m2, .ref m3, .int 0, .ref m4, .int 0, .int 0, .int 0, .int 0, .int 0, .int (-1), .int 0, .int 0, .int 0, .int 0, .ref m5, .ref m6, .ref m7, .ref m8, .ref m9, .ref m10, .ref m11, .ref m12, .int 0, .int 0, .int 0, .int 0, .int 0, .ref m13, .int 0, .ref m14, .ref m15, .int 0, .int 0, .ref m16, .int 0, .ref m17, .ref m18, .int 0, .int (-1), .ref m19, .ref m20, .ref m21, .int 0, .ref m22, .ref m23, .ref m24, .ref m25, .ref m26, .ref m27, .ref m28, .ref m29, .ref m30, .int 0, .int 0, .ref m31]))] H := hP
  have hD : va_D A [(m0, .inr (12, [.ref m1, .ref m2, .ref m3, .int 0, .ref m4, .int 0, .int 0, .int 0, .int 0, .int 0, .int (-1), .int 0, .int 0, .int 0, .int 0, .ref m5, .ref m6, .ref m7, .ref m8, .ref m9, .ref m10, .ref m11, .ref m12, .int 0, .int 0, .int 0, .int 0, .int 0, .ref m13, .int 0, .ref m14, .ref m15, .int 0, .int 0, .ref m16, .int 0, .ref m17, .ref m18, .int 0, .int (-1), .ref m19, .ref m20, .ref m21, .int 0, .ref m22, .ref m23, .ref m24, .ref m25, .ref m26, .ref m27, .ref m28, .ref m29, .ref m30, .int 0, .int 0, .ref m31]))] := hD
  refine lv_aload_n hx hb dL_law_395 rfl (lv_at hl 1 rfl) ?_
  refine tk_ri (wr := []) (tk_V (As := []) (rest := [.int (-1)]) (n := 0) hx hb hml hown hU hN (op_X12_understand l (dC, dI) cI cL cZ H.size m0 m1 m2 m3 m4 m5 m6 m7 m8 m9 m10 m11 m12 m13 m14 m15 m16 m17 m18 m19 m20 m21 m22 m23 m24 m25 m26 m27 m28 m29 m30 m31) wd_1045 wd_1046 wd_1047 wd_5 wd_1048 (by decide +kernel) ⟨Nat.le_of_ble_eq_true rfl, Nat.le_of_ble_eq_true rfl⟩ hK hP hD [0] (by decide) rfl 0 12 rfl rfl rfl rfl hl.1 rfl (Nat.le_of_ble_eq_true rfl) dL_law_396 ⟨Nat.le_of_ble_eq_true rfl, Nat.le_of_ble_eq_true rfl⟩) hP hD hS hA [0] [] rfl rfl (by decide) (by decide) (fun r_3 w_4 H locs hw hP hD hS => ?_)
  obtain ⟨rfl, rfl⟩ := hw
  have hP : va_P (dC, dI) vwCl [] H := hP
  have hD : va_D A [] := hD
  refine lv_icmp_eq (tgt := 933) hx hb dL_law_399 (by decide) (fun _ => ?_) (fun c9 => absurd (by decide) c9) 
  refine lv_iinc (v := 6) (lv' := [(3, .int 6), (2, .ref m0), (1, .ref x0), (0, .ref b)]) hx hb dL_law_933 hl (k := 0) rfl (by decide) (by decide) rfl (fun ls hl => ?_)
  refine lv_goto (tgt := 18) hx hb dL_law_936 (by decide) ?_
  refine lv_iload_n hx hb dL_law_18 rfl (lv_at hl 0 rfl) ?_
  refine lv_aload_n hx hb dL_law_19 rfl (lv_at hl 3 rfl) ?_
  refine va_slen hx hb hX hbl hbA hS dL_law_20 ?_
  refine tk_topi (y := 6) rfl ?_
  refine lv_bipush (v := 6) hx hb dL_law_21 (by decide) ?_
  refine lv_isub hx hb dL_law_23 ?_
  refine tk_topi (y := 0) (by decide) ?_
  refine lv_icmp_gt (tgt := 939) hx hb dL_law_24 (by decide) (fun _ => ?_) (fun c9 => absurd (by decide) c9) 
  refine lv_iconst (v := 1) hx hb dL_law_939 (by decide) ?_
  refine va_forget (fun q hq => by have h9 := hS.2.2 q hq; rw [hAe] at h9; exact h9) ?_
  refine W.widen (k := 600000) (n := 7302250) (Nat.le_of_ble_eq_true rfl) (Nat.le_of_ble_eq_true rfl) ?_
  exact lw_ret hx hb hr hlocks dL_law_940
set_option maxHeartbeats 8000000 in
set_option maxRecDepth 100000 in
theorem law_meant {p : Program} {l : Launch} {e : Env} {s : State} {m : MethodId} {below : List Frame} {meth : Method} {c : Code} {dC : Nat → ClassId} {dI : Nat → Nat → Nat} {cI cL cZ : ClassId} {b : Nat} {xs : Nat → Int32} (C0 : lw_At p s m meth c b 6 xs) (hK : va_K (dC, dI) vwCl (TYS cI cL cZ) s) (hN : nsW s) {A : Nat → Prop} (hA : ∀ q, s.heap.size ≤ q → A q) (hAe : A = fun q : Nat => s.heap.size ≤ q) (x0 m0 x1 x2 x3 x4 x5 x6 x7 x8 x9 x10 x11 x12 x13 m1 m2 m3 m4 m5 m6 m7 m8 m9 m10 m11 m12 m13 m14 m15 m16 m17 m18 m19 m20 m21 m22 m23 m24 m25 m26 m27 m28 m29 m30 m31 : Nat) {H : Heap} {locs : List Loc} (hP : va_P (dC, dI) vwCl [(x0, .inr (11, [.ref x1, .int 0, .ref x2, .ref x3, .ref x4, .ref x5, .ref x6, .ref x7, .int 0, .ref x8, .ref x9, .ref x10, .int 0, .int (-1), .ref x11, .int 0, .ref x12, .ref x13, .int 0])), (m0, .inr (12, [.ref m1, .ref m2, .ref m3, .int 0, .ref m4, .int 0, .int 0, .int 0, .int 0, .int 0, .int (-1), .int 0, .int 0, .int 0, .int 0, .ref m5, .ref m6, .ref m7, .ref m8, .ref m9, .ref m10, .ref m11, .ref m12, .int 0, .int 0, .int 0, .int 0, .int 0, .ref m13, .int 0, .ref m14, .ref m15, .int 0, .int 0, .ref m16, .int 0, .ref m17, .ref m18, .int 0, .int (-1), .ref m19, .ref m20, .ref m21, .int 0, .ref m22, .ref m23, .ref m24, .ref m25, .ref m26, .ref m27, .ref m28, .ref m29, .ref m30, .int 0, .int 0, .ref m31]))] H) (hD : va_D A [(x0, .inr (11, [.ref x1, .int 0, .ref x2, .ref x3, .ref x4, .ref x5, .ref x6, .ref x7, .int 0, .ref x8, .ref x9, .ref x10, .int 0, .int (-1), .ref x11, .int 0, .ref x12, .ref x13, .int 0])), (m0, .inr (12, [.ref m1, .ref m2, .ref m3, .int 0, .ref m4, .int 0, .int 0, .int 0, .int 0, .int 0, .int (-1), .int 0, .int 0, .int 0, .int 0, .ref m5, .ref m6, .ref m7, .ref m8, .ref m9, .ref m10, .ref m11, .ref m12, .int 0, .int 0, .int 0, .int 0, .int 0, .ref m13, .int 0, .ref m14, .ref m15, .int 0, .int 0, .ref m16, .int 0, .ref m17, .ref m18, .int 0, .int (-1), .ref m19, .ref m20, .ref m21, .int 0, .ref m22, .ref m23, .ref m24, .ref m25, .ref m26, .ref m27, .ref m28, .ref m29, .ref m30, .int 0, .int 0, .ref m31]))]) (hS : va_S A s.heap H locs) {ls : Array Slot} (hl : lv_has ls 4 [(3, .int 0), (2, .ref m0), (1, .ref x0), (0, .ref b)]) : W p l e room_1 s m #[Value.ref b] below meth c H locs 559 115398 (lw_Z below #[Value.ref b] s) (F0 m 404 ls []) := by
  obtain ⟨hx, hb, hr, hml, hown0, hts, hX, hbl, hlocks, hgv⟩ := C0
  have hown : s.vm.findClass RL = some m.cls := hown0
  have hU : ∀ w ∈ wsU, w.before #[Value.ref b] s = true := fun w h => hts w (wsU_in w h)
  have hbA : ¬ A b := by rw [hAe]; exact Nat.not_le.mpr hbl
  obtain ⟨s0, es0⟩ : ∃ y : Int32, xs 0 = y := ⟨_, rfl⟩
  obtain ⟨s1, es1⟩ : ∃ y : Int32, xs 1 = y := ⟨_, rfl⟩
  obtain ⟨s2, es2⟩ : ∃ y : Int32, xs 2 = y := ⟨_, rfl⟩
  obtain ⟨s3, es3⟩ : ∃ y : Int32, xs 3 = y := ⟨_, rfl⟩
  obtain ⟨s4, es4⟩ : ∃ y : Int32, xs 4 = y := ⟨_, rfl⟩
  obtain ⟨s5, es5⟩ : ∃ y : Int32, xs 5 = y := ⟨_, rfl⟩
  refine lv_aload_n hx hb dL_law_404 rfl (lv_at hl 2 rfl) ?_
  refine lv_aload_n hx hb dL_law_405 rfl (lv_at hl 3 rfl) ?_
  refine lv_iload_n hx hb dL_law_406 rfl (lv_at hl 0 rfl) ?_
  refine lv_iconst (v := 1) hx hb dL_law_407 (by decide) ?_
  refine lv_iadd hx hb dL_law_408 ?_
  refine tk_topi (y := 1) (by decide) ?_
  refine va_sld hx hb hX hbl hbA hS (vp_in_nI (n := 1) (by decide) (by decide)) dL_law_409 ?_
  refine tk_topi (y := s1) es1 ?_
  refine lv_aload_n hx hb dL_law_410 rfl (lv_at hl 3 rfl) ?_
  refine lv_iload_n hx hb dL_law_411 rfl (lv_at hl 0 rfl) ?_
  refine lv_iconst (v := 2) hx hb dL_law_412 (by decide) ?_
  refine lv_iadd hx hb dL_law_413 ?_
  refine tk_topi (y := 2) (by decide) ?_
  refine va_sld hx hb hX hbl hbA hS (vp_in_nI (n := 2) (by decide) (by decide)) dL_law_414 ?_
  refine tk_topi (y := s2) es2 ?_
  refine tk_ri (wr := [(m0, .inr (12, [.ref m1, .ref m2, .ref m3, .int 0, .ref m4, .int 0, .int 0, .int 0, .int 0, .int 0, .int (-1), .int 0, .int 0, .int 0, .int 0, .ref m5, .ref m6, .ref m7, .ref m8, .ref m9, .ref m10, .ref m11, .ref m12, .int 0, .int 0, .int 0, .int 0, .int 0, .ref m13, .int 0, .ref m14, .ref m15, .int 0, .int 0, .ref m16, .int 0, .ref m17, .ref m18, .int 0, .int (-1), .ref m19, .ref m20, .ref m21, .int 0, .ref m22, .ref m23, .ref m24, .ref m25, .ref m26, .ref m27, .ref m28, .ref m29, .ref m30, .int 0, .int 0, .ref m31]))]) (tk_V (As := [.int s1, .int s2]) (rest := []) (n := 2) hx hb hml hown hU hN (op_X11_meant l (dC, dI) cI cL cZ H.size x0 s1 s2 x1 x2 x3 x4 x5 x6 x7 x8 x9 x10 x11 x12 x13) wd_1058 wd_1059 wd_1060 wd_2 wd_1061 (by decide +kernel) ⟨Nat.le_of_ble_eq_true rfl, Nat.le_of_ble_eq_true rfl⟩ hK hP hD [0] (by decide) rfl 0 11 rfl rfl rfl rfl hl.1 rfl (Nat.le_of_ble_eq_true rfl) dL_law_415 ⟨Nat.le_of_ble_eq_true rfl, Nat.le_of_ble_eq_true rfl⟩) hP hD hS hA [0] [1] rfl rfl (by decide) (by decide) (fun r_1 w_2 H locs hw hP hD hS => ?_)
  obtain ⟨rfl, rfl⟩ := hw
  have hP : va_P (dC, dI) vwCl [(m0, .inr (12, [.ref m1, .ref m2, .ref m3, .int 0, .ref m4, .int 0, .int 0, .int 0, .int 0, .int 0, .int (-1), .int 0, .int 0, .int 0, .int 0, .ref m5, .ref m6, .ref m7, .ref m8, .ref m9, .ref m10, .ref m11, .ref m12, .int 0, .int 0, .int 0, .int 0, .int 0, .ref m13, .int 0, .ref m14, .ref m15, .int 0, .int 0, .ref m16, .int 0, .ref m17, .ref m18, .int 0, .int (-1), .ref m19, .ref m20, .ref m21, .int 0, .ref m22, .ref m23, .ref m24, .ref m25, .ref m26, .ref m27, .ref m28, .ref m29, .ref m30, .int 0, .int 0, .ref m31]))] H := hP
  have hD : va_D A [(m0, .inr (12, [.ref m1, .ref m2, .ref m3, .int 0, .ref m4, .int 0, .int 0, .int 0, .int 0, .int 0, .int (-1), .int 0, .int 0, .int 0, .int 0, .ref m5, .ref m6, .ref m7, .ref m8, .ref m9, .ref m10, .ref m11, .ref m12, .int 0, .int 0, .int 0, .int 0, .int 0, .ref m13, .int 0, .ref m14, .ref m15, .int 0, .int 0, .ref m16, .int 0, .ref m17, .ref m18, .int 0, .int (-1), .ref m19, .ref m20, .ref m21, .int 0, .ref m22, .ref m23, .ref m24, .ref m25, .ref m26, .ref m27, .ref m28, .ref m29, .ref m30, .int 0, .int 0, .ref m31]))] := hD
  refine lv_aload_n hx hb dL_law_418 rfl (lv_at hl 1 rfl) ?_
  refine lv_aload_n hx hb dL_law_419 rfl (lv_at hl 3 rfl) ?_
  refine lv_iload_n hx hb dL_law_420 rfl (lv_at hl 0 rfl) ?_
  refine lv_iconst (v := 1) hx hb dL_law_421 (by decide) ?_
  refine lv_iadd hx hb dL_law_422 ?_
  refine tk_topi (y := 1) (by decide) ?_
  refine va_sld hx hb hX hbl hbA hS (vp_in_nI (n := 1) (by decide) (by decide)) dL_law_423 ?_
  refine tk_topi (y := s1) es1 ?_
  refine lv_aload_n hx hb dL_law_424 rfl (lv_at hl 3 rfl) ?_
  refine lv_iload_n hx hb dL_law_425 rfl (lv_at hl 0 rfl) ?_
  refine lv_iconst (v := 2) hx hb dL_law_426 (by decide) ?_
  refine lv_iadd hx hb dL_law_427 ?_
  refine tk_topi (y := 2) (by decide) ?_
  refine va_sld hx hb hX hbl hbA hS (vp_in_nI (n := 2) (by decide) (by decide)) dL_law_428 ?_
  refine tk_topi (y := s2) es2 ?_
  refine tk_ri (wr := []) (tk_V (As := [.int s1, .int s2]) (rest := [.int (-1)]) (n := 2) hx hb hml hown hU hN (op_X12_meant l (dC, dI) cI cL cZ H.size m0 s1 s2 m1 m2 m3 m4 m5 m6 m7 m8 m9 m10 m11 m12 m13 m14 m15 m16 m17 m18 m19 m20 m21 m22 m23 m24 m25 m26 m27 m28 m29 m30 m31) wd_1062 wd_1063 wd_1064 wd_5 wd_1065 (by decide +kernel) ⟨Nat.le_of_ble_eq_true rfl, Nat.le_of_ble_eq_true rfl⟩ hK hP hD [0] (by decide) rfl 0 12 rfl rfl rfl rfl hl.1 rfl (Nat.le_of_ble_eq_true rfl) dL_law_429 ⟨Nat.le_of_ble_eq_true rfl, Nat.le_of_ble_eq_true rfl⟩) hP hD hS hA [0] [] rfl rfl (by decide) (by decide) (fun r_3 w_4 H locs hw hP hD hS => ?_)
  obtain ⟨rfl, rfl⟩ := hw
  have hP : va_P (dC, dI) vwCl [] H := hP
  have hD : va_D A [] := hD
  refine lv_icmp_eq (tgt := 933) hx hb dL_law_432 (by decide) (fun _ => ?_) (fun c9 => absurd (by decide) c9) 
  refine lv_iinc (v := 6) (lv' := [(3, .int 6), (2, .ref m0), (1, .ref x0), (0, .ref b)]) hx hb dL_law_933 hl (k := 0) rfl (by decide) (by decide) rfl (fun ls hl => ?_)
  refine lv_goto (tgt := 18) hx hb dL_law_936 (by decide) ?_
  refine lv_iload_n hx hb dL_law_18 rfl (lv_at hl 0 rfl) ?_
  refine lv_aload_n hx hb dL_law_19 rfl (lv_at hl 3 rfl) ?_
  refine va_slen hx hb hX hbl hbA hS dL_law_20 ?_
  refine tk_topi (y := 6) rfl ?_
  refine lv_bipush (v := 6) hx hb dL_law_21 (by decide) ?_
  refine lv_isub hx hb dL_law_23 ?_
  refine tk_topi (y := 0) (by decide) ?_
  refine lv_icmp_gt (tgt := 939) hx hb dL_law_24 (by decide) (fun _ => ?_) (fun c9 => absurd (by decide) c9) 
  refine lv_iconst (v := 1) hx hb dL_law_939 (by decide) ?_
  refine va_forget (fun q hq => by have h9 := hS.2.2 q hq; rw [hAe] at h9; exact h9) ?_
  refine W.widen (k := 600000) (n := 7302250) (Nat.le_of_ble_eq_true rfl) (Nat.le_of_ble_eq_true rfl) ?_
  exact lw_ret hx hb hr hlocks dL_law_940
set_option maxHeartbeats 8000000 in
set_option maxRecDepth 100000 in
theorem law_walk {p : Program} {l : Launch} {e : Env} {s : State} {m : MethodId} {below : List Frame} {meth : Method} {c : Code} {dC : Nat → ClassId} {dI : Nat → Nat → Nat} {cI cL cZ : ClassId} {b : Nat} {xs : Nat → Int32} (C0 : lw_At p s m meth c b 6 xs) (hK : va_K (dC, dI) vwCl (TYS cI cL cZ) s) (hN : nsW s) {A : Nat → Prop} (hA : ∀ q, s.heap.size ≤ q → A q) (hAe : A = fun q : Nat => s.heap.size ≤ q) (x0 m0 x1 x2 x3 x4 x5 x6 x7 x8 x9 x10 x11 x12 x13 m1 m2 m3 m4 m5 m6 m7 m8 m9 m10 m11 m12 m13 m14 m15 m16 m17 m18 m19 m20 m21 m22 m23 m24 m25 m26 m27 m28 m29 m30 m31 : Nat) {H : Heap} {locs : List Loc} (hP : va_P (dC, dI) vwCl [(x0, .inr (11, [.ref x1, .int 0, .ref x2, .ref x3, .ref x4, .ref x5, .ref x6, .ref x7, .int 0, .ref x8, .ref x9, .ref x10, .int 0, .int (-1), .ref x11, .int 0, .ref x12, .ref x13, .int 0])), (m0, .inr (12, [.ref m1, .ref m2, .ref m3, .int 0, .ref m4, .int 0, .int 0, .int 0, .int 0, .int 0, .int (-1), .int 0, .int 0, .int 0, .int 0, .ref m5, .ref m6, .ref m7, .ref m8, .ref m9, .ref m10, .ref m11, .ref m12, .int 0, .int 0, .int 0, .int 0, .int 0, .ref m13, .int 0, .ref m14, .ref m15, .int 0, .int 0, .ref m16, .int 0, .ref m17, .ref m18, .int 0, .int (-1), .ref m19, .ref m20, .ref m21, .int 0, .ref m22, .ref m23, .ref m24, .ref m25, .ref m26, .ref m27, .ref m28, .ref m29, .ref m30, .int 0, .int 0, .ref m31]))] H) (hD : va_D A [(x0, .inr (11, [.ref x1, .int 0, .ref x2, .ref x3, .ref x4, .ref x5, .ref x6, .ref x7, .int 0, .ref x8, .ref x9, .ref x10, .int 0, .int (-1), .ref x11, .int 0, .ref x12, .ref x13, .int 0])), (m0, .inr (12, [.ref m1, .ref m2, .ref m3, .int 0, .ref m4, .int 0, .int 0, .int 0, .int 0, .int 0, .int (-1), .int 0, .int 0, .int 0, .int 0, .ref m5, .ref m6, .ref m7, .ref m8, .ref m9, .ref m10, .ref m11, .ref m12, .int 0, .int 0, .int 0, .int 0, .int 0, .ref m13, .int 0, .ref m14, .ref m15, .int 0, .int 0, .ref m16, .int 0, .ref m17, .ref m18, .int 0, .int (-1), .ref m19, .ref m20, .ref m21, .int 0, .ref m22, .ref m23, .ref m24, .ref m25, .ref m26, .ref m27, .ref m28, .ref m29, .ref m30, .int 0, .int 0, .ref m31]))]) (hS : va_S A s.heap H locs) {ls : Array Slot} (hl : lv_has ls 4 [(3, .int 0), (2, .ref m0), (1, .ref x0), (0, .ref b)]) : W p l e room_1 s m #[Value.ref b] below meth c H locs 559 115398 (lw_Z below #[Value.ref b] s) (F0 m 437 ls []) := by
  obtain ⟨hx, hb, hr, hml, hown0, hts, hX, hbl, hlocks, hgv⟩ := C0
  have hown : s.vm.findClass RL = some m.cls := hown0
  have hU : ∀ w ∈ wsU, w.before #[Value.ref b] s = true := fun w h => hts w (wsU_in w h)
  have hbA : ¬ A b := by rw [hAe]; exact Nat.not_le.mpr hbl
  obtain ⟨s0, es0⟩ : ∃ y : Int32, xs 0 = y := ⟨_, rfl⟩
  obtain ⟨s1, es1⟩ : ∃ y : Int32, xs 1 = y := ⟨_, rfl⟩
  obtain ⟨s2, es2⟩ : ∃ y : Int32, xs 2 = y := ⟨_, rfl⟩
  obtain ⟨s3, es3⟩ : ∃ y : Int32, xs 3 = y := ⟨_, rfl⟩
  obtain ⟨s4, es4⟩ : ∃ y : Int32, xs 4 = y := ⟨_, rfl⟩
  obtain ⟨s5, es5⟩ : ∃ y : Int32, xs 5 = y := ⟨_, rfl⟩
  refine lv_aload_n hx hb dL_law_437 rfl (lv_at hl 2 rfl) ?_
  refine tk_ri (wr := [(m0, .inr (12, [.ref m1, .ref m2, .ref m3, .int 0, .ref m4, .int 0, .int 0, .int 0, .int 0, .int 0, .int (-1), .int 0, .int 0, .int 0, .int 0, .ref m5, .ref m6, .ref m7, .ref m8, .ref m9, .ref m10, .ref m11, .ref m12, .int 0, .int 0, .int 0, .int 0, .int 0, .ref m13, .int 0, .ref m14, .ref m15, .int 0, .int 0, .ref m16, .int 0, .ref m17, .ref m18, .int 0, .int (-1), .ref m19, .ref m20, .ref m21, .int 0, .ref m22, .ref m23, .ref m24, .ref m25, .ref m26, .ref m27, .ref m28, .ref m29, .ref m30, .int 0, .int 0, .ref m31]))]) (tk_V (As := []) (rest := []) (n := 0) hx hb hml hown hU hN (op_X11_walk l (dC, dI) cI cL cZ H.size x0 x1 x2 x3 x4 x5 x6 x7 x8 x9 x10 x11 x12 x13) wd_1066 wd_1067 wd_1068 wd_2 wd_1069 (by decide +kernel) ⟨Nat.le_of_ble_eq_true rfl, Nat.le_of_ble_eq_true rfl⟩ hK hP hD [0] (by decide) rfl 0 11 rfl rfl rfl rfl hl.1 rfl (Nat.le_of_ble_eq_true rfl) dL_law_438 ⟨Nat.le_of_ble_eq_true rfl, Nat.le_of_ble_eq_true rfl⟩) hP hD hS hA [0] [1] rfl rfl (by decide) (by decide) (fun r_1 w_2 H locs hw hP hD hS => ?_)
  obtain ⟨rfl, rfl⟩ := hw
  have hP : va_P (dC, dI) vwCl [(m0, .inr (12, [.ref m1, .ref m2, .ref m3, .int 0, .ref m4, .int 0, .int 0, .int 0, .int 0, .int 0, .int (-1), .int 0, .int 0, .int 0, .int 0, .ref m5, .ref m6, .ref m7, .ref m8, .ref m9, .ref m10, .ref m11, .ref m12, .int 0, .int 0, .int 0, .int 0, .int 0, .ref m13, .int 0, .ref m14, .ref m15, .int 0, .int 0, .ref m16, .int 0, .ref m17, .ref m18, .int 0, .int (-1), .ref m19, .ref m20, .ref m21, .int 0, .ref m22, .ref m23, .ref m24, .ref m25, .ref m26, .ref m27, .ref m28, .ref m29, .ref m30, .int 0, .int 0, .ref m31]))] H := hP
  have hD : va_D A [(m0, .inr (12, [.ref m1, .ref m2, .ref m3, .int 0, .ref m4, .int 0, .int 0, .int 0, .int 0, .int 0, .int (-1), .int 0, .int 0, .int 0, .int 0, .ref m5, .ref m6, .ref m7, .ref m8, .ref m9, .ref m10, .ref m11, .ref m12, .int 0, .int 0, .int 0, .int 0, .int 0, .ref m13, .int 0, .ref m14, .ref m15, .int 0, .int 0, .ref m16, .int 0, .ref m17, .ref m18, .int 0, .int (-1), .ref m19, .ref m20, .ref m21, .int 0, .ref m22, .ref m23, .ref m24, .ref m25, .ref m26, .ref m27, .ref m28, .ref m29, .ref m30, .int 0, .int 0, .ref m31]))] := hD
  refine lv_aload_n hx hb dL_law_441 rfl (lv_at hl 1 rfl) ?_
  refine tk_ri (wr := []) (tk_V (As := []) (rest := [.int (-2)]) (n := 0) hx hb hml hown hU hN (op_X12_walk l (dC, dI) cI cL cZ H.size m0 m1 m2 m3 m4 m5 m6 m7 m8 m9 m10 m11 m12 m13 m14 m15 m16 m17 m18 m19 m20 m21 m22 m23 m24 m25 m26 m27 m28 m29 m30 m31) wd_1081 wd_1082 wd_1083 wd_5 wd_1084 (by decide +kernel) ⟨Nat.le_of_ble_eq_true rfl, Nat.le_of_ble_eq_true rfl⟩ hK hP hD [0] (by decide) rfl 0 12 rfl rfl rfl rfl hl.1 rfl (Nat.le_of_ble_eq_true rfl) dL_law_442 ⟨Nat.le_of_ble_eq_true rfl, Nat.le_of_ble_eq_true rfl⟩) hP hD hS hA [0] [] rfl rfl (by decide) (by decide) (fun r_3 w_4 H locs hw hP hD hS => ?_)
  obtain ⟨rfl, rfl⟩ := hw
  have hP : va_P (dC, dI) vwCl [] H := hP
  have hD : va_D A [] := hD
  refine lv_icmp_eq (tgt := 933) hx hb dL_law_445 (by decide) (fun _ => ?_) (fun c9 => absurd (by decide) c9) 
  refine lv_iinc (v := 6) (lv' := [(3, .int 6), (2, .ref m0), (1, .ref x0), (0, .ref b)]) hx hb dL_law_933 hl (k := 0) rfl (by decide) (by decide) rfl (fun ls hl => ?_)
  refine lv_goto (tgt := 18) hx hb dL_law_936 (by decide) ?_
  refine lv_iload_n hx hb dL_law_18 rfl (lv_at hl 0 rfl) ?_
  refine lv_aload_n hx hb dL_law_19 rfl (lv_at hl 3 rfl) ?_
  refine va_slen hx hb hX hbl hbA hS dL_law_20 ?_
  refine tk_topi (y := 6) rfl ?_
  refine lv_bipush (v := 6) hx hb dL_law_21 (by decide) ?_
  refine lv_isub hx hb dL_law_23 ?_
  refine tk_topi (y := 0) (by decide) ?_
  refine lv_icmp_gt (tgt := 939) hx hb dL_law_24 (by decide) (fun _ => ?_) (fun c9 => absurd (by decide) c9) 
  refine lv_iconst (v := 1) hx hb dL_law_939 (by decide) ?_
  refine va_forget (fun q hq => by have h9 := hS.2.2 q hq; rw [hAe] at h9; exact h9) ?_
  refine W.widen (k := 600000) (n := 7302250) (Nat.le_of_ble_eq_true rfl) (Nat.le_of_ble_eq_true rfl) ?_
  exact lw_ret hx hb hr hlocks dL_law_940
