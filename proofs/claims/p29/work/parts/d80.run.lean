set_option maxHeartbeats 8000000 in
set_option maxRecDepth 100000 in
theorem law_run {p : Program} {l : Launch} {e : Env} {s : State} {m : MethodId} {below : List Frame} {meth : Method} {c : Code} {dC : Nat → ClassId} {dI : Nat → Nat → Nat} {cI cL cZ cR cG cH : ClassId} {Z : zT} {kd : Nat → Nat} {L : List Nat} {b Ln : Nat} {xs : Nat → Int32} (hLn : Ln ≤ 384) (C0 : lw_At p s m meth c b Ln xs) (hK : va_K (dC, dI) vwCl (TY6 cI cL cZ cR cG cH) s) (hN : nsW s) (hZ : zW Z L s) (hLs : ∀ q ∈ L, s.heap.size ≤ q) {o1 o2 : Nat} (mo1 : o1 ∈ L) (ko1 : kd o1 = 11) (mo2 : o2 ∈ L) (ko2 : kd o2 = 12) : ∀ (n : Nat) (i0 : Int32), (0 ≤ i0.toInt ∧ i0.toInt ≤ 384) → 384 - i0.toInt < (n : Int) → ∀ (f : Nat → va_E), GI (okc cI cL cZ cR cG cH L kd) kd L f → ∀ (H : Heap) (locs : List Loc), va_P (dC, dI) vwCl (va_pl L f) H → va_D (fun q => q ∈ L) (va_pl L f) → va_S (fun q => q ∈ L) s.heap H locs → lawI kd f o1 o2 → ∀ (ls : Array Slot), lv_has ls 4 [(3, .int i0), (0, .ref b), (1, .ref o1), (2, .ref o2)] → W p l e room_1 s m #[Value.ref b] below meth c H locs 559 115398 (lw_Z below #[Value.ref b] s) (F0 m 18 ls []) := by
  have C1 := C0
  obtain ⟨hx, hb, hr, hml, hown0, hts, hX, hbl, hlocks, hgv⟩ := C0
  have hown : s.vm.findClass RL = some m.cls := hown0
  have hU : ∀ w ∈ wsU, w.before #[Value.ref b] s = true := fun w h => hts w (wsU_in w h)
  have hbA : ¬ (fun q => q ∈ L) b := fun h => absurd (hLs b h) (Nat.not_le.mpr hbl)
  intro n
  induction n with
  | zero => intro i0 bi hm; exfalso; omega
  | succ n ih =>
    intro i0 bi hm f hG H locs hP hD hS hI ls hl
    refine lv_iload_n hx hb dL_law_18 rfl (lv_at hl 0 rfl) ?_
    refine lv_aload_n hx hb dL_law_19 rfl (lv_at hl 1 rfl) ?_
    refine va_slen hx hb hX hbl hbA hS dL_law_20 ?_
    refine lv_topi (fun x ex => ?_)
    have hxx : x.toInt = (Ln : Int) := by rw [ex]; exact ln_I hLn
    refine lv_bipush (v := 6) hx hb dL_law_21 (by decide) ?_
    refine lv_isub hx hb dL_law_23 ?_
    refine lv_topi (fun y ey => ?_)
    have hy : y.toInt = (Ln : Int) - 6 := by rw [ey, sb_I (by rw [ti_6]; omega) (by rw [ti_6]; omega), ti_6, hxx]
    refine lv_icmp_gt (tgt := 939) hx hb dL_law_24 (by decide) (fun c9 => ?_) (fun c9 => ?_)
    · refine lv_iconst (v := 1) hx hb dL_law_939 (by decide) ?_
      refine va_forget (fun q hq => hLs _ (hS.2.2 q hq)) ?_
      refine W.widen (k := 600000) (n := 7302250) (Nat.le_of_ble_eq_true rfl) (Nat.le_of_ble_eq_true rfl) ?_
      exact lw_ret hx hb hr hlocks dL_law_940
    · rw [Int32.lt_iff_toInt_lt] at c9
      have hi : i0.toInt + 6 ≤ (Ln : Int) := by omega
      have again : ∀ (f1 : Nat → va_E) (H1 : Heap) (locs1 : List Loc), GI (okc cI cL cZ cR cG cH L kd) kd L f1 → va_P (dC, dI) vwCl (va_pl L f1) H1 → va_D (fun q => q ∈ L) (va_pl L f1) → va_S (fun q => q ∈ L) s.heap H1 locs1 → lawI kd f1 o1 o2 → ∀ (ls : Array Slot), lv_has ls 4 [(3, .int i0), (0, .ref b), (1, .ref o1), (2, .ref o2)] → W p l e room_1 s m #[Value.ref b] below meth c H1 locs1 559 115398 (lw_Z below #[Value.ref b] s) (F0 m 933 ls []) := by
        intro f1 H1 locs1 hG hP hD hS hI ls hl
        obtain ⟨z, ez⟩ : ∃ y : Int32, i0 + 6 = y := ⟨_, rfl⟩
        have hz : z.toInt = i0.toInt + 6 := by rw [← ez, ad_I (by rw [ti_6]; omega) (by rw [ti_6]; omega), ti_6]
        refine lv_iinc (v := z) (lv' := [(3, .int z), (0, .ref b), (1, .ref o1), (2, .ref o2)]) hx hb dL_law_933 hl (k := 0) rfl ez (by decide) rfl (fun ls hl => ?_)
        refine lv_goto (tgt := 18) hx hb dL_law_936 (by decide) ?_
        exact ih z ⟨by omega, by omega⟩ (by omega) f1 hG H1 locs1 hP hD hS hI ls hl
      refine lv_aload_n hx hb dL_law_27 rfl (lv_at hl 1 rfl) ?_
      refine lv_iload_n hx hb dL_law_28 rfl (lv_at hl 0 rfl) ?_
      refine va_sld hx hb hX hbl hbA hS (vp_in_iff.mpr (by constructor <;> omega)) dL_law_29 ?_
      refine lv_topi (fun w ew => ?_)
      refine lv_bipush (v := 31) hx hb dL_law_30 (by decide) ?_
      refine lv_iand hx hb dL_law_32 ?_
      refine lv_topi (fun v ev => ?_)
      have bv : (0 ≤ v.toInt ∧ v.toInt ≤ 31) := by rw [ev]; have h8 := an_C w (m := 31) (by decide); rw [ti_31] at h8; exact h8
      by_cases h0 : v = 0
      · refine tk_topi (y := 0) h0 ?_
        refine lv_tableIn (tgt := 164) hx hb dL_law_33 (by decide) (by decide) rfl (by decide) ?_
        exact law_c0 hLn C1 hK hN hZ hLs mo1 ko1 mo2 ko2 hG hP hD hS hI ⟨bi.1, by omega⟩ hi again hl
      by_cases h1 : v = 1
      · refine tk_topi (y := 1) h1 ?_
        refine lv_tableIn (tgt := 227) hx hb dL_law_33 (by decide) (by decide) rfl (by decide) ?_
        exact law_c1 hLn C1 hK hN hZ hLs mo1 ko1 mo2 ko2 hG hP hD hS hI ⟨bi.1, by omega⟩ hi again hl
      by_cases h2 : v = 2
      · refine tk_topi (y := 2) h2 ?_
        refine lv_tableIn (tgt := 250) hx hb dL_law_33 (by decide) (by decide) rfl (by decide) ?_
        exact law_c2 hLn C1 hK hN hZ hLs mo1 ko1 mo2 ko2 hG hP hD hS hI ⟨bi.1, by omega⟩ hi again hl
      by_cases h3 : v = 3
      · refine tk_topi (y := 3) h3 ?_
        refine lv_tableIn (tgt := 263) hx hb dL_law_33 (by decide) (by decide) rfl (by decide) ?_
        exact law_c3 hLn C1 hK hN hZ hLs mo1 ko1 mo2 ko2 hG hP hD hS hI ⟨bi.1, by omega⟩ hi again hl
      by_cases h4 : v = 4
      · refine tk_topi (y := 4) h4 ?_
        refine lv_tableIn (tgt := 286) hx hb dL_law_33 (by decide) (by decide) rfl (by decide) ?_
        exact law_c4 hLn C1 hK hN hZ hLs mo1 ko1 mo2 ko2 hG hP hD hS hI ⟨bi.1, by omega⟩ hi again hl
      by_cases h5 : v = 5
      · refine tk_topi (y := 5) h5 ?_
        refine lv_tableIn (tgt := 309) hx hb dL_law_33 (by decide) (by decide) rfl (by decide) ?_
        exact law_c5 hLn C1 hK hN hZ hLs mo1 ko1 mo2 ko2 hG hP hD hS hI ⟨bi.1, by omega⟩ hi again hl
      by_cases h6 : v = 6
      · refine tk_topi (y := 6) h6 ?_
        refine lv_tableIn (tgt := 332) hx hb dL_law_33 (by decide) (by decide) rfl (by decide) ?_
        exact law_c6 hLn C1 hK hN hZ hLs mo1 ko1 mo2 ko2 hG hP hD hS hI ⟨bi.1, by omega⟩ hi again hl
      by_cases h7 : v = 7
      · refine tk_topi (y := 7) h7 ?_
        refine lv_tableIn (tgt := 345) hx hb dL_law_33 (by decide) (by decide) rfl (by decide) ?_
        exact law_c7 hLn C1 hK hN hZ hLs mo1 ko1 mo2 ko2 hG hP hD hS hI ⟨bi.1, by omega⟩ hi again hl
      by_cases h8 : v = 8
      · refine tk_topi (y := 8) h8 ?_
        refine lv_tableIn (tgt := 358) hx hb dL_law_33 (by decide) (by decide) rfl (by decide) ?_
        exact law_c8 hLn C1 hK hN hZ hLs mo1 ko1 mo2 ko2 hG hP hD hS hI ⟨bi.1, by omega⟩ hi again hl
      by_cases h9 : v = 9
      · refine tk_topi (y := 9) h9 ?_
        refine lv_tableIn (tgt := 391) hx hb dL_law_33 (by decide) (by decide) rfl (by decide) ?_
        exact law_c9 hLn C1 hK hN hZ hLs mo1 ko1 mo2 ko2 hG hP hD hS hI ⟨bi.1, by omega⟩ hi again hl
      by_cases h10 : v = 10
      · refine tk_topi (y := 10) h10 ?_
        refine lv_tableIn (tgt := 404) hx hb dL_law_33 (by decide) (by decide) rfl (by decide) ?_
        exact law_c10 hLn C1 hK hN hZ hLs mo1 ko1 mo2 ko2 hG hP hD hS hI ⟨bi.1, by omega⟩ hi again hl
      by_cases h11 : v = 11
      · refine tk_topi (y := 11) h11 ?_
        refine lv_tableIn (tgt := 437) hx hb dL_law_33 (by decide) (by decide) rfl (by decide) ?_
        exact law_c11 hLn C1 hK hN hZ hLs mo1 ko1 mo2 ko2 hG hP hD hS hI ⟨bi.1, by omega⟩ hi again hl
      by_cases h12 : v = 12
      · refine tk_topi (y := 12) h12 ?_
        refine lv_tableIn (tgt := 450) hx hb dL_law_33 (by decide) (by decide) rfl (by decide) ?_
        exact law_c12 hLn C1 hK hN hZ hLs mo1 ko1 mo2 ko2 hG hP hD hS hI ⟨bi.1, by omega⟩ hi again hl
      by_cases h13 : v = 13
      · refine tk_topi (y := 13) h13 ?_
        refine lv_tableIn (tgt := 463) hx hb dL_law_33 (by decide) (by decide) rfl (by decide) ?_
        exact law_c13 hLn C1 hK hN hZ hLs mo1 ko1 mo2 ko2 hG hP hD hS hI ⟨bi.1, by omega⟩ hi again hl
      by_cases h14 : v = 14
      · refine tk_topi (y := 14) h14 ?_
        refine lv_tableIn (tgt := 476) hx hb dL_law_33 (by decide) (by decide) rfl (by decide) ?_
        exact law_c14 hLn C1 hK hN hZ hLs mo1 ko1 mo2 ko2 hG hP hD hS hI ⟨bi.1, by omega⟩ hi again hl
      by_cases h15 : v = 15
      · refine tk_topi (y := 15) h15 ?_
        refine lv_tableIn (tgt := 499) hx hb dL_law_33 (by decide) (by decide) rfl (by decide) ?_
        exact law_c15 hLn C1 hK hN hZ hLs mo1 ko1 mo2 ko2 hG hP hD hS hI ⟨bi.1, by omega⟩ hi again hl
      by_cases h16 : v = 16
      · refine tk_topi (y := 16) h16 ?_
        refine lv_tableIn (tgt := 532) hx hb dL_law_33 (by decide) (by decide) rfl (by decide) ?_
        exact law_c16 hLn C1 hK hN hZ hLs mo1 ko1 mo2 ko2 hG hP hD hS hI ⟨bi.1, by omega⟩ hi again hl
      by_cases h17 : v = 17
      · refine tk_topi (y := 17) h17 ?_
        refine lv_tableIn (tgt := 575) hx hb dL_law_33 (by decide) (by decide) rfl (by decide) ?_
        exact law_c17 hLn C1 hK hN hZ hLs mo1 ko1 mo2 ko2 hG hP hD hS hI ⟨bi.1, by omega⟩ hi again hl
      by_cases h18 : v = 18
      · refine tk_topi (y := 18) h18 ?_
        refine lv_tableIn (tgt := 608) hx hb dL_law_33 (by decide) (by decide) rfl (by decide) ?_
        exact law_c18 hLn C1 hK hN hZ hLs mo1 ko1 mo2 ko2 hG hP hD hS hI ⟨bi.1, by omega⟩ hi again hl
      by_cases h19 : v = 19
      · refine tk_topi (y := 19) h19 ?_
        refine lv_tableIn (tgt := 641) hx hb dL_law_33 (by decide) (by decide) rfl (by decide) ?_
        exact law_c19 hLn C1 hK hN hZ hLs mo1 ko1 mo2 ko2 hG hP hD hS hI ⟨bi.1, by omega⟩ hi again hl
      by_cases h20 : v = 20
      · refine tk_topi (y := 20) h20 ?_
        refine lv_tableIn (tgt := 684) hx hb dL_law_33 (by decide) (by decide) rfl (by decide) ?_
        exact law_c20 hLn C1 hK hN hZ hLs mo1 ko1 mo2 ko2 hG hP hD hS hI ⟨bi.1, by omega⟩ hi again hl
      by_cases h21 : v = 21
      · refine tk_topi (y := 21) h21 ?_
        refine lv_tableIn (tgt := 717) hx hb dL_law_33 (by decide) (by decide) rfl (by decide) ?_
        exact law_c21 hLn C1 hK hN hZ hLs mo1 ko1 mo2 ko2 hG hP hD hS hI ⟨bi.1, by omega⟩ hi again hl
      by_cases h22 : v = 22
      · refine tk_topi (y := 22) h22 ?_
        refine lv_tableIn (tgt := 740) hx hb dL_law_33 (by decide) (by decide) rfl (by decide) ?_
        exact law_c22 hLn C1 hK hN hZ hLs mo1 ko1 mo2 ko2 hG hP hD hS hI ⟨bi.1, by omega⟩ hi again hl
      by_cases h23 : v = 23
      · refine tk_topi (y := 23) h23 ?_
        refine lv_tableIn (tgt := 779) hx hb dL_law_33 (by decide) (by decide) rfl (by decide) ?_
        exact law_c23 hLn C1 hK hN hZ hLs mo1 ko1 mo2 ko2 hG hP hD hS hI ⟨bi.1, by omega⟩ hi again hl
      by_cases h24 : v = 24
      · refine tk_topi (y := 24) h24 ?_
        refine lv_tableIn (tgt := 802) hx hb dL_law_33 (by decide) (by decide) rfl (by decide) ?_
        exact law_c24 hLn C1 hK hN hZ hLs mo1 ko1 mo2 ko2 hG hP hD hS hI ⟨bi.1, by omega⟩ hi again hl
      by_cases h25 : v = 25
      · refine tk_topi (y := 25) h25 ?_
        refine lv_tableIn (tgt := 815) hx hb dL_law_33 (by decide) (by decide) rfl (by decide) ?_
        exact law_c25 hLn C1 hK hN hZ hLs mo1 ko1 mo2 ko2 hG hP hD hS hI ⟨bi.1, by omega⟩ hi again hl
      by_cases h26 : v = 26
      · refine tk_topi (y := 26) h26 ?_
        refine lv_tableIn (tgt := 838) hx hb dL_law_33 (by decide) (by decide) rfl (by decide) ?_
        exact law_c26 hLn C1 hK hN hZ hLs mo1 ko1 mo2 ko2 hG hP hD hS hI ⟨bi.1, by omega⟩ hi again hl
      by_cases h27 : v = 27
      · refine tk_topi (y := 27) h27 ?_
        refine lv_tableIn (tgt := 871) hx hb dL_law_33 (by decide) (by decide) rfl (by decide) ?_
        exact law_c27 hLn C1 hK hN hZ hLs mo1 ko1 mo2 ko2 hG hP hD hS hI ⟨bi.1, by omega⟩ hi again hl
      by_cases h28 : v = 28
      · refine tk_topi (y := 28) h28 ?_
        refine lv_tableIn (tgt := 910) hx hb dL_law_33 (by decide) (by decide) rfl (by decide) ?_
        exact law_c28 hLn C1 hK hN hZ hLs mo1 ko1 mo2 ko2 hG hP hD hS hI ⟨bi.1, by omega⟩ hi again hl
      rw [← Int32.toInt_inj, ti_0] at h0
      rw [← Int32.toInt_inj, ti_1] at h1
      rw [← Int32.toInt_inj, ti_2] at h2
      rw [← Int32.toInt_inj, ti_3] at h3
      rw [← Int32.toInt_inj, ti_4] at h4
      rw [← Int32.toInt_inj, ti_5] at h5
      rw [← Int32.toInt_inj, ti_6] at h6
      rw [← Int32.toInt_inj, ti_7] at h7
      rw [← Int32.toInt_inj, ti_8] at h8
      rw [← Int32.toInt_inj, ti_9] at h9
      rw [← Int32.toInt_inj, ti_10] at h10
      rw [← Int32.toInt_inj, ti_11] at h11
      rw [← Int32.toInt_inj, ti_12] at h12
      rw [← Int32.toInt_inj, ti_13] at h13
      rw [← Int32.toInt_inj, ti_14] at h14
      rw [← Int32.toInt_inj, ti_15] at h15
      rw [← Int32.toInt_inj, ti_16] at h16
      rw [← Int32.toInt_inj, ti_17] at h17
      rw [← Int32.toInt_inj, ti_18] at h18
      rw [← Int32.toInt_inj, ti_19] at h19
      rw [← Int32.toInt_inj, ti_20] at h20
      rw [← Int32.toInt_inj, ti_21] at h21
      rw [← Int32.toInt_inj, ti_22] at h22
      rw [← Int32.toInt_inj, ti_23] at h23
      rw [← Int32.toInt_inj, ti_24] at h24
      rw [← Int32.toInt_inj, ti_25] at h25
      rw [← Int32.toInt_inj, ti_26] at h26
      rw [← Int32.toInt_inj, ti_27] at h27
      rw [← Int32.toInt_inj, ti_28] at h28
      refine lv_tableOut (tgt := 933) hx hb dL_law_33 (by omega) (by decide) ?_
      exact again f H locs hG hP hD hS hI ls hl
