theorem mo_all {b : Nat} {L : List Nat} {f : Nat → va_E} {A : Nat → Prop} (h : va_D A (va_pl L f)) : ∀ q ∈ L, A q := fun q hq => by
  obtain ⟨i, hi⟩ := List.mem_iff_getElem?.mp (show (q, f q) ∈ va_pl L f from List.mem_map.mpr ⟨q, hq, rfl⟩)
  exact h.2 i _ hi
set_option maxHeartbeats 16000000 in
set_option maxRecDepth 100000 in
theorem whole_start {p : Program} {e : Env} {s : State} {m : MethodId} {below : List Frame} {meth : Method} {c : Code} (l : Launch) {b Ln : Nat} {xs : Nat → Int32} (hLn : Ln ≤ 384) (C0 : lw_At p s m meth c b Ln xs) : W p l e room_1 s m #[Value.ref b] below meth c s.heap [] 0 0 (lw_Z below #[Value.ref b] s) (entryFrame m ([Value.ref b] : List Value).toArray 4) := by
  have C1 := C0
  obtain ⟨A, hAe⟩ : ∃ A : Nat → Prop, A = fun q : Nat => s.heap.size ≤ q := ⟨_, rfl⟩
  obtain ⟨hx, hb, hr, hml, hown0, hts, hX, hbl, hlocks, hgv⟩ := C0
  have hown : s.vm.findClass RL = some m.cls := hown0
  have hU : ∀ w ∈ wsU, w.before #[Value.ref b] s = true := fun w h => hts w (wsU_in w h)
  have hA : ∀ q : Nat, s.heap.size ≤ q → A q := fun q h => by rw [hAe]; exact h
  obtain ⟨k0, i0, hKn0⟩ := u_known (C := RX0) (T := TX0) (N := 11) (n := 11) hU inlX0 (hU _ wd_36)
  obtain ⟨k1, i1, hKn1⟩ := u_known (C := RX1) (T := TX1) (N := 6) (n := 6) hU inlX1 (hU _ wd_58)
  obtain ⟨k2, i2, hKn2⟩ := u_known (C := RX2) (T := TX2) (N := 10) (n := 10) hU inlX2 (hU _ wd_32)
  obtain ⟨k3, i3, hKn3⟩ := u_known (C := RX3) (T := TX3) (N := 18) (n := 18) hU inlX3 (hU _ wd_15)
  obtain ⟨k4, i4, hKn4⟩ := u_known (C := RX4) (T := TX4) (N := 11) (n := 11) hU inlX4 (hU _ wd_89)
  obtain ⟨k5, i5, hKn5⟩ := u_known (C := RX5) (T := TX5) (N := 6) (n := 6) hU inlX5 (hU _ wd_101)
  obtain ⟨k6, i6, hKn6⟩ := u_known (C := RX6) (T := TX6) (N := 9) (n := 9) hU inlX6 (hU _ wd_23)
  obtain ⟨k7, i7, hKn7⟩ := u_known (C := RX7) (T := TX7) (N := 16) (n := 16) hU inlX7 (hU _ wd_27)
  obtain ⟨k8, i8, hKn8⟩ := u_known (C := RX8) (T := TX8) (N := 5) (n := 5) hU inlX8 (hU _ wd_54)
  obtain ⟨k9, i9, hKn9⟩ := u_known (C := RX9) (T := TX9) (N := 3) (n := 3) hU inlX9 (hU _ wd_84)
  obtain ⟨k10, i10, hKn10⟩ := u_known (C := RX10) (T := TX10) (N := 3) (n := 3) hU inlX10 (hU _ wd_50)
  obtain ⟨k11, i11, hKn11⟩ := u_known (C := RX11) (T := TX11) (N := 19) (n := 19) hU inlX11 (hU _ wd_1)
  obtain ⟨k12, i12, hKn12⟩ := u_known (C := RX12) (T := TX12) (N := 56) (n := 56) hU inlX12 (hU _ wd_4)
  obtain ⟨dC, dI, hKc⟩ : ∃ (dC : Nat → ClassId) (dI : Nat → Nat → Nat), ∀ (k : Nat) (q : vw_C), vwCl[k]? = some q → u_Kn s q.1 q.2.1 q.2.2 (dC k) (dI k) := by
    refine ⟨fun k => ([k0, k1, k2, k3, k4, k5, k6, k7, k8, k9, k10, k11, k12] : List ClassId).getD k k0, fun k => ([i0, i1, i2, i3, i4, i5, i6, i7, i8, i9, i10, i11, i12] : List (Nat → Nat)).getD k i0, ?_⟩
    intro k q hq
    match k, hq with
    | 0, hq => cases hq; exact hKn0
    | 1, hq => cases hq; exact hKn1
    | 2, hq => cases hq; exact hKn2
    | 3, hq => cases hq; exact hKn3
    | 4, hq => cases hq; exact hKn4
    | 5, hq => cases hq; exact hKn5
    | 6, hq => cases hq; exact hKn6
    | 7, hq => cases hq; exact hKn7
    | 8, hq => cases hq; exact hKn8
    | 9, hq => cases hq; exact hKn9
    | 10, hq => cases hq; exact hKn10
    | 11, hq => cases hq; exact hKn11
    | 12, hq => cases hq; exact hKn12
    | k + 13, hq => simp [vwCl] at hq
  obtain ⟨cI, qcI, rcI, f1cI, f2cI, f3cI⟩ := Cond.arrayClass_spec (hU (.arrayClass .int) wd_12)
  obtain ⟨cL, qcL, rcL, f1cL, f2cL, f3cL⟩ := Cond.arrayClass_spec (hU (.arrayClass .long) wd_130)
  obtain ⟨cZ, qcZ, rcZ, f1cZ, f2cZ, f3cZ⟩ := Cond.arrayClass_spec (hU (.arrayClass .boolean) wd_196)
  have hN : nsW s := ⟨va_Nw.of rfl (hts (.methodLinkNest RX11 15 yX3_init "SaidShallow") (List.mem_of_getElem? (i := 154) rfl)), va_Nw.of rfl (hts (.methodLinkNest RX7 60 yX4_init "SaidShallow") (List.mem_of_getElem? (i := 188) rfl)), va_Nw.of rfl (hts (.methodLinkNest RX4 11 yX5_init "SaidShallow") (List.mem_of_getElem? (i := 194) rfl)), va_Nw.of rfl (hts (.methodLinkNest RX3 20 yX10_init "SaidShallow") (List.mem_of_getElem? (i := 356) rfl)), va_Nw.of rfl (hts (.methodLinkNest RX3 27 yX8_init "SaidShallow") (List.mem_of_getElem? (i := 375) rfl)), va_Nw.of rfl (hts (.methodLinkNest RX3 34 yX1_init "SaidShallow") (List.mem_of_getElem? (i := 397) rfl)), va_Nw.of rfl (hts (.methodLinkNest RX11 32 yX6_init "SaidShallow") (List.mem_of_getElem? (i := 485) rfl)), va_Nw.of rfl (hts (.methodLinkNest RX11 48 yX2_init "SaidShallow") (List.mem_of_getElem? (i := 530) rfl)), va_Nw.of rfl (hts (.methodLinkNest RX11 55 yX0_init "SaidShallow") (List.mem_of_getElem? (i := 572) rfl)), va_Nw.of rfl (hts (.methodLinkNest RX2 197 yX4_isAlways "SaidShallow") (List.mem_of_getElem? (i := 854) rfl)), va_AO.of (hts (.arrayOver (.object "SaidShallow$Rule")) (List.mem_of_getElem? (i := 165) rfl)), va_AOA.of (hts (.arrayOver (.array .int)) (List.mem_of_getElem? (i := 1446) rfl)), va_AOA.of (hts (.arrayOver (.array .boolean)) (List.mem_of_getElem? (i := 1448) rfl))⟩
  obtain ⟨compR, cR, kR, r1, r2, r3, r4, r5⟩ := Cond.arrayOver_spec (va_AO.use (A := #[Value.ref b]) hN.2.2.2.2.2.2.2.2.2.2.1)
  obtain ⟨compG, cG, kG, g1, g2, g3, g4⟩ := mw_over (va_AOA.use (A := #[Value.ref b]) hN.2.2.2.2.2.2.2.2.2.2.2.1)
  obtain ⟨compH, cH, kH, w1, w2, w3, w4⟩ := mw_over (va_AOA.use (A := #[Value.ref b]) hN.2.2.2.2.2.2.2.2.2.2.2.2)
  have hK : va_K (dC, dI) vwCl (TY6 cI cL cZ cR cG cH) s := by
    refine ⟨hKc, fun k q hq => ?_⟩
    match k, hq with
    | 0, hq => cases hq; exact ⟨fun n z => ⟨fun k h => (by cases h), qcI, f2cI, rcI, f3cI⟩, f1cI⟩
    | 1, hq => cases hq; exact ⟨fun n z => ⟨fun k h => (by cases h), qcL, f2cL, rcL, f3cL⟩, f1cL⟩
    | 2, hq => cases hq; exact ⟨fun n z => ⟨fun k h => (by cases h), qcZ, f2cZ, rcZ, f3cZ⟩, f1cZ⟩
    | 3, hq => cases hq; exact ⟨fun n z => ⟨fun k h => (by cases h), kR, r3, compR, r4⟩, kR, compR, r3, r4, r1, r5⟩
    | 4, hq => cases hq; exact ⟨fun n z => ⟨fun k h => (by cases h), kG, g2, compG, g3⟩, g4⟩
    | 5, hq => cases hq; exact ⟨fun n z => ⟨fun k h => (by cases h), kH, w2, compH, w3⟩, w4⟩
    | k + 6, hq => simp [TY6] at hq
  have hS : va_S A s.heap s.heap [] := va_S.rf
  have hW : cw (dC, dI) cI cL cZ cR cG cH A [] [] [] s.heap := ⟨[], fun _ => .inl (cI, 0, .inl z0), fun _ => 0, fun k q h => by simp [va_pl] at h, ⟨fun i j p q h => by simp [va_pl] at h, fun k q h => by simp [va_pl] at h⟩, fun a h => absurd h List.not_mem_nil, fun q h => absurd h List.not_mem_nil, fun q h => absurd h List.not_mem_nil⟩
  have hl := lv_entry ([.ref b]) (n := 4) (Nat.le_of_ble_eq_true rfl)
  rw [lg_entry_eq]
  generalize (lg_sl ([.ref b]) ++ List.replicate (4 - (lg_sl ([.ref b])).length) Slot.unset).toArray = ls at hl ⊢
  have hl : lv_has ls 4 [(0, .ref b)] := hl
  obtain ⟨L, f, kd, hP, hD, hB, hR, hF⟩ := hW
  refine va_new (ci := 11) (fs := [.null, .int 0, .null, .null, .null, .null, .null, .null, .int 0, .null, .null, .null, .int 0, .int 0, .null, .int 0, .null, .null, .int 0]) (C := RX11) (T := TX11) (N := 19) hx hb hU inlX11 tyX11 tyX11_ok hown (hU _ wd_0) (hU _ wd_1) (hU _ wd_2) hK hP hD hS hA rfl dvX11 (Nat.le_of_ble_eq_true rfl) (Nat.le_of_ble_eq_true rfl) dL_law_0 (fun o1 H hP hD hS => ?_)
  have hW : cw (dC, dI) cI cL cZ cR cG cH A ([] ++ [(o1, .inr (11, [.null, .int 0, .null, .null, .null, .null, .null, .null, .int 0, .null, .null, .null, .int 0, .int 0, .null, .int 0, .null, .null, .int 0]))]) [] [] H := cw_new hP hD hB hR hF
  refine W.widen (k := 1) (n := 19) (Nat.le_of_ble_eq_true rfl) (Nat.le_of_ble_eq_true rfl) ?_
  refine lv_dup hx hb dL_law_3 rfl ?_
  refine cs_backF (X := []) (cs_I (X := []) (As := []) (rest := [.ref o1]) (n := 0) hx hb hml hown hU hN (n_X11_init_11 l (dC, dI) cI cL cZ cR cG cH H.size o1) wd_6 wd_7 wd_2 wd_8 rfl (by decide +kernel) ⟨Nat.le_of_ble_eq_true rfl, Nat.le_of_ble_eq_true rfl⟩ hK hW rfl hl.1 rfl (Nat.le_of_ble_eq_true rfl) dL_law_4 ⟨Nat.le_of_ble_eq_true rfl, Nat.le_of_ble_eq_true rfl⟩) hW hS hA [0] [] rfl rfl (by decide) (by decide) (fun r0 t0 H locs hW hS => ?_)
  refine W.widen (k := 375) (n := 60962) (Nat.le_of_ble_eq_true rfl) (Nat.le_of_ble_eq_true rfl) ?_
  refine lv_astore_n (lv' := [(1, .ref o1), (0, .ref b)]) hx hb dL_law_7 rfl hl (by decide) rfl (fun ls hl => ?_)
  obtain ⟨L, f, kd, hP, hD, hB, hR, hF⟩ := hW
  refine va_new (ci := 12) (fs := [.null, .null, .null, .int 0, .null, .int 0, .int 0, .int 0, .int 0, .int 0, .int 0, .int 0, .int 0, .int 0, .int 0, .null, .null, .null, .null, .null, .null, .null, .null, .int 0, .int 0, .int 0, .int 0, .int 0, .null, .int 0, .null, .null, .int 0, .int 0, .null, .int 0, .null, .null, .int 0, .int 0, .null, .null, .null, .int 0, .null, .null, .null, .null, .null, .null, .null, .null, .null, .int 0, .int 0, .null]) (C := RX12) (T := TX12) (N := 56) hx hb hU inlX12 tyX12 tyX12_ok hown (hU _ wd_3) (hU _ wd_4) (hU _ wd_5) hK hP hD hS hA rfl dvX12 (Nat.le_of_ble_eq_true rfl) (Nat.le_of_ble_eq_true rfl) dL_law_8 (fun o2 H hP hD hS => ?_)
  have hW : cw (dC, dI) cI cL cZ cR cG cH A ([] ++ [(o2, .inr (12, [.null, .null, .null, .int 0, .null, .int 0, .int 0, .int 0, .int 0, .int 0, .int 0, .int 0, .int 0, .int 0, .int 0, .null, .null, .null, .null, .null, .null, .null, .null, .int 0, .int 0, .int 0, .int 0, .int 0, .null, .int 0, .null, .null, .int 0, .int 0, .null, .int 0, .null, .null, .int 0, .int 0, .null, .null, .null, .int 0, .null, .null, .null, .null, .null, .null, .null, .null, .null, .int 0, .int 0, .null]))]) [(o1, 11), (r0, 3), (t0, 7)] [(o1, 2, r0), (o1, 3, t0), (r0, 0, t0)] H := cw_new hP hD hB hR hF
  refine W.widen (k := 376) (n := 61018) (Nat.le_of_ble_eq_true rfl) (Nat.le_of_ble_eq_true rfl) ?_
  refine lv_dup hx hb dL_law_11 rfl ?_
  refine cs_back (X := []) (cs_I (X := []) (As := []) (rest := [.ref o2]) (n := 0) hx hb hml hown hU hN (n_X12_init_12 l (dC, dI) cI cL cZ cR cG cH H.size o2) wd_165 wd_166 wd_5 wd_167 rfl (by decide +kernel) ⟨Nat.le_of_ble_eq_true rfl, Nat.le_of_ble_eq_true rfl⟩ hK hW rfl hl.1 rfl (Nat.le_of_ble_eq_true rfl) dL_law_12 ⟨Nat.le_of_ble_eq_true rfl, Nat.le_of_ble_eq_true rfl⟩) hW hS hA [0] [] rfl rfl (by decide) (by decide) (fun H locs hW hS => ?_)
  refine W.widen (k := 559) (n := 115398) (Nat.le_of_ble_eq_true rfl) (Nat.le_of_ble_eq_true rfl) ?_
  refine lv_astore_n (lv' := [(2, .ref o2), (1, .ref o1), (0, .ref b)]) hx hb dL_law_15 rfl hl (by decide) rfl (fun ls hl => ?_)
  refine lv_iconst (v := 0) hx hb dL_law_16 (by decide) ?_
  refine lv_istore_n (lv' := [(3, .int 0), (2, .ref o2), (1, .ref o1), (0, .ref b)]) hx hb dL_law_17 rfl hl (by decide) rfl (fun ls hl => ?_)
  obtain ⟨L, f, kd, hP, hD, hB, hR, hF⟩ := hW
  have hP : va_P (dC, dI) vwCl (va_pl L f) H := hP
  have hD0 : va_D A (va_pl L f) := hD
  have hLs : ∀ q ∈ L, s.heap.size ≤ q := fun q hq => by have h9 := mo_all (b := 0) hD0 q hq; rw [hAe] at h9; exact h9
  have hD : va_D (fun q => q ∈ L) (va_pl L f) := pl_in hD0
  obtain ⟨Z, hZ⟩ := z_start hts hgv hLs
  have hG : GI (okc cI cL cZ cR cG cH L kd) kd L f := fun a ha => (hB a ha).1
  have q1 := hR (o1, 11) (by simp)
  have q2 := hR (o2, 12) (by simp)
  have q3 := hF (o1, 2, r0) (by simp)
  have q4 := hF (o1, 3, t0) (by simp)
  have q5 := hF (r0, 0, t0) (by simp)
  have hI := lawI_fresh hB q1.1 q1.2 q2.1 q2.2 q3.2 q4.2 q5.2
  refine va_forget (fun q hq => by have h9 := hS.2.2 q hq; rw [hAe] at h9; exact h9) ?_
  have hS : va_S (fun q => q ∈ L) s.heap H [] := ⟨hS.1, fun q h1 _ => hS.2.1 q h1 (by rw [hAe]; exact Nat.not_le.mpr h1), fun l h => absurd h List.not_mem_nil⟩
  exact law_run hLn C1 hK hN hZ hLs q1.1 q1.2 q2.1 q2.2 385 0 (by decide) (by decide) f hG H [] hP hD hS hI ls (lv_sub hl [0, 3, 2, 1] rfl)
