abbrev TY6 (cI cL cZ cR cG cH : ClassId) : List (ClassId × FieldType) := [(cI, .int), (cL, .long), (cZ, .boolean), (cR, .object "SaidShallow$Rule"), (cG, .array .int), (cH, .array .boolean)]
def pC (D : va_G) (cI cL cZ cR cG cH : ClassId) (sz : Nat) (ws : va_W) : State → Prop := fun U => U.heap.size = sz ∧ va_P D vwCl ws U.heap ∧ va_K D vwCl (TY6 cI cL cZ cR cG cH) U ∧ va_D (fun _ => True) ws ∧ nsW U
def qC (D : va_G) (cI cL cZ cR cG cH : ClassId) (A : Nat → Prop) (w1 : va_W) : State → Prop := fun t => va_P D vwCl w1 t.heap ∧ va_K D vwCl (TY6 cI cL cZ cR cG cH) t ∧ va_D A w1
theorem pC_blind {av : List Value} {D : va_G} {cI cL cZ cR cG cH : ClassId} {sz : Nat} {ws : va_W} : FrameBlind (va_Pc av (pC D cI cL cZ cR cG cH sz ws)) := fun a U g mk q => by
  obtain ⟨q0, q1, qP, qK, qD, qN⟩ := q
  exact ⟨q0, q1, qP, va_K.moved (u := U) (U := U.calling g mk a) (Vm.Alike.refl U.vm) qK, qD, nsW.same (s := U) (U := U.calling g mk a) rfl qN⟩
theorem P_perm {D : va_G} {cl : List vw_C} {ws ws2 : va_W} {H : Heap} (pm : ws.Perm ws2) (h : va_P D cl ws H) : va_P D cl ws2 H := fun k q hk => by
  obtain ⟨i, hi⟩ := List.mem_iff_getElem?.mp (pm.symm.subset (List.mem_of_getElem? hk))
  exact h i q hi
theorem D_nodup {A : Nat → Prop} {ws : va_W} (h : va_D A ws) : (ws.map Prod.fst).Nodup := by
  rw [List.nodup_iff_pairwise_ne, List.pairwise_iff_getElem]
  intro i j hi hj hij e
  rw [List.getElem_map, List.getElem_map] at e
  have hi2 : i < ws.length := by rw [List.length_map] at hi; exact hi
  have hj2 : j < ws.length := by rw [List.length_map] at hj; exact hj
  have := h.1 i j _ _ (List.getElem?_eq_getElem hi2) (List.getElem?_eq_getElem hj2) e
  omega
theorem D_of {A : Nat → Prop} {ws : va_W} (h : (ws.map Prod.fst).Nodup) (hA : ∀ q ∈ ws, A q.1) : va_D A ws := by
  rw [List.nodup_iff_pairwise_ne, List.pairwise_iff_getElem] at h
  refine ⟨fun i j x y hi hj e => ?_, fun k q hk => hA q (List.mem_of_getElem? hk)⟩
  obtain ⟨hi1, hi2⟩ := List.getElem?_eq_some_iff.mp hi
  obtain ⟨hj1, hj2⟩ := List.getElem?_eq_some_iff.mp hj
  rcases Nat.lt_trichotomy i j with q | q | q
  · exact absurd (by rw [List.getElem_map, List.getElem_map, hi2, hj2]; exact e) (h i j (by rw [List.length_map]; exact hi1) (by rw [List.length_map]; exact hj1) q)
  · exact q
  · exact absurd (by rw [List.getElem_map, List.getElem_map, hi2, hj2]; exact e.symm) (h j i (by rw [List.length_map]; exact hj1) (by rw [List.length_map]; exact hi1) q)
theorem D_perm {A : Nat → Prop} {ws ws2 : va_W} (pm : ws.Perm ws2) (h : va_D A ws) : va_D A ws2 := D_of ((pm.map _).nodup_iff.mp (D_nodup h)) (fun q hq => by
  obtain ⟨i, hi⟩ := List.mem_iff_getElem?.mp (pm.symm.subset hq)
  exact h.2 i q hi)
theorem D_apart {A : Nat → Prop} {X Y : va_W} (h : va_D A (X ++ Y)) {x y : Nat × va_E} (hx : x ∈ X) (hy : y ∈ Y) : x.1 ≠ y.1 := by
  have h1 := D_nodup h
  rw [List.map_append] at h1
  have h2 := (List.nodup_append.mp h1).2.2
  exact h2 x.1 (List.mem_map.mpr ⟨x, hx, rfl⟩) y.1 (List.mem_map.mpr ⟨y, hy, rfl⟩)
theorem D_right {A : Nat → Prop} {X Y : va_W} (h : va_D A (X ++ Y)) : va_D A Y := by
  have h1 := D_nodup h
  rw [List.map_append] at h1
  refine D_of (List.nodup_append.mp h1).2.1 (fun q hq => ?_)
  obtain ⟨i, hi⟩ := List.mem_iff_getElem?.mp (List.mem_append_right X hq)
  exact h.2 i q hi
def bg (cI cL cZ cR cG cH : ClassId) (L : List Nat) (f : Nat → va_E) (kd : Nat → Nat) : Prop := GI (fun k e => okc cI cL cZ cR cG cH L kd k e ∧ zk k e) kd L f
def rs (L : List Nat) (kd : Nat → Nat) (R : List (Nat × Nat)) : Prop := ∀ q ∈ R, q.1 ∈ L ∧ kd q.1 = q.2
def bt (cI cL cZ cR cG cH : ClassId) (k a : Nat) (w : va_W) : Prop := ∃ L f kd, w = va_pl L f ∧ bg cI cL cZ cR cG cH L f kd ∧ a ∈ L ∧ kd a = k
def ff (L : List Nat) (f : Nat → va_E) (F : List (Nat × Nat × Nat)) : Prop := ∀ q ∈ F, q.1 ∈ L ∧ fldR (f q.1) q.2.1 = some q.2.2
theorem ff.mono {L L1 : List Nat} {f f1 : Nat → va_E} {F : List (Nat × Nat × Nat)} (h : ff L1 f1 F) (hm : ∀ r, r ∈ L1 → r ∈ L ∧ f r = f1 r) : ff L f F := fun q hq => ⟨(hm _ (h q hq).1).1, by rw [(hm _ (h q hq).1).2]; exact (h q hq).2⟩
def cw (D : va_G) (cI cL cZ cR cG cH : ClassId) (A : Nat → Prop) (X : va_W) (R : List (Nat × Nat)) (F : List (Nat × Nat × Nat)) (H : Heap) : Prop := ∃ L f kd, va_P D vwCl (X ++ va_pl L f) H ∧ va_D A (X ++ va_pl L f) ∧ bg cI cL cZ cR cG cH L f kd ∧ rs L kd R ∧ ff L f F
abbrev mC (l : Launch) (D : va_G) (cI cL cZ cR cG cH : ClassId) (y : MethodName) (c : ByteArray) (n fr lo mc ms : Nat) (av : List Value) (sz : Nat) (ws : va_W) (P : va_W → Prop) : Prop := Met l y (wU y c n none) { frames := fr, cells := mc, slots := ms, locals := lo } (va_Pc av (pC D cI cL cZ cR cG cH sz ws)) (va_Qv P (qC D cI cL cZ cR cG cH (va_A ws sz)) (va_A ws sz)) mc ms (va_A ws sz)
theorem rs.mono {L L1 : List Nat} {kd kd1 : Nat → Nat} {R : List (Nat × Nat)} (h : rs L1 kd1 R) (hm : ∀ r, r ∈ L1 → r ∈ L ∧ kd r = kd1 r) : rs L kd R := fun q hq => ⟨(hm _ (h q hq).1).1, (hm _ (h q hq).1).2.trans (h q hq).2⟩
theorem rs.app {L : List Nat} {kd : Nat → Nat} {R : List (Nat × Nat)} {q t : Nat} (h : rs L kd R) (hq : q ∈ L) (ht : kd q = t) : rs L kd (R ++ [(q, t)]) := fun x hx => by
  rcases List.mem_append.mp hx with h1 | h1
  · exact h x h1
  · obtain rfl := List.mem_singleton.mp h1
    exact ⟨hq, ht⟩
section CONS
variable {cI cL cZ cR cG cH : ClassId} {D : va_G} {A : Nat → Prop} {X : va_W} {R : List (Nat × Nat)} {F : List (Nat × Nat × Nat)} {H : Heap}
theorem bg_merge {L1 L2 : List Nat} {f1 f2 : Nat → va_E} {kd1 kd2 : Nat → Nat} (hD : va_D A (X ++ (va_pl L1 f1 ++ va_pl L2 f2))) (h1 : bg cI cL cZ cR cG cH L1 f1 kd1) (h2 : bg cI cL cZ cR cG cH L2 f2 kd2) : ∃ f kd, va_pl L1 f1 ++ va_pl L2 f2 = va_pl (L1 ++ L2) f ∧ bg cI cL cZ cR cG cH (L1 ++ L2) f kd ∧ (∀ a, a ∈ L1 → kd a = kd1 a) ∧ (∀ a, a ∈ L2 → kd a = kd2 a) ∧ (∀ a, a ∈ L2 → f a = f2 a) ∧ (∀ a, a ∈ L1 → f a = f1 a) := by
  have hap : ∀ a, a ∈ L2 → a ∉ L1 := fun a q2 q1 => D_apart (D_right hD) (x := (a, f1 a)) (y := (a, f2 a)) (List.mem_map.mpr ⟨a, q1, rfl⟩) (List.mem_map.mpr ⟨a, q2, rfl⟩) rfl
  refine ⟨fun a => if a ∈ L1 then f1 a else f2 a, fun a => if a ∈ L1 then kd1 a else kd2 a, ?_, ?_, ?_, ?_, ?_, ?_⟩
  · unfold va_pl
    rw [List.map_append]
    congr 1
    · exact List.map_congr_left (fun a ha => by show (a, f1 a) = (a, if a ∈ L1 then f1 a else f2 a); rw [if_pos ha])
    · exact List.map_congr_left (fun a ha => by show (a, f2 a) = (a, if a ∈ L1 then f1 a else f2 a); rw [if_neg (hap a ha)])
  · intro a ha
    show okc cI cL cZ cR cG cH (L1 ++ L2) _ (if a ∈ L1 then kd1 a else kd2 a) (if a ∈ L1 then f1 a else f2 a) ∧ zk (if a ∈ L1 then kd1 a else kd2 a) (if a ∈ L1 then f1 a else f2 a)
    rcases List.mem_append.mp ha with q | q
    · rw [if_pos q, if_pos q]
      exact ⟨okc_mono (fun r hr => ⟨List.mem_append_left _ hr, if_pos hr⟩) (h1 a q).1, (h1 a q).2⟩
    · rw [if_neg (hap a q), if_neg (hap a q)]
      exact ⟨okc_mono (fun r hr => ⟨List.mem_append_right _ hr, if_neg (hap r hr)⟩) (h2 a q).1, (h2 a q).2⟩
  · intro a q
    exact if_pos q
  · intro a q
    exact if_neg (hap a q)
  · intro a q
    exact if_neg (hap a q)
  · intro a q
    exact if_pos q
theorem bg_push {L : List Nat} {f : Nat → va_E} {kd : Nat → Nat} {q t : Nat} {e : va_E} (h : bg cI cL cZ cR cG cH L f kd) (hq : q ∉ L) (he : okc cI cL cZ cR cG cH (L ++ [q]) (va_up kd q t) t e ∧ zk t e) : bg cI cL cZ cR cG cH (L ++ [q]) (va_up f q e) (va_up kd q t) := by
  intro a ha
  show okc cI cL cZ cR cG cH (L ++ [q]) (va_up kd q t) (va_up kd q t a) (va_up f q e a) ∧ zk (va_up kd q t a) (va_up f q e a)
  rcases List.mem_append.mp ha with h1 | h1
  · have hne : a ≠ q := fun e9 => hq (by rw [← e9]; exact h1)
    have e1 : va_up kd q t a = kd a := by unfold va_up; rw [if_neg hne]
    have e2 : va_up f q e a = f a := by unfold va_up; rw [if_neg hne]
    rw [e1, e2]
    exact ⟨okc_mono (fun r hr => ⟨List.mem_append_left _ hr, by unfold va_up; rw [if_neg (fun e9 => hq (by rw [← e9]; exact hr))]⟩) (h a h1).1, (h a h1).2⟩
  · obtain rfl := List.mem_singleton.mp h1
    have e1 : va_up kd a t a = t := by unfold va_up; rw [if_pos rfl]
    have e2 : va_up f a e a = e := by unfold va_up; rw [if_pos rfl]
    rw [e1, e2]
    exact he
/-- a new cell that is whole goes into the pool -/
theorem cw_push {L : List Nat} {f : Nat → va_E} {kd : Nat → Nat} {q t : Nat} {e : va_E} (hP : va_P D vwCl ((X ++ va_pl L f) ++ [(q, e)]) H) (hD : va_D A ((X ++ va_pl L f) ++ [(q, e)])) (hB : bg cI cL cZ cR cG cH L f kd) (hR : rs L kd R) (hF : ff L f F) (he : ∀ (L : List Nat) (kd : Nat → Nat), rs L kd R → okc cI cL cZ cR cG cH L kd t e ∧ zk t e) : cw D cI cL cZ cR cG cH A X (R ++ [(q, t)]) F H := by
  have hq : q ∉ L := va_pl_fresh2 hD
  have hm : ∀ r, r ∈ L → r ∈ L ++ [q] ∧ va_up kd q t r = kd r := fun r hr => ⟨List.mem_append_left _ hr, by unfold va_up; rw [if_neg (fun e9 => hq (by rw [← e9]; exact hr))]⟩
  rw [List.append_assoc, va_pl_push hq] at hP hD
  exact ⟨L ++ [q], va_up f q e, va_up kd q t, hP, hD, bg_push hB hq (he _ _ (hR.mono hm)), (hR.mono hm).app (List.mem_append_right _ (List.mem_singleton.mpr rfl)) (by unfold va_up; rw [if_pos rfl]), hF.mono (fun r hr => ⟨List.mem_append_left _ hr, by unfold va_up; rw [if_neg (fun e9 => hq (by rw [← e9]; exact hr))]⟩)⟩
theorem cw_new {L : List Nat} {f : Nat → va_E} {kd : Nat → Nat} {q : Nat} {e : va_E} (hP : va_P D vwCl ((X ++ va_pl L f) ++ [(q, e)]) H) (hD : va_D A ((X ++ va_pl L f) ++ [(q, e)])) (hB : bg cI cL cZ cR cG cH L f kd) (hR : rs L kd R) (hF : ff L f F) : cw D cI cL cZ cR cG cH A (X ++ [(q, e)]) R F H := by
  have pm : ((X ++ va_pl L f) ++ [(q, e)]).Perm ((X ++ [(q, e)]) ++ va_pl L f) := by
    rw [List.append_assoc, List.append_assoc]
    exact List.Perm.append_left X List.perm_append_comm
  exact ⟨L, f, kd, P_perm pm hP, D_perm pm hD, hB, hR, hF⟩
/-- the last of the cells under way goes into the pool -/
theorem cw_xpush {q t : Nat} {e : va_E} (h : cw D cI cL cZ cR cG cH A (X ++ [(q, e)]) R F H) (he : ∀ (L : List Nat) (kd : Nat → Nat), rs L kd R → okc cI cL cZ cR cG cH L kd t e ∧ zk t e) : cw D cI cL cZ cR cG cH A X (R ++ [(q, t)]) F H := by
  obtain ⟨L, f, kd, hP, hD, hB, hR, hF⟩ := h
  have pm : ((X ++ [(q, e)]) ++ va_pl L f).Perm ((X ++ va_pl L f) ++ [(q, e)]) := by
    rw [List.append_assoc, List.append_assoc]
    exact List.Perm.append_left X List.perm_append_comm
  exact cw_push (P_perm pm hP) (D_perm pm hD) hB hR hF he
theorem cw_done {a k : Nat} {e : va_E} (h : cw D cI cL cZ cR cG cH A [(a, e)] R F H) (he : ∀ (L : List Nat) (kd : Nat → Nat), rs L kd R → okc cI cL cZ cR cG cH L kd k e ∧ zk k e) : ∃ w1, va_P D vwCl w1 H ∧ va_D A w1 ∧ bt cI cL cZ cR cG cH k a w1 := by
  obtain ⟨L, f, kd, hP, hD, hB, hR, hF⟩ := cw_xpush (X := []) h he
  have h1 := hR (a, k) (List.mem_append_right _ (List.mem_singleton.mpr rfl))
  exact ⟨va_pl L f, hP, hD, L, f, kd, rfl, hB, h1.1, h1.2⟩
/-- what is known of the made object's fields, beside -/
def btF (cI cL cZ cR cG cH : ClassId) (a : Nat) (w : va_W) : Prop := ∃ r t L f kd, w = va_pl L f ∧ bg cI cL cZ cR cG cH L f kd ∧ rs L kd [(a, 11), (r, 3), (t, 7)] ∧ ff L f [(a, 2, r), (a, 3, t), (r, 0, t)]
theorem cw_doneF {a r t : Nat} {e : va_E} (h : cw D cI cL cZ cR cG cH A [(a, e)] R F H) (he : ∀ (L : List Nat) (kd : Nat → Nat), rs L kd R → okc cI cL cZ cR cG cH L kd 11 e ∧ zk 11 e) (h2 : fldR e 2 = some r) (h3 : fldR e 3 = some t) (hr : (r, 3) ∈ R) (ht : (t, 7) ∈ R) (hf : (r, 0, t) ∈ F) : ∃ w1, va_P D vwCl w1 H ∧ va_D A w1 ∧ btF cI cL cZ cR cG cH a w1 := by
  obtain ⟨L, f, kd, hP, hD, hB, hR, hF⟩ := h
  have pm : ([(a, e)] ++ va_pl L f).Perm ((([] : va_W) ++ va_pl L f) ++ [(a, e)]) := List.perm_append_comm
  have hP1 := P_perm pm hP
  have hD1 := D_perm pm hD
  have hq : a ∉ L := va_pl_fresh2 hD1
  have hm : ∀ r, r ∈ L → r ∈ L ++ [a] ∧ va_up kd a 11 r = kd r := fun r hr => ⟨List.mem_append_left _ hr, by unfold va_up; rw [if_neg (fun e9 => hq (by rw [← e9]; exact hr))]⟩
  have hm2 : ∀ r, r ∈ L → r ∈ L ++ [a] ∧ va_up f a e r = f r := fun r hr => ⟨List.mem_append_left _ hr, by unfold va_up; rw [if_neg (fun e9 => hq (by rw [← e9]; exact hr))]⟩
  rw [List.append_assoc, va_pl_push hq] at hP1 hD1
  have ha : a ∈ L ++ [a] := List.mem_append_right _ (List.mem_singleton.mpr rfl)
  have eka : va_up kd a 11 a = 11 := by unfold va_up; rw [if_pos rfl]
  have efa : va_up f a e a = e := by unfold va_up; rw [if_pos rfl]
  have hR2 := hR.mono hm
  have hF2 := hF.mono hm2
  refine ⟨va_pl (L ++ [a]) (va_up f a e), hP1, hD1, r, t, L ++ [a], va_up f a e, va_up kd a 11, rfl, bg_push hB hq (he _ _ hR2), ?_, ?_⟩
  · intro q hq9
    rcases List.mem_cons.mp hq9 with rfl | hq9
    · exact ⟨ha, eka⟩
    · rcases List.mem_cons.mp hq9 with rfl | hq9
      · exact hR2 _ hr
      · obtain rfl := List.mem_singleton.mp hq9
        exact hR2 _ ht
  · intro q hq9
    rcases List.mem_cons.mp hq9 with rfl | hq9
    · exact ⟨ha, by show fldR (va_up f a e a) 2 = _; rw [efa]; exact h2⟩
    · rcases List.mem_cons.mp hq9 with rfl | hq9
      · exact ⟨ha, by show fldR (va_up f a e a) 3 = _; rw [efa]; exact h3⟩
      · obtain rfl := List.mem_singleton.mp hq9
        exact hF2 _ hf
end CONS
section CONT
variable {p : Program} {l : Launch} {e : Env} {R : Room} {s : State} {m : MethodId} {args : Array Value} {below : List Frame} {meth : Method} {c : Code} {H : Heap} {locs : List Loc} {cells slots : Nat} {Q : State → Prop}
variable {cc : ByteArray} {pc : Nat} {ls : Array Slot} {rest : List Value} {D : va_G} {A : Nat → Prop} {a : Nat} {H0 : Heap} {cI cL cZ cR cG cH : ClassId} {X : va_W} {RR : List (Nat × Nat)} {F : List (Nat × Nat × Nat)}
/-- behind a constructor's call: what it made goes into the pool -/
theorem cs_back {mc ms k b : Nat} {e0 : va_E} {st0 : List Value} {av : Array Value} (hr : va_Run p l e R s m args below meth c H locs cells slots mc ms (F0 m pc ls st0) rest (va_Qv (bt cI cL cZ cR cG cH k b) (qC D cI cL cZ cR cG cH (va_A [(b, e0)] H.size)) (va_A [(b, e0)] H.size) av) (va_A [(b, e0)] H.size))
    (hW : cw D cI cL cZ cR cG cH A (X ++ [(b, e0)]) RR F H) (hS : va_S A H0 H locs) (hA : ∀ q, H0.size ≤ q → A q) (isC isR : List Nat) (hC : isC.map (fun i => (X ++ [(b, e0)])[i]?) = [(b, e0)].map some) (hR : isR.map (fun i => (X ++ [(b, e0)])[i]?) = X.map some) (hn : va_nd isR = true) (hdis : ∀ i ∈ isR, i ∉ isC)
    (kk : ∀ (H1 : Heap) (locs1 : List Loc), cw D cI cL cZ cR cG cH A X (RR ++ [(b, k)]) F H1 → va_S A H0 H1 locs1 → W p l e R s m args below meth c H1 locs1 (cells + mc) (slots + ms) Q (F0 m (pc + 3) ls rest)) : W p l e R s m args below meth c H locs cells slots Q (F0 m pc ls st0) := by
  obtain ⟨L, f, kd, hP, hD, hB, hRs, hFs⟩ := hW
  have hF : ∀ q, va_A [(b, e0)] H.size q → A q := fun q hq => by
    rcases hq with ⟨k9, e9, h9⟩ | h9
    · have h7 := List.mem_of_getElem? h9
      obtain ⟨h8, _⟩ := Prod.mk.inj (List.mem_singleton.mp h7)
      obtain ⟨i, hi⟩ := List.mem_iff_getElem?.mp (show (b, e0) ∈ (X ++ [(b, e0)]) ++ va_pl L f from List.mem_append_left _ (List.mem_append_right _ (List.mem_singleton.mpr rfl)))
      rw [h8]
      exact hD.2 i _ hi
    · exact hA q (Nat.le_trans hS.1 h9)
  refine va_callv hr hS (fun q _ h => hF q h) hF (fun w1 t H1 locs1 ht hvm hw hB1 hz1 hk1 hS1 => ?_)
  obtain ⟨hP1, hK1, hD1⟩ := hB1
  rw [ht] at hP1
  obtain ⟨hP2, hD2⟩ := va_joinQ (wr := X) hP hD isC isR hC hR hn hdis hk1 hF hP1 hD1
  obtain ⟨L1, f1, kd1, rfl, hB2, hb1, hb2⟩ := hw
  rw [List.append_assoc] at hP2 hD2
  obtain ⟨f3, kd3, e3, hB3, h31, h32, h33, _⟩ := bg_merge hD2 hB2 hB
  rw [e3] at hP2 hD2
  exact kk H1 locs1 ⟨L1 ++ L, f3, kd3, hP2, hD2, hB3, (hRs.mono (fun r hr9 => ⟨List.mem_append_right _ hr9, h32 r hr9⟩)).app (List.mem_append_left _ hb1) ((h31 b hb1).trans hb2), hFs.mono (fun r hr9 => ⟨List.mem_append_right _ hr9, h33 r hr9⟩)⟩ hS1
theorem cs_backF {mc ms b : Nat} {e0 : va_E} {st0 : List Value} {av : Array Value} (hr : va_Run p l e R s m args below meth c H locs cells slots mc ms (F0 m pc ls st0) rest (va_Qv (btF cI cL cZ cR cG cH b) (qC D cI cL cZ cR cG cH (va_A [(b, e0)] H.size)) (va_A [(b, e0)] H.size) av) (va_A [(b, e0)] H.size))
    (hW : cw D cI cL cZ cR cG cH A (X ++ [(b, e0)]) RR F H) (hS : va_S A H0 H locs) (hA : ∀ q, H0.size ≤ q → A q) (isC isR : List Nat) (hC : isC.map (fun i => (X ++ [(b, e0)])[i]?) = [(b, e0)].map some) (hR : isR.map (fun i => (X ++ [(b, e0)])[i]?) = X.map some) (hn : va_nd isR = true) (hdis : ∀ i ∈ isR, i ∉ isC)
    (kk : ∀ (r t : Nat) (H1 : Heap) (locs1 : List Loc), cw D cI cL cZ cR cG cH A X (RR ++ [(b, 11), (r, 3), (t, 7)]) (F ++ [(b, 2, r), (b, 3, t), (r, 0, t)]) H1 → va_S A H0 H1 locs1 → W p l e R s m args below meth c H1 locs1 (cells + mc) (slots + ms) Q (F0 m (pc + 3) ls rest)) : W p l e R s m args below meth c H locs cells slots Q (F0 m pc ls st0) := by
  obtain ⟨L, f, kd, hP, hD, hB, hRs, hFs⟩ := hW
  have hF : ∀ q, va_A [(b, e0)] H.size q → A q := fun q hq => by
    rcases hq with ⟨k9, e9, h9⟩ | h9
    · have h7 := List.mem_of_getElem? h9
      obtain ⟨h8, _⟩ := Prod.mk.inj (List.mem_singleton.mp h7)
      obtain ⟨i, hi⟩ := List.mem_iff_getElem?.mp (show (b, e0) ∈ (X ++ [(b, e0)]) ++ va_pl L f from List.mem_append_left _ (List.mem_append_right _ (List.mem_singleton.mpr rfl)))
      rw [h8]
      exact hD.2 i _ hi
    · exact hA q (Nat.le_trans hS.1 h9)
  refine va_callv hr hS (fun q _ h => hF q h) hF (fun w1 t H1 locs1 ht hvm hw hB1 hz1 hk1 hS1 => ?_)
  obtain ⟨hP1, hK1, hD1⟩ := hB1
  rw [ht] at hP1
  obtain ⟨hP2, hD2⟩ := va_joinQ (wr := X) hP hD isC isR hC hR hn hdis hk1 hF hP1 hD1
  obtain ⟨r0, t0, L1, f1, kd1, rfl, hB2, hb1, hb2⟩ := hw
  rw [List.append_assoc] at hP2 hD2
  obtain ⟨f3, kd3, e3, hB3, h31, h32, h33, h34⟩ := bg_merge hD2 hB2 hB
  rw [e3] at hP2 hD2
  refine kk r0 t0 H1 locs1 ⟨L1 ++ L, f3, kd3, hP2, hD2, hB3, fun q hq => ?_, fun q hq => ?_⟩ hS1
  · rcases List.mem_append.mp hq with h9 | h9
    · exact (hRs.mono (fun r hr9 => ⟨List.mem_append_right _ hr9, h32 r hr9⟩)) q h9
    · exact (hb1.mono (fun r hr9 => ⟨List.mem_append_left _ hr9, h31 r hr9⟩)) q h9
  · rcases List.mem_append.mp hq with h9 | h9
    · exact (hFs.mono (fun r hr9 => ⟨List.mem_append_right _ hr9, h33 r hr9⟩)) q h9
    · exact (hb2.mono (fun r hr9 => ⟨List.mem_append_left _ hr9, h34 r hr9⟩)) q h9
theorem cs_I {own : String} {idx maxL nL fr lo mc ms n : Nat} {y : MethodName} {bytes : ByteArray} {Qc : Array Value → State → Outcome → State → Prop} {free : Addr → Prop} {As st0 : List Value} {b : Nat} {e0 : va_E}
    (hx : p.tables.exec = Jvm.exec) (hb : c.code = cc) (hml : c.maxLocals = nL) (hown : s.vm.findClass own = some m.cls) (hU : ∀ w ∈ wsU, w.before args s = true) (hN : nsW s)
    (hM : Met l y (wU y bytes maxL none) { frames := fr, cells := mc, slots := ms, locals := lo } (va_Pc (.ref b :: As) (pC D cI cL cZ cR cG cH H.size [(b, e0)])) Qc mc ms free)
    (h1 : Cond.methodLink own idx y ∈ wsU) (h2 : Cond.instanceMethod y ∈ wsU) (h4 : Cond.initialized y.cls ∈ wsU) (h5 : Cond.code y bytes maxL none ∈ wsU) (hy : y.name = "<init>")
    (hd : y.cls ≠ "java/lang/invoke/MethodHandle" ∧ y.cls ≠ "java/lang/invoke/VarHandle" ∧ (parseMethodDescriptor y.desc).map (fun d => d.parameters.length) = some n) (hR : fr + 1 ≤ R.frames ∧ 8 + (maxL + 11) + lo ≤ R.locals)
    (hK : va_K D vwCl (TY6 cI cL cZ cR cG cH) s) (hW : cw D cI cL cZ cR cG cH A (X ++ [(b, e0)]) RR F H)
    (hl : As.length = n) (hsz : ls.size = nL) (hst : st0 = As.reverse ++ .ref b :: rest) (hWd : (rest.map fun v => v.category).sum ≤ 8) (hdg : decode cc pc = .ok (.invokespecial idx, 3)) (hf : cells + mc ≤ R.cells ∧ slots + ms ≤ R.slots) :
    va_Run p l e R s m args below meth c H locs cells slots mc ms (F0 m pc ls st0) rest (Qc (Value.ref b :: As).toArray) free := by
  obtain ⟨L, f, kd, hP, hD, hB, hRs, hFs⟩ := hW
  have hmem : (b, e0) ∈ (X ++ [(b, e0)]) ++ va_pl L f := List.mem_append_left _ (List.mem_append_right _ (List.mem_singleton.mpr rfl))
  have hPc : va_P D vwCl [(b, e0)] H := fun k q hk => by
    obtain rfl := List.mem_singleton.mp (List.mem_of_getElem? hk)
    obtain ⟨i, hi⟩ := List.mem_iff_getElem?.mp hmem
    exact hP i _ hi
  have hDc : va_D (fun _ => True) [(b, e0)] := D_of (List.nodup_cons.mpr ⟨List.not_mem_nil, List.nodup_nil⟩) (fun _ _ => trivial)
  exact va_runI (Ts := wsU) ⟨hx, hb, hml, hown, hU⟩ hM (cwI n hU (gU_c h5) rfl rfl rfl (hU _ h4) (hU _ h1) (hU _ h2) hy hd hR) ⟨pC_blind, fun U hU' hW' => ⟨rfl, by rw [hU'], by rw [hU']; exact hPc, va_K.moved hW'.alike hK, hDc, hN.warm hW'⟩⟩ rfl hl hsz hst (lv_room hWd) hdg hf
theorem cs_IN {own : String} {idx maxL nL fr lo mc ms n : Nat} {y : MethodName} {bytes : ByteArray} {Qc : Array Value → State → Outcome → State → Prop} {free : Addr → Prop} {As st0 : List Value} {b : Nat} {e0 : va_E}
    (hx : p.tables.exec = Jvm.exec) (hb : c.code = cc) (hml : c.maxLocals = nL) (hown : s.vm.findClass own = some m.cls) (hU : ∀ w ∈ wsU, w.before args s = true) (hN : nsW s)
    (hM : Met l y (wU y bytes maxL none) { frames := fr, cells := mc, slots := ms, locals := lo } (va_Pc (.ref b :: As) (pC D cI cL cZ cR cG cH H.size [(b, e0)])) Qc mc ms free)
    (h1 : va_Nw (.methodLinkNest own idx y "SaidShallow") s) (h2 : Cond.instanceMethod y ∈ wsU) (h4 : Cond.initialized y.cls ∈ wsU) (h5 : Cond.code y bytes maxL none ∈ wsU) (hy : y.name = "<init>")
    (hd : y.cls ≠ "java/lang/invoke/MethodHandle" ∧ y.cls ≠ "java/lang/invoke/VarHandle" ∧ (parseMethodDescriptor y.desc).map (fun d => d.parameters.length) = some n) (hR : fr + 1 ≤ R.frames ∧ 8 + (maxL + 11) + lo ≤ R.locals)
    (hK : va_K D vwCl (TY6 cI cL cZ cR cG cH) s) (hW : cw D cI cL cZ cR cG cH A (X ++ [(b, e0)]) RR F H)
    (hl : As.length = n) (hsz : ls.size = nL) (hst : st0 = As.reverse ++ .ref b :: rest) (hWd : (rest.map fun v => v.category).sum ≤ 8) (hdg : decode cc pc = .ok (.invokespecial idx, 3)) (hf : cells + mc ≤ R.cells ∧ slots + ms ≤ R.slots) :
    va_Run p l e R s m args below meth c H locs cells slots mc ms (F0 m pc ls st0) rest (Qc (Value.ref b :: As).toArray) free := by
  obtain ⟨L, f, kd, hP, hD, hB, hRs, hFs⟩ := hW
  have hmem : (b, e0) ∈ (X ++ [(b, e0)]) ++ va_pl L f := List.mem_append_left _ (List.mem_append_right _ (List.mem_singleton.mpr rfl))
  have hPc : va_P D vwCl [(b, e0)] H := fun k q hk => by
    obtain rfl := List.mem_singleton.mp (List.mem_of_getElem? hk)
    obtain ⟨i, hi⟩ := List.mem_iff_getElem?.mp hmem
    exact hP i _ hi
  have hDc : va_D (fun _ => True) [(b, e0)] := D_of (List.nodup_cons.mpr ⟨List.not_mem_nil, List.nodup_nil⟩) (fun _ _ => trivial)
  exact va_runIN (Ts := wsU) ⟨hx, hb, hml, hown, hU⟩ hM ⟨va_cnB n hU (gU_c h5) rfl rfl rfl h1 (hU _ h4) hd hR, hy, hU _ h2⟩ ⟨pC_blind, fun U hU' hW' => ⟨rfl, by rw [hU'], by rw [hU']; exact hPc, va_K.moved hW'.alike hK, hDc, hN.warm hW'⟩⟩ rfl hl hsz hst (lv_room hWd) hdg hf
theorem cs_newa (hx : p.tables.exec = Jvm.exec) (hb : c.code = cc) {atype : ArrayType} {ty : FieldType} (t0 : Nat) {cA : ClassId} (harr : (Cond.arrayClass (newarray.typeOf atype)).before args s = true) (hty : newarray.typeOf atype = ty) (hra : ∀ c1 : ClassId, va_RA s c1 ty ↔ s.vm.findClass ("[" ++ ty.toString) = some c1) (hK : va_K D vwCl (TY6 cI cL cZ cR cG cH) s) (ht : (TY6 cI cL cZ cR cG cH)[t0]? = some (cA, ty)) (hW : cw D cI cL cZ cR cG cH A X RR F H) (hS : va_S A H0 H locs) (hA : ∀ q, H0.size ≤ q → A q)
    {n : Int32} {N' k : Nat} {a0 : vp_A} (ha : ∀ cA : ClassId, vp_cell cA a0 = arrV cA N' (fun _ => defaultValue ty)) (he : ∀ (L : List Nat) (kd : Nat → Nat), okc cI cL cZ cR cG cH L kd k (.inl (cA, a0)) ∧ zk k (.inl (cA, a0))) (hn : ¬ n < 0) (hN : n.toNatClampNeg = N') (hbytes : N' * componentBytes ty ≤ 536870912) (hcells : cells + 1 ≤ R.cells) (hslots : slots + N' ≤ R.slots) (hdg : decode cc pc = .ok (.newarray atype, 2))
    (kk : ∀ (q : Nat) (H1 : Heap), cw D cI cL cZ cR cG cH A X (RR ++ [(q, k)]) F H1 → va_S A H0 H1 locs → W p l e R s m args below meth c H1 locs (cells + 1) (slots + N') Q (F0 m (pc + 2) ls (.ref q :: rest))) : W p l e R s m args below meth c H locs cells slots Q (F0 m pc ls (.int n :: rest)) := by
  obtain ⟨L, f, kd, hP, hD, hB, hRs, hFs⟩ := hW
  refine va_newa hx hb harr hty hK hP hD hS hA ha hn hN hbytes hcells hslots hdg (fun q cB H1 hK1 hP1 hD1 hS1 => ?_)
  have e1 := (hra _).mp (hK1.2 6 (cB, ty) rfl).2
  have e2 := (hra _).mp (hK.2 t0 (cA, ty) ht).2
  have e3 : cB = cA := Option.some.inj (e1.symm.trans e2)
  subst e3
  exact kk q H1 (cw_push hP1 hD1 hB hRs hFs (fun L kd _ => he L kd)) hS1
end CONT
