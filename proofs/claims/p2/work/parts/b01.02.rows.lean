section TKN
variable {p : Program} {l : Launch} {e : Env} {R : Room} {s : State} {m : MethodId} {args : Array Value} {below : List Frame} {meth : Method} {c : Code} {H : Heap} {locs : List Loc} {cells slots : Nat} {Q : State → Prop}
variable {cc : ByteArray} {pc : Nat} {ls : Array Slot} {rest : List Value} {D : va_G} {L : List Nat} {f : Nat → va_E} {cI cL cZ cR cG cH : ClassId} {Z : zT}
theorem tk_NiP {own C : String} {idx maxL nL fr lo n : Nat} {y : MethodName} {bytes : ByteArray} {ret : Option FieldType} {As st0 : List Value} {b : Nat} {P : Int32 → (Nat → va_E) → Prop}
    (hx : p.tables.exec = Jvm.exec) (hb : c.code = cc) (hml : c.maxLocals = nL) (hown : s.vm.findClass own = some m.cls) (hU : ∀ w ∈ wsU, w.before args s = true) (hN : nsW s) (hZ : zW Z L s)
    (hM : Met l y (wU y bytes maxL ret) { frames := fr, cells := 0, slots := 0, locals := lo } (va_Pc (.ref b :: As) (pP D cI cL cZ cR cG cH Z L f)) (va_Qi P (qP D cI cL cZ cR cG cH L) (fun q => q ∈ L)) 0 0 (fun q => q ∈ L))
    (h1 : va_Nw (.methodLinkNest own idx y "SaidShallow") s) (h2 : Cond.instanceMethod y ∈ wsU) (h3 : Cond.selects C y y ∈ wsU) (h4 : Cond.initialized y.cls ∈ wsU) (h5 : Cond.code y bytes maxL ret ∈ wsU)
    (hd : y.cls = C ∧ y.cls ≠ "java/lang/invoke/MethodHandle" ∧ y.cls ≠ "java/lang/invoke/VarHandle" ∧ (parseMethodDescriptor y.desc).map (fun d => d.parameters.length) = some n) (hR : fr + 1 ≤ R.frames ∧ 8 + (maxL + 11) + lo ≤ R.locals)
    (hK : va_K D vwCl [(cI, .int), (cL, .long), (cZ, .boolean), (cR, .object "SaidShallow$Rule"), (cG, .array .int), (cH, .array .boolean)] s) (hP : va_P D vwCl (va_pl L f) H) (hD : va_D (fun q => q ∈ L) (va_pl L f)) (hS : va_S (fun q => q ∈ L) s.heap H locs) (mb : b ∈ L) {fs : List Value} {ci : Nat} (hf : f b = .inr (ci, fs)) (ci0 : Nat) {q : vw_C} (hc : vwCl[ci]? = some q) (hq : q.1 = C) (hl : As.length = n) (hsz : ls.size = nL) (hst : st0 = As.reverse ++ .ref b :: rest) (hW : (rest.map fun v => v.category).sum ≤ 8) (hdg : decode cc pc = .ok (.invokevirtual idx, 3)) (hcs : cells ≤ R.cells ∧ slots ≤ R.slots)
    (kk : ∀ (r : Int32) (f1 : Nat → va_E) (H1 : Heap) (locs1 : List Loc), P r f1 → va_P D vwCl (va_pl L f1) H1 → va_D (fun q => q ∈ L) (va_pl L f1) → va_S (fun q => q ∈ L) s.heap H1 locs1 → W p l e R s m args below meth c H1 locs1 cells slots Q (F0 m (pc + 3) ls (.int r :: rest))) : W p l e R s m args below meth c H locs cells slots Q (F0 m pc ls st0) := by
  subst hq
  obtain ⟨q0, he⟩ := pl_get0 (f := f) mb
  rw [hf] at he
  have hr := va_runVN (Ts := wsU) (e := e) (meth := meth) (cells := cells) (slots := slots) (H := H) (locs := locs) (below := below) (g := F0 m pc ls st0) (rest := rest) ⟨hx, hb, hml, hown, hU⟩ hM ⟨va_cnB n hU (gU_c h5) rfl rfl rfl h1 (hU _ h4) hd.2 hR, hU _ h2, hU _ h3⟩ ⟨pP_blind, va_recv hK hP hc he, fun U hU' hW' => ⟨rfl, by rw [hU']; exact hP, va_K.moved hW'.alike hK, hD.weaken (fun _ _ _ _ => trivial), hN.warm hW', zW.call hW' hU' hS hZ⟩⟩ rfl hl hsz hst (lv_room hW) hdg hcs
  refine va_calli hr hS (fun q _ h => h) (fun q h => h) (fun r f1 t H1 locs1 ht hvm hw hB hz1 hk1 hS1 => ?_)
  obtain ⟨hP1, hK1, hD1⟩ := hB
  rw [ht] at hP1
  exact kk r f1 H1 locs1 hw hP1 hD1 hS1
end TKN
