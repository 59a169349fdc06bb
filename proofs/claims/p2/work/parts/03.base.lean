/-! the words that every method here has, the worlds before and behind a call -/
abbrev z0 : Nat → Int32 := fun _ => 0
abbrev TYS (cI cL cZ : ClassId) : List (ClassId × FieldType) := [(cI, .int), (cL, .long), (cZ, .boolean)]
/-- the words that a call takes along: those of the tables that stay as they are -/
def wsU : List Cond := lw_tbl.filter goodWord
abbrev wU (y : MethodName) (c : ByteArray) (n : Nat) (r : Option FieldType) : List Cond := .code y c n r :: wsU
theorem gU_sub {ws : List Cond} (h : ∀ w ∈ ws, w ∈ wsU) : GoodIn wsU ws := fun w hw => ⟨h w hw, good_of_word (List.mem_filter.mp (h w hw)).2⟩
theorem wsU_in : ∀ w ∈ wsU, w ∈ lw_tbl := fun w h => (List.mem_filter.mp h).1
theorem wsU_at {w : Cond} (i : Nat) (h : lw_tbl[i]? = some w) (g : goodWord w = true) : w ∈ wsU := List.mem_filter.mpr ⟨List.mem_of_getElem? h, g⟩
theorem upd_z0 (k : Nat) : upd z0 k 0 = z0 := by funext j; simp [upd, z0]
theorem cpy_z0 (a b n : Nat) : va_cpy z0 z0 a b n = z0 := by funext j; simp [va_cpy, z0]
abbrev w0 : Nat → Int32 := upd z0 41 1
theorem gU_c {y : MethodName} {c : ByteArray} {n : Nat} {r : Option FieldType} (h : Cond.code y c n r ∈ wsU) : GoodIn wsU (wU y c n r) := gU_sub (fun w hw => by
  rcases List.mem_cons.mp hw with e | e
  · rw [e]; exact h
  · exact e)
theorem gU_V {own C : String} {idx : Nat} {y : MethodName} {c : ByteArray} {n : Nat} {r : Option FieldType} (h1 : Cond.methodLink own idx y ∈ wsU) (h2 : Cond.instanceMethod y ∈ wsU) (h3 : Cond.selects C y y ∈ wsU) (h4 : Cond.initialized C ∈ wsU) (h5 : Cond.code y c n r ∈ wsU) : GoodIn wsU (wsV own idx C y (wU y c n r)) := gU_sub (fun w hw => by
  unfold wsV at hw
  rcases List.mem_append.mp hw with q | q
  · simp only [List.mem_cons, List.not_mem_nil, or_false] at q
    rcases q with e | e | e | e <;> (rw [e]; assumption)
  · exact ((gU_c h5) w q).1)
theorem gU_S {own : String} {idx : Nat} {y : MethodName} {c : ByteArray} {n : Nat} {r : Option FieldType} (h1 : Cond.methodLink own idx y ∈ wsU) (h2 : Cond.static y ∈ wsU) (h4 : Cond.initialized own ∈ wsU) (h5 : Cond.code y c n r ∈ wsU) : GoodIn wsU (wsS own idx y (wU y c n r)) := gU_sub (fun w hw => by
  unfold wsS at hw
  rcases List.mem_append.mp hw with q | q
  · simp only [List.mem_cons, List.not_mem_nil, or_false] at q
    rcases q with e | e | e <;> (rw [e]; assumption)
  · exact ((gU_c h5) w q).1)
def va_AOA (ty : FieldType) (U : State) : Prop := (Cond.arrayOver (.array ty)).before #[] U = true
theorem va_AOA.of {ty : FieldType} {A : Array Value} {U : State} (h : (Cond.arrayOver (.array ty)).before A U = true) : va_AOA ty U := h
theorem va_AOA.use {ty : FieldType} {A : Array Value} {U : State} (h : va_AOA ty U) : (Cond.arrayOver (.array ty)).before A U = true := h
theorem va_AOA.moved {ty : FieldType} {u U : State} (hvm : u.vm.Alike U.vm) (h : va_AOA ty u) : va_AOA ty U := by
  unfold va_AOA Cond.before Cond.holds at h ⊢
  simp only [Cond.value, beq_iff_eq] at h ⊢
  cases hc : u.vm.findClass (FieldType.array ty).toString with
  | none => simp [hc] at h
  | some comp =>
    simp only [hc, Option.bind_some, Option.bind_eq_some_iff, Option.map_eq_some_iff] at h
    obtain ⟨c, hi, k, hk, hb⟩ := h
    obtain ⟨k', hk', he⟩ := hvm.2.2 _ _ hk
    have hb0 : ∀ vm : Vm, vm.bare.classes.findIdx? (fun (x : Class) => match x.kind with | .array component _ => component == comp | _ => false) = vm.classes.findIdx? (fun (x : Class) => match x.kind with | .array component _ => component == comp | _ => false) := by
      intro vm
      simp only [Vm.bare, Array.findIdx?_map]
      rfl
    have hi' : U.vm.classes.findIdx? (fun (x : Class) => match x.kind with | .array component _ => component == comp | _ => false) = some c := by
      rw [← hb0]
      first | rw [hvm.bare_eq] | rw [← hvm.bare_eq]
      rw [hb0]
      exact hi
    have f1 : U.vm.findClass (FieldType.array ty).toString = some comp := by rw [hvm.findClass]; exact hc
    rw [f1, Option.bind_some]
    refine Option.bind_eq_some_iff.mpr ⟨c, hi', ?_⟩
    rw [hk', Option.map_some, he, hvm.findClass]
    exact congrArg some hb
/-- the words that a call can't take along: private constructors by nest mates, the classes of arrays of arrays -/
def nsW (U : State) : Prop :=
  va_Nw (.methodLinkNest RX11 15 yX3_init "SaidShallow") U ∧ va_Nw (.methodLinkNest RX7 60 yX4_init "SaidShallow") U ∧ va_Nw (.methodLinkNest RX4 11 yX5_init "SaidShallow") U ∧ va_Nw (.methodLinkNest RX3 20 yX10_init "SaidShallow") U ∧ va_Nw (.methodLinkNest RX3 27 yX8_init "SaidShallow") U ∧ va_Nw (.methodLinkNest RX3 34 yX1_init "SaidShallow") U ∧ va_Nw (.methodLinkNest RX11 32 yX6_init "SaidShallow") U ∧ va_Nw (.methodLinkNest RX11 48 yX2_init "SaidShallow") U ∧ va_Nw (.methodLinkNest RX11 55 yX0_init "SaidShallow") U ∧ va_Nw (.methodLinkNest RX2 197 yX4_isAlways "SaidShallow") U ∧ va_AO "SaidShallow$Rule" U ∧ va_AOA .int U ∧ va_AOA .boolean U
theorem nsW.warm {s U : State} (hW : s.WarmedH U.vm) (h : nsW s) : nsW U := by
  obtain ⟨a1, a2, a3, a4, a5, a6, a7, a8, a9, a10, a11, a12, a13⟩ := h
  exact ⟨a1.warmM hW, a2.warmM hW, a3.warmM hW, a4.warmM hW, a5.warmM hW, a6.warmM hW, a7.warmM hW, a8.warmM hW, a9.warmM hW, a10.warmM hW, a11.moved hW.alike, a12.moved hW.alike, a13.moved hW.alike⟩
theorem nsW.same {s U : State} (hW : s.vm = U.vm) (h : nsW s) : nsW U := by
  obtain ⟨a1, a2, a3, a4, a5, a6, a7, a8, a9, a10, a11, a12, a13⟩ := h
  have hvm : s.vm.Alike U.vm := by rw [hW]; exact Vm.Alike.refl _
  exact ⟨a1.same rfl hW, a2.same rfl hW, a3.same rfl hW, a4.same rfl hW, a5.same rfl hW, a6.same rfl hW, a7.same rfl hW, a8.same rfl hW, a9.same rfl hW, a10.same rfl hW, a11.moved hvm, a12.moved hvm, a13.moved hvm⟩
def pB (D : va_G) (cI cL cZ : ClassId) (sz : Nat) (ws : va_W) : State → Prop := fun U => U.heap.size = sz ∧ va_P D vwCl ws U.heap ∧ va_K D vwCl (TYS cI cL cZ) U ∧ va_D (fun _ => True) ws ∧ nsW U
def qB (D : va_G) (cI cL cZ : ClassId) (A : Nat → Prop) (w1 : va_W) : State → Prop := fun t => va_P D vwCl w1 t.heap ∧ va_K D vwCl (TYS cI cL cZ) t ∧ va_D A w1
theorem pB_blind {av : List Value} {D : va_G} {cI cL cZ : ClassId} {sz : Nat} {ws : va_W} : FrameBlind (va_Pc av (pB D cI cL cZ sz ws)) := fun a U g mk q => by
  obtain ⟨q0, q1, qP, qK, qD, qN⟩ := q
  exact ⟨q0, q1, qP, va_K.moved (u := U) (U := U.calling g mk a) (Vm.Alike.refl U.vm) qK, qD, nsW.same (s := U) (U := U.calling g mk a) rfl qN⟩
abbrev mI (l : Launch) (D : va_G) (cI cL cZ : ClassId) (y : MethodName) (c : ByteArray) (n : Nat) (r : Option FieldType) (fr lo mc ms : Nat) (av : List Value) (sz : Nat) (ws : va_W) (P : Int32 → va_W → Prop) : Prop := Met l y (wU y c n r) { frames := fr, cells := mc, slots := ms, locals := lo } (va_Pc av (pB D cI cL cZ sz ws)) (va_Qi P (qB D cI cL cZ (va_A ws sz)) (va_A ws sz)) mc ms (va_A ws sz)
abbrev mV (l : Launch) (D : va_G) (cI cL cZ : ClassId) (y : MethodName) (c : ByteArray) (n : Nat) (r : Option FieldType) (fr lo mc ms : Nat) (av : List Value) (sz : Nat) (ws : va_W) (P : va_W → Prop) : Prop := Met l y (wU y c n r) { frames := fr, cells := mc, slots := ms, locals := lo } (va_Pc av (pB D cI cL cZ sz ws)) (va_Qv P (qB D cI cL cZ (va_A ws sz)) (va_A ws sz)) mc ms (va_A ws sz)
theorem tk_fm {ws wc : va_W} {is : List Nat} (h : is.map (fun i => ws[i]?) = wc.map some) : is.filterMap (fun i => ws[i]?) = wc := by
  have e : is.filterMap (fun i => ws[i]?) = (is.map (fun i => ws[i]?)).filterMap id := by rw [List.filterMap_map]; rfl
  rw [e, h, List.filterMap_map]
  simp
theorem tk_sub {p k : Int32} (h0 : 0 ≤ k.toInt) (h : k.toInt ≤ p.toInt) : (p - k).toInt = p.toInt - k.toInt := by
  obtain ⟨a, ha, rfl⟩ := nI_of (x := p) (by rw [Int32.lt_iff_toInt_lt, show (0 : Int32).toInt = 0 from rfl]; omega)
  obtain ⟨b, hb, rfl⟩ := nI_of (x := k) (by rw [Int32.lt_iff_toInt_lt, show (0 : Int32).toInt = 0 from rfl]; omega)
  rw [nI_toInt ha, nI_toInt hb] at h ⊢
  rw [pk_sub (by omega), nI_toInt (by omega)]
  omega
section TKC
variable {p : Program} {l : Launch} {e : Env} {R : Room} {s : State} {m : MethodId} {args : Array Value} {below : List Frame} {meth : Method} {c : Code} {H : Heap} {locs : List Loc} {cells slots : Nat} {Q : State → Prop}
variable {cc : ByteArray} {pc : Nat} {ls : Array Slot} {rest : List Value} {D : va_G} {A : Nat → Prop} {a : Nat} {ws : va_W} {H0 : Heap} {cI cL cZ : ClassId}
theorem tk_topi {x y : Int32} (h : x = y) (k : W p l e R s m args below meth c H locs cells slots Q (F0 m pc ls (.int y :: rest))) : W p l e R s m args below meth c H locs cells slots Q (F0 m pc ls (.int x :: rest)) := by rw [h]; exact k
/-- a virtual call by contract -/
theorem tk_V {own C : String} {idx maxL nL fr lo mc ms n : Nat} {y : MethodName} {bytes : ByteArray} {ret : Option FieldType} {Qc : Array Value → State → Outcome → State → Prop} {free : Addr → Prop} {As rest st0 : List Value} {b : Nat} {wc : va_W}
    (hx : p.tables.exec = Jvm.exec) (hb : c.code = cc) (hml : c.maxLocals = nL) (hown : s.vm.findClass own = some m.cls) (hU : ∀ w ∈ wsU, w.before args s = true) (hN : nsW s)
    (hM : Met l y (wU y bytes maxL ret) { frames := fr, cells := mc, slots := ms, locals := lo } (va_Pc (.ref b :: As) (pB D cI cL cZ H.size wc)) Qc mc ms free)
    (h1 : Cond.methodLink own idx y ∈ wsU) (h2 : Cond.instanceMethod y ∈ wsU) (h3 : Cond.selects C y y ∈ wsU) (h4 : Cond.initialized C ∈ wsU) (h5 : Cond.code y bytes maxL ret ∈ wsU)
    (hd : y.cls = C ∧ y.cls ≠ "java/lang/invoke/MethodHandle" ∧ y.cls ≠ "java/lang/invoke/VarHandle" ∧ (parseMethodDescriptor y.desc).map (fun d => d.parameters.length) = some n) (hR : fr + 1 ≤ R.frames ∧ 8 + (maxL + 11) + lo ≤ R.locals)
    (hK : va_K D vwCl (TYS cI cL cZ) s) (hP : va_P D vwCl ws H) (hD : va_D A ws) (isC : List Nat) (hn : va_nd isC = true) (hC : isC.map (fun i => ws[i]?) = wc.map some) (q0 ci : Nat) {q : vw_C} {fs : List Value} (hc : vwCl[ci]? = some q) (he : wc[q0]? = some (b, .inr (ci, fs))) (hq : q.1 = C)
    (hl : As.length = n) (hsz : ls.size = nL) (hst : st0 = As.reverse ++ .ref b :: rest) (hW : (rest.map fun v => v.category).sum ≤ 8) (hdg : decode cc pc = .ok (.invokevirtual idx, 3)) (hf : cells + mc ≤ R.cells ∧ slots + ms ≤ R.slots) :
    va_Run p l e R s m args below meth c H locs cells slots mc ms (F0 m pc ls st0) rest (Qc (Value.ref b :: As).toArray) free := by
  subst hq
  have hPc : va_P D vwCl wc H := hP.sub isC (tk_fm hC)
  have hDc : va_D A wc := hD.sub isC hn hC
  exact va_runV (Ts := wsU) ⟨hx, hb, hml, hown, hU⟩ hM (cwV n hU (gU_V h1 h2 h3 h4 h5) rfl rfl rfl hd hR) ⟨pB_blind, va_recv hK hPc hc he, fun U hU' hW' => ⟨rfl, by rw [hU'], by rw [hU']; exact hPc, va_K.moved hW'.alike hK, hDc.weaken (fun _ _ _ _ => trivial), hN.warm hW'⟩⟩ rfl hl hsz hst (lv_room hW) hdg hf
/-- a static call by contract -/
theorem tk_S {own : String} {idx maxL nL fr lo mc ms n : Nat} {y : MethodName} {bytes : ByteArray} {ret : Option FieldType} {Qc : Array Value → State → Outcome → State → Prop} {free : Addr → Prop} {As rest st0 : List Value} {wc : va_W}
    (hx : p.tables.exec = Jvm.exec) (hb : c.code = cc) (hml : c.maxLocals = nL) (hown : s.vm.findClass own = some m.cls) (hU : ∀ w ∈ wsU, w.before args s = true) (hN : nsW s)
    (hM : Met l y (wU y bytes maxL ret) { frames := fr, cells := mc, slots := ms, locals := lo } (va_Pc As (pB D cI cL cZ H.size wc)) Qc mc ms free)
    (h1 : Cond.methodLink own idx y ∈ wsU) (h2 : Cond.static y ∈ wsU) (h4 : Cond.initialized y.cls ∈ wsU) (h5 : Cond.code y bytes maxL ret ∈ wsU)
    (hd : y.cls ≠ "java/lang/invoke/MethodHandle" ∧ y.cls ≠ "java/lang/invoke/VarHandle" ∧ (parseMethodDescriptor y.desc).map (fun d => d.parameters.length) = some n) (hR : fr + 1 ≤ R.frames ∧ 8 + (maxL + 11) + lo ≤ R.locals)
    (hK : va_K D vwCl (TYS cI cL cZ) s) (hP : va_P D vwCl ws H) (hD : va_D A ws) (isC : List Nat) (hn : va_nd isC = true) (hC : isC.map (fun i => ws[i]?) = wc.map some)
    (hl : As.length = n) (hsz : ls.size = nL) (hst : st0 = As.reverse ++ rest) (hW : (rest.map fun v => v.category).sum ≤ 8) (hdg : decode cc pc = .ok (.invokestatic idx, 3)) (hf : cells + mc ≤ R.cells ∧ slots + ms ≤ R.slots) :
    va_Run p l e R s m args below meth c H locs cells slots mc ms (F0 m pc ls st0) rest (Qc As.toArray) free := by
  have hPc : va_P D vwCl wc H := hP.sub isC (tk_fm hC)
  have hDc : va_D A wc := hD.sub isC hn hC
  exact va_runS (Ts := wsU) ⟨hx, hb, hml, hown, hU⟩ hM ⟨callB_of n hU (gU_c h5) rfl rfl rfl (hU _ h4) (hU _ h1) hd hR, hU _ h2⟩ ⟨pB_blind, fun U hU' hW' => ⟨rfl, by rw [hU'], by rw [hU']; exact hPc, va_K.moved hW'.alike hK, hDc.weaken (fun _ _ _ _ => trivial), hN.warm hW'⟩⟩ rfl hl hsz hst (lv_room hW) hdg hf
/-- a constructor's call by contract -/
theorem tk_I {own : String} {idx maxL nL fr lo mc ms n : Nat} {y : MethodName} {bytes : ByteArray} {Qc : Array Value → State → Outcome → State → Prop} {free : Addr → Prop} {As rest st0 : List Value} {b : Nat} {wc : va_W}
    (hx : p.tables.exec = Jvm.exec) (hb : c.code = cc) (hml : c.maxLocals = nL) (hown : s.vm.findClass own = some m.cls) (hU : ∀ w ∈ wsU, w.before args s = true) (hN : nsW s)
    (hM : Met l y (wU y bytes maxL none) { frames := fr, cells := mc, slots := ms, locals := lo } (va_Pc (.ref b :: As) (pB D cI cL cZ H.size wc)) Qc mc ms free)
    (h1 : Cond.methodLink own idx y ∈ wsU) (h2 : Cond.instanceMethod y ∈ wsU) (h4 : Cond.initialized y.cls ∈ wsU) (h5 : Cond.code y bytes maxL none ∈ wsU) (hy : y.name = "<init>")
    (hd : y.cls ≠ "java/lang/invoke/MethodHandle" ∧ y.cls ≠ "java/lang/invoke/VarHandle" ∧ (parseMethodDescriptor y.desc).map (fun d => d.parameters.length) = some n) (hR : fr + 1 ≤ R.frames ∧ 8 + (maxL + 11) + lo ≤ R.locals)
    (hK : va_K D vwCl (TYS cI cL cZ) s) (hP : va_P D vwCl ws H) (hD : va_D A ws) (isC : List Nat) (hn : va_nd isC = true) (hC : isC.map (fun i => ws[i]?) = wc.map some)
    (hl : As.length = n) (hsz : ls.size = nL) (hst : st0 = As.reverse ++ .ref b :: rest) (hW : (rest.map fun v => v.category).sum ≤ 8) (hdg : decode cc pc = .ok (.invokespecial idx, 3)) (hf : cells + mc ≤ R.cells ∧ slots + ms ≤ R.slots) :
    va_Run p l e R s m args below meth c H locs cells slots mc ms (F0 m pc ls st0) rest (Qc (Value.ref b :: As).toArray) free := by
  have hPc : va_P D vwCl wc H := hP.sub isC (tk_fm hC)
  have hDc : va_D A wc := hD.sub isC hn hC
  exact va_runI (Ts := wsU) ⟨hx, hb, hml, hown, hU⟩ hM (cwI n hU (gU_c h5) rfl rfl rfl (hU _ h4) (hU _ h1) (hU _ h2) hy hd hR) ⟨pB_blind, fun U hU' hW' => ⟨rfl, by rw [hU'], by rw [hU']; exact hPc, va_K.moved hW'.alike hK, hDc.weaken (fun _ _ _ _ => trivial), hN.warm hW'⟩⟩ rfl hl hsz hst (lv_room hW) hdg hf
/-- a private constructor's call, of a nest mate -/
theorem tk_IN {own : String} {idx maxL nL fr lo mc ms n : Nat} {y : MethodName} {bytes : ByteArray} {Qc : Array Value → State → Outcome → State → Prop} {free : Addr → Prop} {As rest st0 : List Value} {b : Nat} {wc : va_W}
    (hx : p.tables.exec = Jvm.exec) (hb : c.code = cc) (hml : c.maxLocals = nL) (hown : s.vm.findClass own = some m.cls) (hU : ∀ w ∈ wsU, w.before args s = true) (hN : nsW s)
    (hM : Met l y (wU y bytes maxL none) { frames := fr, cells := mc, slots := ms, locals := lo } (va_Pc (.ref b :: As) (pB D cI cL cZ H.size wc)) Qc mc ms free)
    (h1 : va_Nw (.methodLinkNest own idx y "SaidShallow") s) (h2 : Cond.instanceMethod y ∈ wsU) (h4 : Cond.initialized y.cls ∈ wsU) (h5 : Cond.code y bytes maxL none ∈ wsU) (hy : y.name = "<init>")
    (hd : y.cls ≠ "java/lang/invoke/MethodHandle" ∧ y.cls ≠ "java/lang/invoke/VarHandle" ∧ (parseMethodDescriptor y.desc).map (fun d => d.parameters.length) = some n) (hR : fr + 1 ≤ R.frames ∧ 8 + (maxL + 11) + lo ≤ R.locals)
    (hK : va_K D vwCl (TYS cI cL cZ) s) (hP : va_P D vwCl ws H) (hD : va_D A ws) (isC : List Nat) (hn : va_nd isC = true) (hC : isC.map (fun i => ws[i]?) = wc.map some)
    (hl : As.length = n) (hsz : ls.size = nL) (hst : st0 = As.reverse ++ .ref b :: rest) (hW : (rest.map fun v => v.category).sum ≤ 8) (hdg : decode cc pc = .ok (.invokespecial idx, 3)) (hf : cells + mc ≤ R.cells ∧ slots + ms ≤ R.slots) :
    va_Run p l e R s m args below meth c H locs cells slots mc ms (F0 m pc ls st0) rest (Qc (Value.ref b :: As).toArray) free := by
  have hPc : va_P D vwCl wc H := hP.sub isC (tk_fm hC)
  have hDc : va_D A wc := hD.sub isC hn hC
  exact va_runIN (Ts := wsU) ⟨hx, hb, hml, hown, hU⟩ hM ⟨va_cnB n hU (gU_c h5) rfl rfl rfl h1 (hU _ h4) hd hR, hy, hU _ h2⟩ ⟨pB_blind, fun U hU' hW' => ⟨rfl, by rw [hU'], by rw [hU']; exact hPc, va_K.moved hW'.alike hK, hDc.weaken (fun _ _ _ _ => trivial), hN.warm hW'⟩⟩ rfl hl hsz hst (lv_room hW) hdg hf
/-- behind a call that answers an int -/
theorem tk_ri {mc ms : Nat} {st0 rest : List Value} {wc wr : va_W} {P : Int32 → va_W → Prop} {av : Array Value} (hr : va_Run p l e R s m args below meth c H locs cells slots mc ms (F0 m pc ls st0) rest (va_Qi P (qB D cI cL cZ (va_A wc H.size)) (va_A wc H.size) av) (va_A wc H.size))
    (hP : va_P D vwCl ws H) (hD : va_D A ws) (hS : va_S A H0 H locs) (hA : ∀ q, H0.size ≤ q → A q) (isC isR : List Nat) (hC : isC.map (fun i => ws[i]?) = wc.map some) (hR : isR.map (fun i => ws[i]?) = wr.map some) (hn : va_nd isR = true) (hdis : ∀ i ∈ isR, i ∉ isC)
    (kk : ∀ (r : Int32) (w1 : va_W) (H1 : Heap) (locs1 : List Loc), P r w1 → va_P D vwCl (wr ++ w1) H1 → va_D A (wr ++ w1) → va_S A H0 H1 locs1 → W p l e R s m args below meth c H1 locs1 (cells + mc) (slots + ms) Q (F0 m (pc + 3) ls (.int r :: rest))) : W p l e R s m args below meth c H locs cells slots Q (F0 m pc ls st0) := by
  have hF := va_free hD hS hA isC hC
  refine va_calli hr hS (fun q _ h => hF q h) hF (fun r w1 t H1 locs1 ht hvm hw hB hz1 hk1 hS1 => ?_)
  obtain ⟨hP1, hK1, hD1⟩ := hB
  rw [ht] at hP1
  obtain ⟨hP2, hD2⟩ := va_join (wr := wr) hP hD isC isR hC hR hn hdis hk1 hF hP1 hD1
  exact kk r w1 H1 locs1 hw hP2 hD2 hS1
/-- behind a call without an answer -/
theorem tk_rv {mc ms : Nat} {st0 rest : List Value} {wc wr : va_W} {P : va_W → Prop} {av : Array Value} (hr : va_Run p l e R s m args below meth c H locs cells slots mc ms (F0 m pc ls st0) rest (va_Qv P (qB D cI cL cZ (va_A wc H.size)) (va_A wc H.size) av) (va_A wc H.size))
    (hP : va_P D vwCl ws H) (hD : va_D A ws) (hS : va_S A H0 H locs) (hA : ∀ q, H0.size ≤ q → A q) (isC isR : List Nat) (hC : isC.map (fun i => ws[i]?) = wc.map some) (hR : isR.map (fun i => ws[i]?) = wr.map some) (hn : va_nd isR = true) (hdis : ∀ i ∈ isR, i ∉ isC)
    (kk : ∀ (w1 : va_W) (H1 : Heap) (locs1 : List Loc), P w1 → va_P D vwCl (wr ++ w1) H1 → va_D A (wr ++ w1) → va_S A H0 H1 locs1 → W p l e R s m args below meth c H1 locs1 (cells + mc) (slots + ms) Q (F0 m (pc + 3) ls rest)) : W p l e R s m args below meth c H locs cells slots Q (F0 m pc ls st0) := by
  have hF := va_free hD hS hA isC hC
  refine va_callv hr hS (fun q _ h => hF q h) hF (fun w1 t H1 locs1 ht hvm hw hB hz1 hk1 hS1 => ?_)
  obtain ⟨hP1, hK1, hD1⟩ := hB
  rw [ht] at hP1
  obtain ⟨hP2, hD2⟩ := va_join (wr := wr) hP hD isC isR hC hR hn hdis hk1 hF hP1 hD1
  exact kk w1 H1 locs1 hw hP2 hD2 hS1
/-- a new array of a known class -/
theorem tk_newa (hx : p.tables.exec = Jvm.exec) (hb : c.code = cc) {atype : ArrayType} {ty : FieldType} (t0 : Nat) {cA : ClassId} (harr : (Cond.arrayClass (newarray.typeOf atype)).before args s = true) (hty : newarray.typeOf atype = ty) (hra : ∀ c1 : ClassId, va_RA s c1 ty ↔ s.vm.findClass ("[" ++ ty.toString) = some c1) (hK : va_K D vwCl (TYS cI cL cZ) s) (ht : (TYS cI cL cZ)[t0]? = some (cA, ty)) (hP : va_P D vwCl ws H) (hD : va_D A ws) (hS : va_S A H0 H locs) (hA : ∀ q, H0.size ≤ q → A q)
    {n : Int32} {N' : Nat} {a0 : vp_A} (ha : ∀ cA : ClassId, vp_cell cA a0 = arrV cA N' (fun _ => defaultValue ty)) (hn : ¬ n < 0) (hN : n.toNatClampNeg = N') (hbytes : N' * componentBytes ty ≤ 536870912) (hcells : cells + 1 ≤ R.cells) (hslots : slots + N' ≤ R.slots) (hdg : decode cc pc = .ok (.newarray atype, 2))
    (kk : ∀ (q : Nat) (H1 : Heap), va_P D vwCl (ws ++ [(q, .inl (cA, a0))]) H1 → va_D A (ws ++ [(q, .inl (cA, a0))]) → va_S A H0 H1 locs →
      W p l e R s m args below meth c H1 locs (cells + 1) (slots + N') Q (F0 m (pc + 2) ls (.ref q :: rest))) : W p l e R s m args below meth c H locs cells slots Q (F0 m pc ls (.int n :: rest)) := by
  refine va_newa hx hb harr hty hK hP hD hS hA ha hn hN hbytes hcells hslots hdg (fun q cB H1 hK1 hP1 hD1 hS1 => ?_)
  have e1 := (hra _).mp (hK1.2 3 (cB, ty) rfl).2
  have e2 := (hra _).mp (hK.2 t0 (cA, ty) ht).2
  have e3 : cB = cA := Option.some.inj (e1.symm.trans e2)
  subst e3
  exact kk q H1 hP1 hD1 hS1
end TKC
