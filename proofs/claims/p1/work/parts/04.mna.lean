/-! new T[n][m]: walked here by hand, for no row of the rounds' library has it -/
def mw_o (c : ClassId) (N h : Nat) : Nat → Cell
  | 0 => { cls := c, slots := Array.replicate N .null, vm := .none }
  | i + 1 => (mw_o c N h i).setSlot i (.ref (h + (i + 1)))
def mw_i (k : ClassId) (M : Nat) (d : Value) : Cell := { cls := k, slots := Array.replicate M d, vm := .none }
/-- the state behind i inner rows -/
def mw_s (T : State) (c k : ClassId) (N M : Nat) (d : Value) : Nat → State
  | 0 => T.pushCell (mw_o c N T.heap.size 0)
  | i + 1 => ((mw_s T c k N M d i).pushCell (mw_i k M d)).setCell T.heap.size (mw_o c N T.heap.size (i + 1))
theorem mw_o_ok (c : ClassId) (N h i : Nat) : (mw_o c N h i).cls = c ∧ (mw_o c N h i).vm = .none ∧ (mw_o c N h i).slots.size = N := by
  induction i with
  | zero => exact ⟨rfl, rfl, by simp [mw_o]⟩
  | succ i ih =>
    obtain ⟨h1, h2, h3⟩ := ih
    simp only [mw_o, Cell.setSlot]
    exact ⟨h1, h2, by simpa using h3⟩
theorem mw_s_ok (T : State) (c k : ClassId) (N M : Nat) (d : Value) (i : Nat) : (mw_s T c k N M d i).heap.size = T.heap.size + (i + 1) ∧ (mw_s T c k N M d i).heap[T.heap.size]? = some (mw_o c N T.heap.size i) ∧ (mw_s T c k N M d i).vm = T.vm ∧ (mw_s T c k N M d i).slotsUsed = T.slotsUsed + N + i * M ∧ ∀ a, a < T.heap.size → (mw_s T c k N M d i).heap[a]? = T.heap[a]? := by
  induction i with
  | zero => exact ⟨by simp [mw_s], by simp [mw_s], rfl, by simp [mw_s, mw_o], fun a ha => State.heap_pushCell_of_lt _ _ ha⟩
  | succ i ih =>
    obtain ⟨h1, h2, h3, h4, h5⟩ := ih
    have hlt : T.heap.size < (mw_s T c k N M d i).heap.size := by omega
    have hin : ((mw_s T c k N M d i).pushCell (mw_i k M d)).heap[T.heap.size]? = some (mw_o c N T.heap.size i) := by rw [State.heap_pushCell_of_lt (h := hlt)]; exact h2
    refine ⟨?_, State.heap_setCell_self hin, by simp [mw_s, h3], ?_, fun a ha => ?_⟩
    · simp [mw_s, State.setCell, h1]; omega
    · simp [mw_s, h4, mw_i, Nat.succ_mul]; omega
    · show (((mw_s T c k N M d i).pushCell (mw_i k M d)).setCell T.heap.size _).heap[a]? = _
      rw [State.heap_setCell_other (Nat.ne_of_gt ha), State.heap_pushCell_of_lt (h := Nat.lt_trans ha hlt)]
      exact h5 a ha
theorem mw_s_top (T : State) (f : JFrame) (c k : ClassId) (N M : Nat) (d : Value) (i : Nat) : mw_s (T.setTop f) c k N M d i = (mw_s T c k N M d i).setTop f := by
  induction i with
  | zero => rfl
  | succ i ih => simp only [mw_s, ih, State.heap_setTop, State.pushCell_setTop, State.setCell_setTop]
theorem mw_fits {t : FieldType} (h : t.isReference = true) {v : Value} (hv : v = .null ∨ ∃ a, v = .ref a) : fits t v = true := by
  rcases hv with rfl | ⟨a, rfl⟩ <;> cases t <;> simp [FieldType.isReference] at h <;> rfl
section MWA
variable {E : CtlPost} {e : Env} {d : Bool} {acts : List Action} {s : State}
theorem mw_new {c comp : ClassId} {k : Class} {type : FieldType} {len : Nat} {init : Value} (hk : s.vm.classes[c]? = some k) (hkind : k.kind = .array comp type)
    (hlimit : ¬ len > e.platform.arrayLengthLimit) (hheap : ¬ len * componentBytes type > e.platform.maxHeapBytes) (hfit : fits type init = true) (hdef : init.isDefault = true) {Q : Addr → Pre}
    (h1 : s.heap.size < e.platform.maxCells) (h2 : s.slotsUsed + len ≤ e.platform.maxSlots) (hq : Q s.heap.size d acts (s.pushCell { cls := c, slots := Array.replicate len init, vm := .none })) :
    wp (Jvm.newArray c len init) Q E e d acts s := by
  have hall : ((Array.replicate len init).all (·.isDefault)) = true := by
    rw [Array.all_replicate]
    split <;> simp [hdef]
  have hacts : allocActs (Array.replicate len init) s.heap.size acts = acts := by
    unfold allocActs
    rw [if_pos hall]
  have hslot : ∀ i v, (Array.replicate len init)[i]? = some v → s.fitsSlot c .none i v = true := by
    intro i v hv
    rw [Array.getElem?_replicate] at hv
    by_cases hi : i < len
    · rw [if_pos hi] at hv
      cases hv
      simp [State.fitsSlot, State.slotType?, hk, hkind, hfit]
    · rw [if_neg hi] at hv
      cases hv
  simp only [Jvm.newArray, Jvm.arrayFits, wp_bind', W.ask, W.ite, hlimit, if_false, wp_pure', W.theClass, hk, hkind, hheap, W.alloc, W.stop, Option.some.injEq, exists_eq_left', Array.size_replicate, hacts]
  rw [if_neg (by omega)]
  exact ⟨h1, h2, hslot, hq⟩
theorem mw_make {c comp cc : ClassId} {k kc : Class} {t0 type : FieldType} {n m : Int32} (hk : s.vm.classes[c]? = some k) (hkind : k.kind = .array comp t0) (href : t0.isReference = true)
    (hkc : s.vm.classes[comp]? = some kc) (hkindc : kc.kind = .array cc type) (hn : ¬ n < 0) (hm : ¬ m < 0)
    (hl1 : ¬ n.toNatClampNeg > e.platform.arrayLengthLimit) (hh1 : ¬ n.toNatClampNeg * componentBytes t0 > e.platform.maxHeapBytes) (hl2 : ¬ m.toNatClampNeg > e.platform.arrayLengthLimit) (hh2 : ¬ m.toNatClampNeg * componentBytes type > e.platform.maxHeapBytes)
    (hdf : fits type (defaultValue type) = true) (hdd : (defaultValue type).isDefault = true) (hc : s.heap.size + (1 + n.toNatClampNeg) ≤ e.platform.maxCells) (hs : s.slotsUsed + (n.toNatClampNeg + n.toNatClampNeg * m.toNatClampNeg) ≤ e.platform.maxSlots)
    {Q : Addr → Pre} (hq : ∀ d' acts', Q s.heap.size d' acts' (mw_s s c comp n.toNatClampNeg m.toNatClampNeg (defaultValue type) n.toNatClampNeg)) : wp (multianewarray.make c [n, m]) Q E e d acts s := by
  generalize hN : n.toNatClampNeg = N at *
  generalize hM : m.toNatClampNeg = M at *
  have hfind : ([m].find? (· < 0)) = none := by simp [hm]
  rw [multianewarray.make]
  simp only [wp_bind', W.ite, hn, if_false, wp_pure', W.theClass, hk, hkind, Option.some.injEq, exists_eq_left', hN]
  refine mw_new hk hkind hl1 hh1 (mw_fits href (Or.inl rfl)) rfl (by omega) (by have := Nat.zero_le (N * M); omega) ?_
  simp only [hfind]
  rw [ite_self, wp_bind', Std.Legacy.Range.forIn_eq_forIn_range']
  rw [show ([:N] : Std.Legacy.Range).size = N by simp [Std.Legacy.Range.size]]
  show wp (forIn (List.range' 0 N 1) PUnit.unit _) _ E e d acts _
  refine wp_forIn_inv (fun rest s' => ∃ i, i ≤ N ∧ rest = List.range' i (N - i) ∧ s' = mw_s s c comp N M (defaultValue type) i) _ _ ⟨0, Nat.zero_le _, rfl, rfl⟩ ?_ ?_
  · rintro x rest s' d' acts' Q' ⟨i, hi, hrow, rfl⟩ hnext
    rcases Nat.lt_or_ge i N with hlt | hge
    · rw [show N - i = (N - (i + 1)) + 1 by omega, List.range'_succ] at hrow
      obtain ⟨rfl, hrest⟩ := List.cons.inj hrow
      obtain ⟨g1, g2, g3, g4, -⟩ := mw_s_ok s c comp N M (defaultValue type) x
      obtain ⟨o1, o2, o3⟩ := mw_o_ok c N s.heap.size x
      have hmul : x * M + M ≤ N * M := by
        have h9 := Nat.mul_le_mul_right M (show x + 1 ≤ N from hlt)
        rw [Nat.succ_mul] at h9
        exact h9
      have hlt0 : s.heap.size < (mw_s s c comp N M (defaultValue type) x).heap.size := by omega
      simp only [wp_bind']
      rw [multianewarray.make]
      simp only [wp_bind', W.ite, hm, if_false, wp_pure', W.theClass, g3, hkc, hkindc, Option.some.injEq, exists_eq_left', hM]
      refine mw_new (by rw [g3]; exact hkc) hkindc hl2 hh2 hdf hdd (by omega) (by omega) ?_
      simp only [wp_bind', W.writeLoc, wp_pure']
      refine ⟨mw_o c N s.heap.size x, by rw [State.heap_pushCell_of_lt (h := hlt0)]; exact g2, by rw [o2]; simp, by rw [o3]; exact hlt, ?_, hnext _ _ _ ⟨x + 1, hlt, hrest, ?_⟩⟩
      · rw [o1, o2]
        simp [State.fitsSlot, State.slotType?, g3, hk, hkind, mw_fits href (Or.inr ⟨_, rfl⟩)]
      · rw [g1]
        rfl
    · rw [show N - i = 0 by omega] at hrow
      cases hrow
  · rintro s' d' acts' ⟨i, hi, hrow, rfl⟩
    have hiN : i = N := by
      rcases Nat.lt_or_ge i N with h | h
      · rw [show N - i = (N - (i + 1)) + 1 by omega, List.range'_succ] at hrow
        cases hrow
      · omega
    subst hiN
    simp only [wp_pure']
    exact hq _ _
end MWA
section TKM
variable {p : Program} {l : Launch} {e : Env} {R : Room} {s : State} {m : MethodId} {args : Array Value} {below : List Frame} {meth : Method} {c : Code} {H : Heap} {locs : List Loc} {cells slots : Nat} {Q : State → Prop}
variable {cc : ByteArray} {pc : Nat} {ls : Array Slot} {rest : List Value} {D : va_G} {A : Nat → Prop} {a : Nat} {ws : va_W} {H0 : Heap} {cI cL cZ : ClassId}
theorem mw_stand {T : State} (X : Stand p l e R s m args below meth c T locs cells slots) (cA k : ClassId) (N M : Nat) (d : Value) (i : Nat) : Stand p l e R s m args below meth c (mw_s T cA k N M d i) (locs ++ (List.range i).map (fun j => (⟨T.heap.size, j⟩ : Loc))) (cells + (i + 1)) (slots + N + i * M) := by
  induction i with
  | zero =>
    have h := X.pushed (mw_o cA N T.heap.size 0)
    rw [(mw_o_ok cA N T.heap.size 0).2.2] at h
    simpa [mw_s] using h
  | succ i ih =>
    obtain ⟨h1, h2, -, -, -⟩ := mw_s_ok T cA k N M d i
    have hlt : T.heap.size < (mw_s T cA k N M d i).heap.size := by omega
    have h := (ih.pushed (mw_i k M d)).stored (a := T.heap.size) (cell := mw_o cA N T.heap.size i) (by rw [State.heap_pushCell_of_lt (h := hlt)]; exact h2) i (.ref (T.heap.size + (i + 1)))
    rw [show (mw_i k M d).slots.size = M by simp [mw_i]] at h
    rw [List.range_succ, List.map_append, List.map_singleton, ← List.append_assoc, Nat.succ_mul, ← Nat.add_assoc (slots + N)]
    exact h
theorem mw_over {args' : Array Value} {first U : State} {o : Option Outcome} {idx : List Nat} {t : FieldType} (h : (Cond.arrayOver (.array t)).holds args' first o U idx = true) : ∃ comp c1 k, U.vm.findClass (FieldType.array t).toString = some comp ∧ U.vm.classes[c1]? = some k ∧ k.kind = .array comp (.array t) ∧ U.vm.findClass ("[" ++ (FieldType.array t).toString) = some c1 := by
  simp only [Cond.holds, Cond.value, beq_iff_eq] at h
  cases hc : U.vm.findClass (FieldType.array t).toString with
  | none => simp [hc] at h
  | some comp =>
    simp only [hc, Option.bind_some, Option.bind_eq_some_iff, Option.map_eq_some_iff] at h
    obtain ⟨c1, hi, k, hk, hb⟩ := h
    obtain ⟨hlt, hp, -⟩ := Array.findIdx?_eq_some_iff_getElem.mp hi
    rw [(Array.getElem?_eq_some_iff.mp hk).2] at hp
    cases hkind : k.kind with
    | array component ty =>
      rw [hkind] at hb hp
      simp at hb hp
      exact ⟨comp, c1, k, rfl, hk, by rw [hkind, hp, hb.1], hb.2⟩
    | _ => rw [hkind] at hb; simp at hb
/-- new T[n][m], of which nothing is kept but that it is a reference -/
theorem tk_mna {own : String} {index : Nat} {ty : FieldType} (hx : p.tables.exec = Jvm.exec) (hb : c.code = cc) (hown : s.vm.findClass own = some m.cls) (hclink : (Cond.classLink own index ("[" ++ (FieldType.array ty).toString)).before args s = true) (hover : va_AOA ty s) (harr : (Cond.arrayClass ty).before args s = true)
    (hP : va_P D vwCl ws H) (hD : va_D A ws) (hS : va_S A H0 H locs) (hA : ∀ q, H0.size ≤ q → A q) {n k : Int32} {N' K' : Nat} (hn : ¬ n < 0) (hk : ¬ k < 0) (hN : n.toNatClampNeg = N') (hM : k.toNatClampNeg = K')
    (hb1 : N' * 4 ≤ 536870912) (hb2 : K' * componentBytes ty ≤ 536870912) (hb3 : K' ≤ 536870912) (hdf : fits ty (defaultValue ty) = true) (hdd : (defaultValue ty).isDefault = true) (hcells : cells + (1 + N') ≤ R.cells) (hslots : slots + (N' + N' * K') ≤ R.slots) (hdg : decode cc pc = .ok (.multianewarray index 2, 4))
    (kk : ∀ (q : Nat) (H1 : Heap) (locs1 : List Loc), va_P D vwCl ws H1 → va_D A ws → va_S A H0 H1 locs1 → W p l e R s m args below meth c H1 locs1 (cells + (N' + 1)) (slots + N' + N' * K') Q (F0 m (pc + 4) ls (.ref q :: rest))) : W p l e R s m args below meth c H locs cells slots Q (F0 m pc ls (.int k :: .int n :: rest)) := by
  subst hN
  subst hM
  intro T hT X
  subst hb
  have hpl : e.platform.magicAccessors = ({} : Platform).magicAccessors := by rw [X.admits.platform]
  obtain ⟨comp, cA, kA, hcomp, hkA, hkindA, hnameA⟩ := mw_over (va_AOA.use (A := args) hover)
  obtain ⟨comp', kC, cc1, hcomp', hkC, hkindC⟩ := Cond.arrayClass_spec harr
  have ecomp : comp' = comp := Option.some.inj (hcomp'.symm.trans hcomp)
  subst ecomp
  obtain ⟨c0, hfc0, hcl⟩ := Cond.classLink_spec hown hclink e.platform hpl
  cases hnameA.symm.trans hfc0
  obtain ⟨hg₁, hwarm₁, hready₁⟩ := State.classEntry (e := e) X.warmed hcl
  generalize T.vm.noted m.cls index (.cls cA) = vm₁ at hg₁ hwarm₁ hready₁
  have hal : s.vm.Alike vm₁ := hwarm₁.alike
  obtain ⟨kA₁, hkA₁, heA⟩ := hal.2.2 _ _ hkA
  obtain ⟨kC₁, hkC₁, heC⟩ := hal.2.2 _ _ hkC
  have hkindA₁ : kA₁.kind = .array comp' (.array ty) := by rw [heA]; exact hkindA
  have hkindC₁ : kC₁.kind = .array cc1 ty := by rw [heC]; exact hkindC
  have X₁ := X.noted hwarm₁
  obtain ⟨hr1, hr2⟩ := X.roomAbove hcells hslots
  have hl1 : ¬ n.toNatClampNeg > e.platform.arrayLengthLimit := by rw [Launch.admits_arrayLengthLimit X.admits]; omega
  have hh1 : ¬ n.toNatClampNeg * componentBytes (.array ty) > e.platform.maxHeapBytes := by
    rw [Launch.admits_maxHeapBytes X.admits]
    show ¬ n.toNatClampNeg * 4 > 536870912
    omega
  have hl2 : ¬ k.toNatClampNeg > e.platform.arrayLengthLimit := by rw [Launch.admits_arrayLengthLimit X.admits]; omega
  have hh2 : ¬ k.toNatClampNeg * componentBytes ty > e.platform.maxHeapBytes := by rw [Launch.admits_maxHeapBytes X.admits]; omega
  obtain ⟨f1, -, -, -, f5⟩ := mw_s_ok (T.setVm vm₁) cA comp' n.toNatClampNeg k.toNatClampNeg (defaultValue ty) n.toNatClampNeg
  have XF := mw_stand X₁ cA comp' n.toNatClampNeg k.toNatClampNeg (defaultValue ty) n.toNatClampNeg
  have hTh : (T.setVm vm₁).heap = H := hT
  rw [hTh] at f1 f5
  generalize hF : mw_s (T.setVm vm₁) cA comp' n.toNatClampNeg k.toNatClampNeg (defaultValue ty) n.toNatClampNeg = F at f1 f5 XF
  obtain ⟨t, b1, b2⟩ := kk T.heap.size F.heap _ (hP.kept (fun k9 x h9 => f5 x.1 ((hP k9 x h9).lt))) hD ⟨Nat.le_trans hS.1 (by omega), fun x h1 h2 => (f5 x (Nat.lt_of_lt_of_le h1 hS.1)).trans (hS.2.1 x h1 h2), fun q hq => by
    rcases List.mem_append.mp hq with h | h
    · exact hS.2.2 q h
    · obtain ⟨j, -, rfl⟩ := List.mem_map.mp h
      exact hA _ (by rw [hTh]; exact hS.1)⟩ F rfl XF
  refine ⟨t, ?_, b2⟩
  jvm_step X.here [hx, hdg]
  simp only [multianewarray.sem, wp_bind', W.resolveClassAt_links (State.method?_setTop (F0 m pc ls (.int k :: .int n :: rest)) X.here.top) hg₁]
  rw [W.popN, if_neg (by decide)]
  refine ⟨F0 m pc ls (.int k :: .int n :: rest), State.topJava?_setTop' (s := T.setVm vm₁) _ X.here.top, [.int n, .int k], rest, rfl, rfl, ?_⟩
  simp only [List.mapM_cons, List.mapM_nil, wp_bind', wp_pure']
  refine mw_make (k := kA₁) (kc := kC₁) (comp := comp') (cc := cc1) (t0 := .array ty) (type := ty) hkA₁ hkindA₁ rfl hkC₁ hkindC₁ hn hk hl1 hh1 hl2 hh2 hdf hdd (by show T.heap.size + _ ≤ _; omega) (by show T.slotsUsed + _ ≤ _; omega) (fun d' acts' => ?_)
  rw [show ((T.setTop (F0 m pc ls (.int k :: .int n :: rest))).setVm vm₁).setTop { F0 m pc ls (.int k :: .int n :: rest) with stack := rest } = (T.setVm vm₁).setTop { F0 m pc ls (.int k :: .int n :: rest) with stack := rest } by
    show ((T.setVm vm₁).setTop _).setTop _ = _
    rw [State.setTop_setTop], mw_s_top, hF]
  simp only [wp_bind', W.mark, W.pushRef, State.topJava?_setTop' _ XF.here.top, Option.some.injEq, exists_eq_left', State.setTop_setTop, State.heap_setTop]
  intro acts
  simp [jvm, XF.here.top]
  exact b1
end TKM
