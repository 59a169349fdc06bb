/-! new T[n][m]: walked here by hand, for no row of the rounds' library has it -/
def mw_o (c : ClassId) (N h : Nat) : Nat → Cell
  | 0 => { cls := c, slots := Array.replicate N .null, vm := .none }
  | i + 1 => (mw_o c N h i).setSlot i (.ref (h + (i + 1)))
def mw_i (k : ClassId) (M : Nat) (d : Value) : Cell := { cls := k, slots := Array.replicate M d, vm := .none }
/-- the state behind i inner rows -/
def mw_s (T : State) (c k : ClassId) (N M : Nat) (d : Value) : Nat → State
  | 0 => T.pushCell (mw_o c N T.heap.size 0)
  | i + 1 => ((mw_s T c k N M d i).pushCell (mw_i k M d)).setCell T.heap.size (mw_o c N T.heap.size (i + 1))
theorem mw_o_ok (c : ClassId) (N h i : Nat) : (mw_o c N h i).cls = c ∧ (mw_o c N h i).vm = .none ∧ (mw_o c N h i).slots.size = N := by
  induction i with
  | zero => exact ⟨rfl, rfl, by simp [mw_o]⟩
  | succ i ih =>
    obtain ⟨h1, h2, h3⟩ := ih
    simp only [mw_o, Cell.setSlot]
    exact ⟨h1, h2, by simpa using h3⟩
theorem mw_s_ok (T : State) (c k : ClassId) (N M : Nat) (d : Value) (i : Nat) : (mw_s T c k N M d i).heap.size = T.heap.size + (i + 1) ∧ (mw_s T c k N M d i).heap[T.heap.size]? = some (mw_o c N T.heap.size i) ∧ (mw_s T c k N M d i).vm = T.vm ∧ (mw_s T c k N M d i).slotsUsed = T.slotsUsed + N + i * M ∧ ∀ a, a < T.heap.size → (mw_s T c k N M d i).heap[a]? = T.heap[a]? := by
  induction i with
  | zero => exact ⟨by simp [mw_s], by simp [mw_s], rfl, by simp [mw_s, mw_o], fun a ha => State.heap_pushCell_of_lt _ _ ha⟩
  | succ i ih =>
    obtain ⟨h1, h2, h3, h4, h5⟩ := ih
    have hlt : T.heap.size < (mw_s T c k N M d i).heap.size := by omega
    have hin : ((mw_s T c k N M d i).pushCell (mw_i k M d)).heap[T.heap.size]? = some (mw_o c N T.heap.size i) := by rw [State.heap_pushCell_of_lt (h := hlt)]; exact h2
    refine ⟨?_, State.heap_setCell_self hin, by simp [mw_s, h3], ?_, fun a ha => ?_⟩
    · simp [mw_s, State.setCell, h1]; omega
    · simp [mw_s, h4, mw_i, Nat.succ_mul]; omega
    · show (((mw_s T c k N M d i).pushCell (mw_i k M d)).setCell T.heap.size _).heap[a]? = _
      rw [State.heap_setCell_other (Nat.ne_of_gt ha), State.heap_pushCell_of_lt (h := Nat.lt_trans ha hlt)]
      exact h5 a ha
theorem mw_inner (T : State) (c k : ClassId) (N M : Nat) (d : Value) (i : Nat) : ∀ j, j < i → (mw_s T c k N M d i).heap[T.heap.size + (j + 1)]? = some (mw_i k M d) := by
  induction i with
  | zero => intro j hj; omega
  | succ i ih =>
    intro j hj
    obtain ⟨h1, -, -, -, -⟩ := mw_s_ok T c k N M d i
    show (((mw_s T c k N M d i).pushCell (mw_i k M d)).setCell T.heap.size _).heap[T.heap.size + (j + 1)]? = _
    rw [State.heap_setCell_other (show T.heap.size ≠ T.heap.size + (j + 1) by omega)]
    by_cases hji : j = i
    · subst hji
      rw [show T.heap.size + (j + 1) = (mw_s T c k N M d j).heap.size by omega]
      simp
    · rw [State.heap_pushCell_of_lt (h := show T.heap.size + (j + 1) < (mw_s T c k N M d i).heap.size by omega)]
      exact ih j (by omega)
theorem mw_store (c : ClassId) (N k : Nat) (f : Nat → Value) (v : Value) : (arrV c N f).setSlot k v = arrV c N (fun j => if j = k then v else f j) := by
  show ({ cls := c, slots := (Array.ofFn (n := N) fun j => f j.val).setIfInBounds k v, vm := .none } : Cell) = ({ cls := c, slots := Array.ofFn (n := N) fun j => (if j.val = k then v else f j.val), vm := .none } : Cell)
  have h : (Array.ofFn (n := N) fun j => f j.val).setIfInBounds k v = Array.ofFn (n := N) fun j => (if j.val = k then v else f j.val) := by
    apply Array.ext
    · simp
    · intro j h1 h2
      have h3 : j < (Array.ofFn (n := N) fun j => f j.val).size := by simpa using h1
      rw [Array.getElem_setIfInBounds h3, Array.getElem_ofFn, Array.getElem_ofFn]
      by_cases h : k = j
      · rw [if_pos h, if_pos h.symm]
      · rw [if_neg h, if_neg (fun e => h e.symm)]
  rw [h]
theorem mw_o_arr (c : ClassId) (N h i : Nat) : mw_o c N h i = arrV c N (fun j => if j < i then .ref (h + (j + 1)) else .null) := by
  induction i with
  | zero =>
    show ({ cls := c, slots := Array.replicate N .null, vm := .none } : Cell) = _
    rw [arrV_new]
    congr 1
  | succ i ih =>
    show (mw_o c N h i).setSlot i (.ref (h + (i + 1))) = _
    rw [ih, mw_store]
    congr 1
    funext j
    by_cases h1 : j = i
    · subst h1; rw [if_pos rfl, if_pos (by omega)]
    · rw [if_neg h1]
      by_cases h2 : j < i
      · rw [if_pos h2, if_pos (by omega)]
      · rw [if_neg h2, if_neg (by omega)]
theorem mw_s_top (T : State) (f : JFrame) (c k : ClassId) (N M : Nat) (d : Value) (i : Nat) : mw_s (T.setTop f) c k N M d i = (mw_s T c k N M d i).setTop f := by
  induction i with
  | zero => rfl
  | succ i ih => simp only [mw_s, ih, State.heap_setTop, State.pushCell_setTop, State.setCell_setTop]
theorem mw_fits {t : FieldType} (h : t.isReference = true) {v : Value} (hv : v = .null ∨ ∃ a, v = .ref a) : fits t v = true := by
  rcases hv with rfl | ⟨a, rfl⟩ <;> cases t <;> simp [FieldType.isReference] at h <;> rfl
section MWA
variable {E : CtlPost} {e : Env} {d : Bool} {acts : List Action} {s : State}
theorem mw_new {c comp : ClassId} {k : Class} {type : FieldType} {len : Nat} {init : Value} (hk : s.vm.classes[c]? = some k) (hkind : k.kind = .array comp type)
    (hlimit : ¬ len > e.platform.arrayLengthLimit) (hheap : ¬ len * componentBytes type > e.platform.maxHeapBytes) (hfit : fits type init = true) (hdef : init.isDefault = true) {Q : Addr → Pre}
    (h1 : s.heap.size < e.platform.maxCells) (h2 : s.slotsUsed + len ≤ e.platform.maxSlots) (hq : Q s.heap.size d acts (s.pushCell { cls := c, slots := Array.replicate len init, vm := .none })) :
    wp (Jvm.newArray c len init) Q E e d acts s := by
  have hall : ((Array.replicate len init).all (·.isDefault)) = true := by
    rw [Array.all_replicate]
    split <;> simp [hdef]
  have hacts : allocActs (Array.replicate len init) s.heap.size acts = acts := by
    unfold allocActs
    rw [if_pos hall]
  have hslot : ∀ i v, (Array.replicate len init)[i]? = some v → s.fitsSlot c .none i v = true := by
    intro i v hv
    rw [Array.getElem?_replicate] at hv
    by_cases hi : i < len
    · rw [if_pos hi] at hv
      cases hv
      simp [State.fitsSlot, State.slotType?, hk, hkind, hfit]
    · rw [if_neg hi] at hv
      cases hv
  simp only [Jvm.newArray, Jvm.arrayFits, wp_bind', W.ask, W.ite, hlimit, if_false, wp_pure', W.theClass, hk, hkind, hheap, W.alloc, W.stop, Option.some.injEq, exists_eq_left', Array.size_replicate, hacts]
  rw [if_neg (by omega)]
  exact ⟨h1, h2, hslot, hq⟩
theorem mw_make {c comp cc : ClassId} {k kc : Class} {t0 type : FieldType} {n m : Int32} (hk : s.vm.classes[c]? = some k) (hkind : k.kind = .array comp t0) (href : t0.isReference = true)
    (hkc : s.vm.classes[comp]? = some kc) (hkindc : kc.kind = .array cc type) (hn : ¬ n < 0) (hm : ¬ m < 0)
    (hl1 : ¬ n.toNatClampNeg > e.platform.arrayLengthLimit) (hh1 : ¬ n.toNatClampNeg * componentBytes t0 > e.platform.maxHeapBytes) (hl2 : ¬ m.toNatClampNeg > e.platform.arrayLengthLimit) (hh2 : ¬ m.toNatClampNeg * componentBytes type > e.platform.maxHeapBytes)
    (hdf : fits type (defaultValue type) = true) (hdd : (defaultValue type).isDefault = true) (hc : s.heap.size + (1 + n.toNatClampNeg) ≤ e.platform.maxCells) (hs : s.slotsUsed + (n.toNatClampNeg + n.toNatClampNeg * m.toNatClampNeg) ≤ e.platform.maxSlots)
    {Q : Addr → Pre} (hq : ∀ d' acts', Q s.heap.size d' acts' (mw_s s c comp n.toNatClampNeg m.toNatClampNeg (defaultValue type) n.toNatClampNeg)) : wp (multianewarray.make c [n, m]) Q E e d acts s := by
  generalize hN : n.toNatClampNeg = N at *
  generalize hM : m.toNatClampNeg = M at *
  have hfind : ([m].find? (· < 0)) = none := by simp [hm]
  rw [multianewarray.make]
  simp only [wp_bind', W.ite, hn, if_false, wp_pure', W.theClass, hk, hkind, Option.some.injEq, exists_eq_left', hN]
  refine mw_new hk hkind hl1 hh1 (mw_fits href (Or.inl rfl)) rfl (by omega) (by have := Nat.zero_le (N * M); omega) ?_
  simp only [hfind]
  rw [ite_self, wp_bind', Std.Legacy.Range.forIn_eq_forIn_range']
  rw [show ([:N] : Std.Legacy.Range).size = N by simp [Std.Legacy.Range.size]]
  show wp (forIn (List.range' 0 N 1) PUnit.unit _) _ E e d acts _
  refine wp_forIn_inv (fun rest s' => ∃ i, i ≤ N ∧ rest = List.range' i (N - i) ∧ s' = mw_s s c comp N M (defaultValue type) i) _ _ ⟨0, Nat.zero_le _, rfl, rfl⟩ ?_ ?_
  · rintro x rest s' d' acts' Q' ⟨i, hi, hrow, rfl⟩ hnext
    rcases Nat.lt_or_ge i N with hlt | hge
    · rw [show N - i = (N - (i + 1)) + 1 by omega, List.range'_succ] at hrow
      obtain ⟨rfl, hrest⟩ := List.cons.inj hrow
      obtain ⟨g1, g2, g3, g4, -⟩ := mw_s_ok s c comp N M (defaultValue type) x
      obtain ⟨o1, o2, o3⟩ := mw_o_ok c N s.heap.size x
      have hmul : x * M + M ≤ N * M := by
        have h9 := Nat.mul_le_mul_right M (show x + 1 ≤ N from hlt)
        rw [Nat.succ_mul] at h9
        exact h9
      have hlt0 : s.heap.size < (mw_s s c comp N M (defaultValue type) x).heap.size := by omega
      simp only [wp_bind']
      rw [multianewarray.make]
      simp only [wp_bind', W.ite, hm, if_false, wp_pure', W.theClass, g3, hkc, hkindc, Option.some.injEq, exists_eq_left', hM]
      refine mw_new (by rw [g3]; exact hkc) hkindc hl2 hh2 hdf hdd (by omega) (by omega) ?_
      simp only [wp_bind', W.writeLoc, wp_pure']
      refine ⟨mw_o c N s.heap.size x, by rw [State.heap_pushCell_of_lt (h := hlt0)]; exact g2, by rw [o2]; simp, by rw [o3]; exact hlt, ?_, hnext _ _ _ ⟨x + 1, hlt, hrest, ?_⟩⟩
      · rw [o1, o2]
        simp [State.fitsSlot, State.slotType?, g3, hk, hkind, mw_fits href (Or.inr ⟨_, rfl⟩)]
      · rw [g1]
        rfl
    · rw [show N - i = 0 by omega] at hrow
      cases hrow
  · rintro s' d' acts' ⟨i, hi, hrow, rfl⟩
    have hiN : i = N := by
      rcases Nat.lt_or_ge i N with h | h
      · rw [show N - i = (N - (i + 1)) + 1 by omega, List.range'_succ] at hrow
        cases hrow
      · omega
    subst hiN
    simp only [wp_pure']
    exact hq _ _
end MWA
section TKM
variable {p : Program} {l : Launch} {e : Env} {R : Room} {s : State} {m : MethodId} {args : Array Value} {below : List Frame} {meth : Method} {c : Code} {H : Heap} {locs : List Loc} {cells slots : Nat} {Q : State → Prop}
variable {cc : ByteArray} {pc : Nat} {ls : Array Slot} {rest : List Value} {D : va_G} {A : Nat → Prop} {a : Nat} {ws : va_W} {H0 : Heap} {cI cL cZ : ClassId}
theorem mw_stand {T : State} (X : Stand p l e R s m args below meth c T locs cells slots) (cA k : ClassId) (N M : Nat) (d : Value) (i : Nat) : Stand p l e R s m args below meth c (mw_s T cA k N M d i) (locs ++ (List.range i).map (fun j => (⟨T.heap.size, j⟩ : Loc))) (cells + (i + 1)) (slots + N + i * M) := by
  induction i with
  | zero =>
    have h := X.pushed (mw_o cA N T.heap.size 0)
    rw [(mw_o_ok cA N T.heap.size 0).2.2] at h
    simpa [mw_s] using h
  | succ i ih =>
    obtain ⟨h1, h2, -, -, -⟩ := mw_s_ok T cA k N M d i
    have hlt : T.heap.size < (mw_s T cA k N M d i).heap.size := by omega
    have h := (ih.pushed (mw_i k M d)).stored (a := T.heap.size) (cell := mw_o cA N T.heap.size i) (by rw [State.heap_pushCell_of_lt (h := hlt)]; exact h2) i (.ref (T.heap.size + (i + 1)))
    rw [show (mw_i k M d).slots.size = M by simp [mw_i]] at h
    rw [List.range_succ, List.map_append, List.map_singleton, ← List.append_assoc, Nat.succ_mul, ← Nat.add_assoc (slots + N)]
    exact h
theorem mw_over {args' : Array Value} {first U : State} {o : Option Outcome} {idx : List Nat} {t : FieldType} (h : (Cond.arrayOver (.array t)).holds args' first o U idx = true) : ∃ comp c1 k, U.vm.findClass (FieldType.array t).toString = some comp ∧ U.vm.classes[c1]? = some k ∧ k.kind = .array comp (.array t) ∧ U.vm.findClass ("[" ++ (FieldType.array t).toString) = some c1 := by
  simp only [Cond.holds, Cond.value, beq_iff_eq] at h
  cases hc : U.vm.findClass (FieldType.array t).toString with
  | none => simp [hc] at h
  | some comp =>
    simp only [hc, Option.bind_some, Option.bind_eq_some_iff, Option.map_eq_some_iff] at h
    obtain ⟨c1, hi, k, hk, hb⟩ := h
    obtain ⟨hlt, hp, -⟩ := Array.findIdx?_eq_some_iff_getElem.mp hi
    rw [(Array.getElem?_eq_some_iff.mp hk).2] at hp
    cases hkind : k.kind with
    | array component ty =>
      rw [hkind] at hb hp
      simp at hb hp
      exact ⟨comp, c1, k, rfl, hk, by rw [hkind, hp, hb.1], hb.2⟩
    | _ => rw [hkind] at hb; simp at hb
theorem tk_mnaC {own : String} {index : Nat} {ty : FieldType} (hx : p.tables.exec = Jvm.exec) (hb : c.code = cc) (hown : s.vm.findClass own = some m.cls) (hclink : (Cond.classLink own index ("[" ++ (FieldType.array ty).toString)).before args s = true) (hover : va_AOA ty s) (harr : (Cond.arrayClass ty).before args s = true)
    (hS : va_S A H0 H locs) (hA : ∀ q, H0.size ≤ q → A q) {n k : Int32} {N' K' : Nat} (hn : ¬ n < 0) (hk : ¬ k < 0) (hN : n.toNatClampNeg = N') (hM : k.toNatClampNeg = K')
    (hb1 : N' * 4 ≤ 536870912) (hb2 : K' * componentBytes ty ≤ 536870912) (hb3 : K' ≤ 536870912) (hdf : fits ty (defaultValue ty) = true) (hdd : (defaultValue ty).isDefault = true) (hcells : cells + (1 + N') ≤ R.cells) (hslots : slots + (N' + N' * K') ≤ R.slots) (hdg : decode cc pc = .ok (.multianewarray index 2, 4))
    (kk : ∀ (cA comp : ClassId) (H1 : Heap) (locs1 : List Loc), s.vm.findClass ("[" ++ (FieldType.array ty).toString) = some cA → s.vm.findClass (FieldType.array ty).toString = some comp → H1.size = H.size + (N' + 1) → H1[H.size]? = some (mw_o cA N' H.size N') → (∀ j, j < N' → H1[H.size + (j + 1)]? = some (mw_i comp K' (defaultValue ty))) → (∀ a, a < H.size → H1[a]? = H[a]?) → va_S A H0 H1 locs1 → W p l e R s m args below meth c H1 locs1 (cells + (N' + 1)) (slots + N' + N' * K') Q (F0 m (pc + 4) ls (.ref H.size :: rest))) : W p l e R s m args below meth c H locs cells slots Q (F0 m pc ls (.int k :: .int n :: rest)) := by
  subst hN
  subst hM
  intro T hT X
  subst hT
  subst hb
  have hpl : e.platform.magicAccessors = ({} : Platform).magicAccessors := by rw [X.admits.platform]
  obtain ⟨comp, cA, kA, hcomp, hkA, hkindA, hnameA⟩ := mw_over (va_AOA.use (A := args) hover)
  have hnameA0 := hnameA
  obtain ⟨comp', kC, cc1, hcomp', hkC, hkindC⟩ := Cond.arrayClass_spec harr
  have ecomp : comp' = comp := Option.some.inj (hcomp'.symm.trans hcomp)
  subst ecomp
  obtain ⟨c0, hfc0, hcl⟩ := Cond.classLink_spec hown hclink e.platform hpl
  cases hnameA.symm.trans hfc0
  obtain ⟨hg₁, hwarm₁, hready₁⟩ := State.classEntry (e := e) X.warmed hcl
  generalize T.vm.noted m.cls index (.cls cA) = vm₁ at hg₁ hwarm₁ hready₁
  have hal : s.vm.Alike vm₁ := hwarm₁.alike
  obtain ⟨kA₁, hkA₁, heA⟩ := hal.2.2 _ _ hkA
  obtain ⟨kC₁, hkC₁, heC⟩ := hal.2.2 _ _ hkC
  have hkindA₁ : kA₁.kind = .array comp' (.array ty) := by rw [heA]; exact hkindA
  have hkindC₁ : kC₁.kind = .array cc1 ty := by rw [heC]; exact hkindC
  have X₁ := X.noted hwarm₁
  obtain ⟨hr1, hr2⟩ := X.roomAbove hcells hslots
  have hl1 : ¬ n.toNatClampNeg > e.platform.arrayLengthLimit := by rw [Launch.admits_arrayLengthLimit X.admits]; omega
  have hh1 : ¬ n.toNatClampNeg * componentBytes (.array ty) > e.platform.maxHeapBytes := by
    rw [Launch.admits_maxHeapBytes X.admits]
    show ¬ n.toNatClampNeg * 4 > 536870912
    omega
  have hl2 : ¬ k.toNatClampNeg > e.platform.arrayLengthLimit := by rw [Launch.admits_arrayLengthLimit X.admits]; omega
  have hh2 : ¬ k.toNatClampNeg * componentBytes ty > e.platform.maxHeapBytes := by rw [Launch.admits_maxHeapBytes X.admits]; omega
  obtain ⟨f1, f2, -, -, f5⟩ := mw_s_ok (T.setVm vm₁) cA comp' n.toNatClampNeg k.toNatClampNeg (defaultValue ty) n.toNatClampNeg
  have f6 := mw_inner (T.setVm vm₁) cA comp' n.toNatClampNeg k.toNatClampNeg (defaultValue ty) n.toNatClampNeg
  have XF := mw_stand X₁ cA comp' n.toNatClampNeg k.toNatClampNeg (defaultValue ty) n.toNatClampNeg
  have hTh : (T.setVm vm₁).heap = T.heap := rfl
  rw [hTh] at f1 f2 f5 f6
  generalize hF : mw_s (T.setVm vm₁) cA comp' n.toNatClampNeg k.toNatClampNeg (defaultValue ty) n.toNatClampNeg = F at f1 f2 f5 f6 XF
  obtain ⟨t, b1, b2⟩ := kk cA comp' F.heap _ hnameA0 hcomp (by omega) f2 f6 f5 ⟨Nat.le_trans hS.1 (by omega), fun x h1 h2 => (f5 x (Nat.lt_of_lt_of_le h1 hS.1)).trans (hS.2.1 x h1 h2), fun q hq => by
    rcases List.mem_append.mp hq with h | h
    · exact hS.2.2 q h
    · obtain ⟨j, -, rfl⟩ := List.mem_map.mp h
      exact hA _ (by rw [hTh]; exact hS.1)⟩ F rfl XF
  refine ⟨t, ?_, b2⟩
  jvm_step X.here [hx, hdg]
  simp only [multianewarray.sem, wp_bind', W.resolveClassAt_links (State.method?_setTop (F0 m pc ls (.int k :: .int n :: rest)) X.here.top) hg₁]
  rw [W.popN, if_neg (by decide)]
  refine ⟨F0 m pc ls (.int k :: .int n :: rest), State.topJava?_setTop' (s := T.setVm vm₁) _ X.here.top, [.int n, .int k], rest, rfl, rfl, ?_⟩
  simp only [List.mapM_cons, List.mapM_nil, wp_bind', wp_pure']
  refine mw_make (k := kA₁) (kc := kC₁) (comp := comp') (cc := cc1) (t0 := .array ty) (type := ty) hkA₁ hkindA₁ rfl hkC₁ hkindC₁ hn hk hl1 hh1 hl2 hh2 hdf hdd (by show T.heap.size + _ ≤ _; omega) (by show T.slotsUsed + _ ≤ _; omega) (fun d' acts' => ?_)
  rw [show ((T.setTop (F0 m pc ls (.int k :: .int n :: rest))).setVm vm₁).setTop { F0 m pc ls (.int k :: .int n :: rest) with stack := rest } = (T.setVm vm₁).setTop { F0 m pc ls (.int k :: .int n :: rest) with stack := rest } by
    show ((T.setVm vm₁).setTop _).setTop _ = _
    rw [State.setTop_setTop], mw_s_top, hF]
  simp only [wp_bind', W.mark, W.pushRef, State.topJava?_setTop' _ XF.here.top, Option.some.injEq, exists_eq_left', State.setTop_setTop, State.heap_setTop]
  intro acts
  simp [jvm, XF.here.top]
  exact b1
end TKM
section CSM
variable {p : Program} {l : Launch} {e : Env} {R : Room} {s : State} {m : MethodId} {args : Array Value} {below : List Frame} {meth : Method} {c : Code} {H : Heap} {locs : List Loc} {cells slots : Nat} {Q : State → Prop}
variable {cc : ByteArray} {pc : Nat} {ls : Array Slot} {rest : List Value} {D : va_G} {A : Nat → Prop} {H0 : Heap} {cI cL cZ cR cG cH : ClassId} {X : va_W} {RR : List (Nat × Nat)} {F : List (Nat × Nat × Nat)}
theorem rs.sub {L : List Nat} {kd : Nat → Nat} {R R2 : List (Nat × Nat)} (h : rs L kd R) (hs : ∀ q ∈ R2, q ∈ R) : rs L kd R2 := fun q hq => h q (hs q hq)
theorem cs_mna {own : String} {index kI kG tI tG : Nat} {cA cB : ClassId} {ty : FieldType} (hx : p.tables.exec = Jvm.exec) (hb : c.code = cc) (hown : s.vm.findClass own = some m.cls) (hclink : (Cond.classLink own index ("[" ++ (FieldType.array ty).toString)).before args s = true) (hover : va_AOA ty s) (harr : (Cond.arrayClass ty).before args s = true)
    (hS : va_S A H0 H locs) (hA : ∀ q, H0.size ≤ q → A q) {n k : Int32} {N' K' : Nat} (hn : ¬ n < 0) (hk : ¬ k < 0) (hN : n.toNatClampNeg = N') (hM : k.toNatClampNeg = K')
    (hb1 : N' * 4 ≤ 536870912) (hb2 : K' * componentBytes ty ≤ 536870912) (hb3 : K' ≤ 536870912) (hdf : fits ty (defaultValue ty) = true) (hdd : (defaultValue ty).isDefault = true) (hcells : cells + (1 + N') ≤ R.cells) (hslots : slots + (N' + N' * K') ≤ R.slots)
    (hK : va_K D vwCl (TY6 cI cL cZ cR cG cH) s) (htI : (TY6 cI cL cZ cR cG cH)[tI]? = some (cB, ty)) (htG : (TY6 cI cL cZ cR cG cH)[tG]? = some (cA, .array ty)) (hra : ∀ c1 : ClassId, va_RA s c1 ty ↔ s.vm.findClass (FieldType.array ty).toString = some c1)
    (hcell : ∀ c1 : ClassId, vp_cell c1 (K', .inl z0) = arrV c1 K' (fun _ => defaultValue ty)) (heI : ∀ (L : List Nat) (kd : Nat → Nat), okc cI cL cZ cR cG cH L kd kI (.inl (cB, K', .inl z0)) ∧ zk kI (.inl (cB, K', .inl z0)))
    (heG : ∀ (L : List Nat) (kd : Nat → Nat) (g : Nat → Option Nat), (∀ j, j < N' → ∃ b, g j = some b ∧ b ∈ L ∧ kd b = kI) → okc cI cL cZ cR cG cH L kd kG (.inl (cA, N', .inr (.inr (.inr (.inr g))))) ∧ zk kG (.inl (cA, N', .inr (.inr (.inr (.inr g))))))
    (hW : cw D cI cL cZ cR cG cH A X RR F H) (hdg : decode cc pc = .ok (.multianewarray index 2, 4))
    (kk : ∀ (q : Nat) (H1 : Heap) (locs1 : List Loc), cw D cI cL cZ cR cG cH A X (RR ++ [(q, kG)]) F H1 → va_S A H0 H1 locs1 → W p l e R s m args below meth c H1 locs1 (cells + (N' + 1)) (slots + N' + N' * K') Q (F0 m (pc + 4) ls (.ref q :: rest))) : W p l e R s m args below meth c H locs cells slots Q (F0 m pc ls (.int k :: .int n :: rest)) := by
  obtain ⟨L, f, kd, hP, hD, hB, hRs, hFs⟩ := hW
  refine tk_mnaC hx hb hown hclink hover harr hS hA hn hk hN hM hb1 hb2 hb3 hdf hdd hcells hslots hdg (fun cA9 comp9 H1 locs1 q1 q2 q3 q4 q5 q6 hS1 => ?_)
  have e1 : cA9 = cA := Option.some.inj (q1.symm.trans (hK.2 tG (cA, .array ty) htG).2)
  have e2 : comp9 = cB := Option.some.inj (q2.symm.trans ((hra _).mp (hK.2 tI (cB, ty) htI).2))
  subst e1
  subst e2
  obtain ⟨LI, hLI⟩ : ∃ LI : List Nat, LI = (List.range N').map (fun j => H.size + (j + 1)) := ⟨_, rfl⟩
  have hmI : ∀ a, a ∈ LI ↔ ∃ j, j < N' ∧ a = H.size + (j + 1) := by
    intro a
    rw [hLI, List.mem_map]
    constructor
    · rintro ⟨j, hj, rfl⟩
      exact ⟨j, List.mem_range.mp hj, rfl⟩
    · rintro ⟨j, hj, rfl⟩
      exact ⟨j, List.mem_range.mpr hj, rfl⟩
  have hlt : ∀ q, q ∈ X ++ va_pl L f → q.1 < H.size := by
    intro q hq
    obtain ⟨i, hi⟩ := List.mem_iff_getElem?.mp hq
    exact (hP i q hi).lt
  have hBI : bg cI cL cZ cR cG cH LI (fun _ => .inl (comp9, K', .inl z0)) (fun _ => kI) := fun a _ => heI LI _
  have pm : (X ++ va_pl L f ++ va_pl LI (fun _ => .inl (comp9, K', .inl z0))).Perm (X ++ (va_pl LI (fun _ => .inl (comp9, K', .inl z0)) ++ va_pl L f)) := by
    rw [List.append_assoc]
    exact List.Perm.append_left X List.perm_append_comm
  have hP1 : va_P D vwCl (X ++ va_pl L f ++ va_pl LI (fun _ => .inl (comp9, K', .inl z0))) H1 := by
    intro i q hq
    rcases List.mem_append.mp (List.mem_of_getElem? hq) with h | h
    · obtain ⟨i2, hi2⟩ := List.mem_iff_getElem?.mp h
      exact (hP.kept (fun k9 x h9 => q6 x.1 (hlt x (List.mem_of_getElem? h9)))) i2 q hi2
    · obtain ⟨a, ha, rfl⟩ := List.mem_map.mp h
      obtain ⟨j, hj, rfl⟩ := (hmI a).mp ha
      show H1[H.size + (j + 1)]? = some (vp_cell comp9 (K', .inl z0))
      rw [q5 j hj, hcell]
      exact congrArg some (arrV_new comp9 K' (defaultValue ty))
  have hD1 : va_D A (X ++ va_pl L f ++ va_pl LI (fun _ => .inl (comp9, K', .inl z0))) := by
    refine D_of ?_ ?_
    · rw [List.map_append, List.nodup_append]
      refine ⟨D_nodup hD, ?_, ?_⟩
      · have e5 : (va_pl LI (fun _ => (.inl (comp9, K', .inl z0) : va_E))).map Prod.fst = LI := by
          unfold va_pl
          rw [List.map_map]
          exact List.map_id _
        rw [e5, hLI, List.nodup_iff_pairwise_ne, List.pairwise_map]
        exact List.Pairwise.imp (fun h => by omega) (List.pairwise_lt_range)
      · intro a ha b hb9 e9
        obtain ⟨x, hx9, rfl⟩ := List.mem_map.mp ha
        obtain ⟨y, hy9, rfl⟩ := List.mem_map.mp hb9
        obtain ⟨a2, ha2, rfl⟩ := List.mem_map.mp hy9
        obtain ⟨j, hj, rfl⟩ := (hmI a2).mp ha2
        have h7 := hlt x hx9
        rw [e9] at h7
        simp only at h7
        omega
    · intro q hq
      rcases List.mem_append.mp hq with h | h
      · obtain ⟨i2, hi2⟩ := List.mem_iff_getElem?.mp h
        exact hD.2 i2 q hi2
      · obtain ⟨a, ha, rfl⟩ := List.mem_map.mp h
        obtain ⟨j, hj, rfl⟩ := (hmI a).mp ha
        exact hA _ (Nat.le_trans hS.1 (by simp only; omega))
  have hP2 := P_perm pm hP1
  have hD2 := D_perm pm hD1
  obtain ⟨f3, kd3, e3, hB3, h31, h32, h33, _⟩ := bg_merge hD2 hBI hB
  rw [e3] at hP2 hD2
  have hq : H.size ∉ LI ++ L := by
    intro h
    rcases List.mem_append.mp h with h | h
    · obtain ⟨j, hj, h9⟩ := (hmI _).mp h
      omega
    · have := hlt (H.size, f H.size) (List.mem_append_right _ (List.mem_map.mpr ⟨_, h, rfl⟩))
      simp only at this
      omega
  obtain ⟨g, hg⟩ : ∃ g : Nat → Option Nat, g = fun j => if j < N' then some (H.size + (j + 1)) else none := ⟨_, rfl⟩
  have hcO : mw_o cA9 N' H.size N' = vp_cell cA9 (N', .inr (.inr (.inr (.inr g)))) := by
    rw [mw_o_arr, vp_cell_q]
    congr 1
    funext j
    rw [hg]
    by_cases h1 : j < N'
    · rw [if_pos h1]; simp only [h1, if_true]; rfl
    · rw [if_neg h1]; simp only [h1, if_false]; rfl
  have hP3 : va_P D vwCl ((X ++ va_pl (LI ++ L) f3) ++ [(H.size, .inl (cA9, N', .inr (.inr (.inr (.inr g)))))]) H1 := by
    intro i q hq9
    rcases List.mem_append.mp (List.mem_of_getElem? hq9) with h | h
    · obtain ⟨i2, hi2⟩ := List.mem_iff_getElem?.mp h
      exact hP2 i2 q hi2
    · obtain rfl := List.mem_singleton.mp h
      show H1[H.size]? = some (vp_cell cA9 (N', .inr (.inr (.inr (.inr g)))))
      rw [q4, hcO]
  have hD3 : va_D A ((X ++ va_pl (LI ++ L) f3) ++ [(H.size, .inl (cA9, N', .inr (.inr (.inr (.inr g)))))]) := by
    refine D_of ?_ ?_
    · rw [List.map_append, List.nodup_append]
      refine ⟨D_nodup hD2, List.nodup_cons.mpr ⟨List.not_mem_nil, List.nodup_nil⟩, ?_⟩
      intro a ha b hb9 e9
      obtain rfl := List.mem_singleton.mp hb9
      obtain ⟨x, hx9, rfl⟩ := List.mem_map.mp ha
      rcases List.mem_append.mp hx9 with h | h
      · have h7 := hlt x (List.mem_append_left _ h)
        rw [e9] at h7
        simp only at h7
        omega
      · obtain ⟨a2, ha2, rfl⟩ := List.mem_map.mp h
        exact hq (by have e8 : a2 = H.size := e9; rw [← e8]; exact ha2)
    · intro q hq9
      rcases List.mem_append.mp hq9 with h | h
      · obtain ⟨i2, hi2⟩ := List.mem_iff_getElem?.mp h
        exact hD2.2 i2 q hi2
      · obtain rfl := List.mem_singleton.mp h
        exact hA _ hS.1
  have hR3 : rs (LI ++ L) kd3 (RR ++ LI.map (fun a => (a, kI))) := by
    intro q hq9
    rcases List.mem_append.mp hq9 with h | h
    · exact ⟨List.mem_append_right _ (hRs q h).1, (h32 _ (hRs q h).1).trans (hRs q h).2⟩
    · obtain ⟨a, ha, rfl⟩ := List.mem_map.mp h
      exact ⟨List.mem_append_left _ ha, h31 a ha⟩
  obtain ⟨L4, f4, kd4, p4, d4, b4, r4, g4⟩ := cw_push hP3 hD3 hB3 hR3 (hFs.mono (fun r hr9 => ⟨List.mem_append_right _ hr9, h33 r hr9⟩)) (t := kG) (fun L9 kd9 h9 => heG L9 kd9 g (fun j hj => ⟨H.size + (j + 1), by rw [hg]; simp only [hj, if_true], h9 (H.size + (j + 1), kI) (List.mem_append_right _ (List.mem_map.mpr ⟨_, (hmI _).mpr ⟨j, hj, rfl⟩, rfl⟩))⟩))
  exact kk H.size H1 locs1 ⟨L4, f4, kd4, p4, d4, b4, r4.sub (fun q hq9 => by
    rcases List.mem_append.mp hq9 with h | h
    · exact List.mem_append_left _ (List.mem_append_left _ h)
    · exact List.mem_append_right _ h), g4⟩ hS1
end CSM
