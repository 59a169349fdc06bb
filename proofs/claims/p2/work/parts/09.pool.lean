/-! the cells of one side as a pool: addresses L, kinds kd, contents f; every content as its kind says -/
def GI (ok : Nat → va_E → Prop) (kd : Nat → Nat) (L : List Nat) (f : Nat → va_E) : Prop := ∀ a, a ∈ L → ok (kd a) (f a)
theorem GI.set {ok : Nat → va_E → Prop} {kd : Nat → Nat} {L : List Nat} {f : Nat → va_E} (h : GI ok kd L f) (a : Nat) {e : va_E} (he : ok (kd a) e) : GI ok kd L (va_up f a e) := by
  intro b hb
  by_cases hab : b = a
  · subst hab
    simp only [va_up, if_true]
    exact he
  · simp only [va_up, hab, if_false]
    exact h b hb
theorem up_self {f : Nat → va_E} {a : Nat} {e : va_E} : va_up f a e a = e := by simp [va_up]
theorem up_ne {f : Nat → va_E} {a b : Nat} {e : va_E} (h : b ≠ a) : va_up f a e b = f b := by simp [va_up, h]
theorem kd_ne {kd : Nat → Nat} {a b i j : Nat} (ha : kd a = i) (hb : kd b = j) (h : j ≠ i) : b ≠ a := fun e => h (by rw [← ha, ← hb, e])
/-- a row of n ints within bounds -/
def okI (cI : ClassId) (n : Nat) (lo hi : Int) (e : va_E) : Prop := ∃ g : Nat → Int32, e = .inl (cI, n, .inl g) ∧ ∀ j, lo ≤ (g j).toInt ∧ (g j).toInt ≤ hi
def okJ (cL : ClassId) (n : Nat) (e : va_E) : Prop := ∃ g : Nat → Int64, e = .inl (cL, n, .inr (.inl g))
def okQ (cR : ClassId) (L : List Nat) (kd : Nat → Nat) (n k : Nat) (e : va_E) : Prop := ∃ g : Nat → Option Nat, e = .inl (cR, n, .inr (.inr (.inr (.inr g)))) ∧ ∀ j, j < n → ∃ b, g j = some b ∧ b ∈ L ∧ kd b = k
theorem okI_up {g : Nat → Int32} {lo hi : Int} (h : ∀ j, lo ≤ (g j).toInt ∧ (g j).toInt ≤ hi) {v : Int32} (hv : lo ≤ v.toInt ∧ v.toInt ≤ hi) (i : Nat) : ∀ j, lo ≤ (upd g i v j).toInt ∧ (upd g i v j).toInt ≤ hi := by
  intro j
  by_cases hj : j = i
  · rw [hj, pk_us]; exact hv
  · rw [pk_un hj]; exact h j
theorem okI_cpy {g h : Nat → Int32} {lo hi : Int} (hg : ∀ j, lo ≤ (g j).toInt ∧ (g j).toInt ≤ hi) (hh : ∀ j, lo ≤ (h j).toInt ∧ (h j).toInt ≤ hi) (a b n : Nat) : ∀ j, lo ≤ (va_cpy g h a b n j).toInt ∧ (va_cpy g h a b n j).toInt ≤ hi := by
  intro j
  by_cases h1 : b ≤ j ∧ j < b + n
  · rw [pk_cpy_in h1.1 h1.2]; exact hg _
  · rw [pk_cpy_out (by omega)]; exact hh _
theorem i32_lo (x : Int32) : -2147483648 ≤ x.toInt := by have := Int32.le_toInt x; omega
theorem i32_hi (x : Int32) : x.toInt ≤ 2147483647 := by have := Int32.toInt_lt x; omega
theorem ad_I {x y : Int32} (h1 : -2147483648 ≤ x.toInt + y.toInt) (h2 : x.toInt + y.toInt ≤ 2147483647) : (x + y).toInt = x.toInt + y.toInt := by
  rw [Int32.toInt_add]
  exact Int.bmod_eq_of_le (by omega) (by omega)
theorem sb_I {x y : Int32} (h1 : -2147483648 ≤ x.toInt - y.toInt) (h2 : x.toInt - y.toInt ≤ 2147483647) : (x - y).toInt = x.toInt - y.toInt := by
  rw [Int32.toInt_sub]
  exact Int.bmod_eq_of_le (by omega) (by omega)
theorem ml_I {x y : Int32} (h1 : -2147483648 ≤ x.toInt * y.toInt) (h2 : x.toInt * y.toInt ≤ 2147483647) : (x * y).toInt = x.toInt * y.toInt := by
  rw [Int32.toInt_mul]
  exact Int.bmod_eq_of_le (by omega) (by omega)
/-- x & m, m = 2^k - 1 -/
theorem an_I (x : Int32) {m : Int32} (k : Nat) (hm : m.toBitVec.toNat = 2 ^ k - 1) (hk : k ≤ 30) : 0 ≤ (x &&& m).toInt ∧ (x &&& m).toInt ≤ 2 ^ k - 1 := by
  obtain ⟨j, hj, e⟩ := pk_andE x (m := m) k hm
  have h30 : (2 : Nat) ^ k ≤ 2 ^ 30 := Nat.pow_le_pow_right (by decide) hk
  rw [e, nI_toInt (by omega)]
  have : ((2 : Nat) ^ k : Int) = (2 : Int) ^ k := by norm_cast
  constructor
  · omega
  · have : (j : Int) < ((2 ^ k : Nat) : Int) := by exact_mod_cast hj
    push_cast at this
    omega
abbrev zT : Type := (Nat → Nat) × (Nat → Nat) × Nat × Option Nat
def zL : List Nat := [7, 5, 4, 4, 4, 3, 2, 3, 2, 3]
def zB : List (List Int32) := [[108, 101, 116, 116, 101, 114, 115], [99, 108, 97, 115, 115], [112, 97, 105, 114], [114, 117, 108, 101], [115, 116, 101, 109], [101, 110, 100], [61, 62], [60, 61, 62], [60, 61], [47, 60, 61]]
def zWt (j : Nat) : Value := .int (([43046721, 4782969, 531441, 59049, 6561, 729, 81, 9, 1] : List Int32).getD j 0)
def zR (Z : zT) (U : State) : Prop := vk_R RX2 75 "letters" (Z.1 0) U ∧ vk_R RX2 84 "class" (Z.1 1) U ∧ vk_R RX2 89 "pair" (Z.1 2) U ∧ vk_R RX2 94 "rule" (Z.1 3) U ∧ vk_R RX2 99 "stem" (Z.1 4) U ∧ vk_R RX2 109 "end" (Z.1 5) U ∧ vk_R RX2 179 "=>" (Z.1 6) U ∧ vk_R RX2 188 "<=>" (Z.1 7) U ∧ vk_R RX2 190 "<=" (Z.1 8) U ∧ vk_R RX2 192 "/<=" (Z.1 9) U ∧ vk_R RX12 208 "letters" (Z.1 0) U ∧ vk_R RX12 216 "class" (Z.1 1) U ∧ vk_R RX12 221 "pair" (Z.1 2) U ∧ vk_R RX12 223 "rule" (Z.1 3) U ∧ vk_R RX12 228 "stem" (Z.1 4) U ∧ vk_R RX12 234 "end" (Z.1 5) U
def zW (Z : zT) (L : List Nat) (U : State) : Prop := vk_S 10 zL zB Z.1 Z.2.1 (fun q => q ∈ L) U U.heap ∧ va_Z "java/lang/String" "COMPACT_STRINGS" "Z" (.int 1) (fun q => q ∈ L) U U.heap ∧ va_Z "SaidShallow$Words" "WEIGHTS" "[I" (.ref Z.2.2.1) (fun q => q ∈ L) U U.heap ∧ va_T .int Z.2.2.1 9 zWt (fun q => q ∈ L) U U.heap ∧ va_Z "jdk/internal/util/Preconditions" "SIOOBE_FORMATTER" "Ljava/util/function/BiFunction;" (va_rf Z.2.2.2) (fun q => q ∈ L) U U.heap ∧ zR Z U
theorem zR.warm {Z : zT} {s U : State} (hW : s.WarmedH U.vm) (h : zR Z s) : zR Z U := by
  obtain ⟨a0, a1, a2, a3, a4, a5, a6, a7, a8, a9, a10, a11, a12, a13, a14, a15⟩ := h
  exact ⟨a0.warm hW, a1.warm hW, a2.warm hW, a3.warm hW, a4.warm hW, a5.warm hW, a6.warm hW, a7.warm hW, a8.warm hW, a9.warm hW, a10.warm hW, a11.warm hW, a12.warm hW, a13.warm hW, a14.warm hW, a15.warm hW⟩
theorem zR.same {Z : zT} {s U : State} (hW : s.vm = U.vm) (h : zR Z s) : zR Z U := by
  obtain ⟨a0, a1, a2, a3, a4, a5, a6, a7, a8, a9, a10, a11, a12, a13, a14, a15⟩ := h
  exact ⟨a0.same hW.symm, a1.same hW.symm, a2.same hW.symm, a3.same hW.symm, a4.same hW.symm, a5.same hW.symm, a6.same hW.symm, a7.same hW.symm, a8.same hW.symm, a9.same hW.symm, a10.same hW.symm, a11.same hW.symm, a12.same hW.symm, a13.same hW.symm, a14.same hW.symm, a15.same hW.symm⟩
theorem zW.call {Z : zT} {L : List Nat} {s U : State} {H : Heap} {locs : List Loc} (hW : s.WarmedH U.vm) (hU : U.heap = H) (hS : va_S (fun q => q ∈ L) s.heap H locs) (h : zW Z L s) : zW Z L U := by
  obtain ⟨h1, h2, h3, h4, h5, h6⟩ := h
  refine ⟨?_, ?_, ?_, ?_, ?_, h6.warm hW⟩
  · rw [hU]; exact (h1.moved hW.alike).kept hS.2.1
  · rw [hU]; exact (h2.moved hW.alike).kept hS.2.1
  · rw [hU]; exact (h3.moved hW.alike).kept hS.2.1
  · rw [hU]; exact (h4.moved hW.alike).kept hS.2.1
  · rw [hU]; exact (h5.moved hW.alike).kept hS.2.1
theorem zW.same {Z : zT} {L : List Nat} {s U : State} (hv : s.vm = U.vm) (hh : U.heap = s.heap) (h : zW Z L s) : zW Z L U := by
  have hvm : s.vm.Alike U.vm := by rw [hv]; exact Vm.Alike.refl _
  obtain ⟨h1, h2, h3, h4, h5, h6⟩ := h
  refine ⟨?_, ?_, ?_, ?_, ?_, h6.same hv⟩
  · rw [hh]; exact h1.moved hvm
  · rw [hh]; exact h2.moved hvm
  · rw [hh]; exact h3.moved hvm
  · rw [hh]; exact h4.moved hvm
  · rw [hh]; exact h5.moved hvm
def pP (D : va_G) (cI cL cZ cR cG cH : ClassId) (Z : zT) (L : List Nat) (f : Nat → va_E) : State → Prop := fun U => va_P D vwCl (va_pl L f) U.heap ∧ va_K D vwCl [(cI, .int), (cL, .long), (cZ, .boolean), (cR, .object "SaidShallow$Rule"), (cG, .array .int), (cH, .array .boolean)] U ∧ va_D (fun _ => True) (va_pl L f) ∧ nsW U ∧ zW Z L U
def qP (D : va_G) (cI cL cZ cR cG cH : ClassId) (L : List Nat) (f : Nat → va_E) : State → Prop := fun t => va_P D vwCl (va_pl L f) t.heap ∧ va_K D vwCl [(cI, .int), (cL, .long), (cZ, .boolean), (cR, .object "SaidShallow$Rule"), (cG, .array .int), (cH, .array .boolean)] t ∧ va_D (fun q => q ∈ L) (va_pl L f)
theorem pP_blind {av : List Value} {D : va_G} {cI cL cZ cR cG cH : ClassId} {Z : zT} {L : List Nat} {f : Nat → va_E} : FrameBlind (va_Pc av (pP D cI cL cZ cR cG cH Z L f)) := fun a U g mk q => by
  obtain ⟨q0, qP, qK, qD, qN, qZ⟩ := q
  exact ⟨q0, qP, va_K.moved (u := U) (U := U.calling g mk a) (Vm.Alike.refl U.vm) qK, qD, nsW.same (s := U) (U := U.calling g mk a) rfl qN, zW.same (s := U) (U := U.calling g mk a) rfl rfl qZ⟩
theorem pl_in {L : List Nat} {f : Nat → va_E} {A : Nat → Prop} (h : va_D A (va_pl L f)) : va_D (fun q => q ∈ L) (va_pl L f) := by
  refine ⟨h.1, fun k q hk => ?_⟩
  have hm := List.mem_of_getElem? hk
  obtain ⟨a, ha, e⟩ := List.mem_map.mp hm
  rw [← e]
  exact ha
abbrev mPI (l : Launch) (D : va_G) (cI cL cZ cR cG cH : ClassId) (Z : zT) (y : MethodName) (c : ByteArray) (n : Nat) (r : Option FieldType) (fr lo : Nat) (av : List Value) (L : List Nat) (f : Nat → va_E) (P : Int32 → (Nat → va_E) → Prop) : Prop := Met l y (wU y c n r) { frames := fr, cells := 0, slots := 0, locals := lo } (va_Pc av (pP D cI cL cZ cR cG cH Z L f)) (va_Qi P (qP D cI cL cZ cR cG cH L) (fun q => q ∈ L)) 0 0 (fun q => q ∈ L)
abbrev mPV (l : Launch) (D : va_G) (cI cL cZ cR cG cH : ClassId) (Z : zT) (y : MethodName) (c : ByteArray) (n : Nat) (r : Option FieldType) (fr lo : Nat) (av : List Value) (L : List Nat) (f : Nat → va_E) (P : (Nat → va_E) → Prop) : Prop := Met l y (wU y c n r) { frames := fr, cells := 0, slots := 0, locals := lo } (va_Pc av (pP D cI cL cZ cR cG cH Z L f)) (va_Qv P (qP D cI cL cZ cR cG cH L) (fun q => q ∈ L)) 0 0 (fun q => q ∈ L)
abbrev mPL (l : Launch) (D : va_G) (cI cL cZ cR cG cH : ClassId) (Z : zT) (y : MethodName) (c : ByteArray) (n : Nat) (r : Option FieldType) (fr lo : Nat) (av : List Value) (L : List Nat) (f : Nat → va_E) (P : Int64 → (Nat → va_E) → Prop) : Prop := Met l y (wU y c n r) { frames := fr, cells := 0, slots := 0, locals := lo } (va_Pc av (pP D cI cL cZ cR cG cH Z L f)) (va_Ql P (qP D cI cL cZ cR cG cH L) (fun q => q ∈ L)) 0 0 (fun q => q ∈ L)
section TKP
variable {p : Program} {l : Launch} {e : Env} {R : Room} {s : State} {m : MethodId} {args : Array Value} {below : List Frame} {meth : Method} {c : Code} {H : Heap} {locs : List Loc} {cells slots : Nat} {Q : State → Prop}
variable {cc : ByteArray} {pc : Nat} {ls : Array Slot} {rest : List Value} {D : va_G} {A : Nat → Prop} {a : Nat} {L : List Nat} {f : Nat → va_E} {H0 : Heap} {tys : List (ClassId × FieldType)}
theorem pl_get0 {L : List Nat} {f : Nat → va_E} {a : Nat} (h : a ∈ L) : ∃ k : Nat, (va_pl L f)[k]? = some (a, f a) := va_pl_get (X := []) h
theorem pl_set0 {A : Nat → Prop} {L : List Nat} {f : Nat → va_E} {a k : Nat} {e : va_E} (hD : va_D A (va_pl L f)) (h : a ∈ L) (hk : (va_pl L f)[k]? = some (a, f a)) : (va_pl L f).set k (a, e) = va_pl L (va_up f a e) := va_pl_set (X := []) hD h hk
theorem tk_getP (hx : p.tables.exec = Jvm.exec) (hb : c.code = cc) {own ref C : String} {T : u_T} {N ci index : Nat} {Ts : List Cond} (hts : ∀ w ∈ Ts, w.before args s = true) (hin : ∀ w ∈ u_ws C T N, w ∈ Ts) (hown : s.vm.findClass own = some m.cls) (hK : va_K D vwCl tys s) (hP : va_P D vwCl (va_pl L f) H) (ha : a ∈ L) {fs : List Value} (hf : f a = .inr (ci, fs)) (hc : vwCl[ci]? = some (C, T, N)) (k : Nat) (hk : k < N) (hlink : (Cond.fieldLink own index ref (T k).2.1 (T k).2.2.1).before args s = true) (hsame : ∀ x, s.fieldFound? (T k).1 (T k).2.1 (T k).2.2.1 = some x → s.fieldFound? ref (T k).2.1 (T k).2.2.1 = some x) {v : Value} (hv : fs[k]? = some v) (hdg : decode cc pc = .ok (.getfield index, 3))
    (kk : W p l e R s m args below meth c H locs cells slots Q (F0 m (pc + 3) ls (v :: rest))) : W p l e R s m args below meth c H locs cells slots Q (F0 m pc ls (.ref a :: rest)) := by
  obtain ⟨q0, hq⟩ := pl_get0 (f := f) ha
  rw [hf] at hq
  exact va_get hx hb hts hin hown hK hP q0 hq hc k hk hlink hsame hv hdg kk
theorem tk_putP (hx : p.tables.exec = Jvm.exec) (hb : c.code = cc) {own ref C : String} {T : u_T} {N ci index : Nat} {Ts : List Cond} (hts : ∀ w ∈ Ts, w.before args s = true) (hin : ∀ w ∈ u_ws C T N, w ∈ Ts) (ty0 : Nat → FieldType) (hty : ∀ k, k < N → parseFieldDescriptor (T k).2.2.1 = some (ty0 k)) (hnm : ∀ a, a < N → ∀ b, b < N → a ≠ b → (T a).2.1 ≠ (T b).2.1) (hown : s.vm.findClass own = some m.cls) (hK : va_K D vwCl tys s) (hP : va_P D vwCl (va_pl L f) H) (hD : va_D A (va_pl L f)) (hS0 : va_S A H0 H locs) (ha : a ∈ L) {fs : List Value} (hf : f a = .inr (ci, fs)) (hc : vwCl[ci]? = some (C, T, N)) (k : Nat) (hk : k < N) (hlink : (Cond.fieldLink own index ref (T k).2.1 (T k).2.2.1).before args s = true) (hsame : ∀ x, s.fieldFound? (T k).1 (T k).2.1 (T k).2.2.1 = some x → s.fieldFound? ref (T k).2.1 (T k).2.2.1 = some x) (hfin : (T k).2.2.2 = false) {ty : FieldType} {v : Value} (hd : parseFieldDescriptor (T k).2.2.1 = some ty) (hn : narrow ty v = v) (hfit : fits ty v = true) (hl : k < fs.length)
    (hdg : decode cc pc = .ok (.putfield index, 3)) (kk : ∀ (H1 : Heap) (locs1 : List Loc), va_P D vwCl (va_pl L (va_up f a (.inr (ci, fs.set k v)))) H1 → va_D A (va_pl L (va_up f a (.inr (ci, fs.set k v)))) → va_S A H0 H1 locs1 → W p l e R s m args below meth c H1 locs1 cells slots Q (F0 m (pc + 3) ls rest)) : W p l e R s m args below meth c H locs cells slots Q (F0 m pc ls (v :: .ref a :: rest)) := by
  obtain ⟨q0, hq⟩ := pl_get0 (f := f) ha
  have hq2 := hq
  rw [hf] at hq2
  refine va_put hx hb hts hin ty0 hty hnm hown hK hP hD hS0 q0 hq2 hc k hk hlink hsame hfin hd hn hfit hl hdg (fun H1 locs1 hP1 hD1 hS1 => ?_)
  rw [pl_set0 hD ha hq] at hP1 hD1
  exact kk H1 locs1 hP1 hD1 hS1
theorem tk_ildP (hx : p.tables.exec = Jvm.exec) (hb : c.code = cc) (hK : va_K D vwCl tys s) (hP : va_P D vwCl (va_pl L f) H) (t0 : Nat) {cA : ClassId} {n : Nat} {g : Nat → Int32} (ha : a ∈ L) (hf : f a = .inl (cA, n, .inl g)) (ht : tys[t0]? = some (cA, .int)) {i : Int32} (hin : vp_in i n) (hdg : decode cc pc = .ok (.iaload, 1))
    (kk : W p l e R s m args below meth c H locs cells slots Q (F0 m (pc + 1) ls (.int (g i.toNatClampNeg) :: rest))) : W p l e R s m args below meth c H locs cells slots Q (F0 m pc ls (.int i :: .ref a :: rest)) := by
  obtain ⟨q0, hq⟩ := pl_get0 (f := f) ha
  rw [hf] at hq
  exact va_iald hx hb hK hP q0 t0 hq ht hin hdg kk
theorem tk_istP (hx : p.tables.exec = Jvm.exec) (hb : c.code = cc) (hK : va_K D vwCl tys s) (hP : va_P D vwCl (va_pl L f) H) (hD : va_D A (va_pl L f)) (hS : va_S A H0 H locs) (t0 : Nat) {cA : ClassId} {n : Nat} {g : Nat → Int32} (ha : a ∈ L) (hf : f a = .inl (cA, n, .inl g)) (ht : tys[t0]? = some (cA, .int)) {i x : Int32} (hin : vp_in i n) (hdg : decode cc pc = .ok (.iastore, 1))
    (kk : ∀ (H1 : Heap) (locs1 : List Loc), va_P D vwCl (va_pl L (va_up f a (.inl (cA, n, .inl (upd g i.toNatClampNeg x))))) H1 → va_D A (va_pl L (va_up f a (.inl (cA, n, .inl (upd g i.toNatClampNeg x))))) → va_S A H0 H1 locs1 → W p l e R s m args below meth c H1 locs1 cells slots Q (F0 m (pc + 1) ls rest)) : W p l e R s m args below meth c H locs cells slots Q (F0 m pc ls (.int x :: .int i :: .ref a :: rest)) := by
  obtain ⟨q0, hq⟩ := pl_get0 (f := f) ha
  have hq2 := hq
  rw [hf] at hq2
  refine va_iast hx hb hK hP hD hS q0 t0 hq2 ht hin hdg (fun H1 locs1 hP1 hD1 hS1 => ?_)
  rw [pl_set0 hD ha hq] at hP1 hD1
  exact kk H1 locs1 hP1 hD1 hS1
theorem tk_alenP (hx : p.tables.exec = Jvm.exec) (hb : c.code = cc) (hK : va_K D vwCl tys s) (hP : va_P D vwCl (va_pl L f) H) (t0 : Nat) {cA : ClassId} {x : vp_A} (ha : a ∈ L) (hf : f a = .inl (cA, x)) {ty : FieldType} (ht : tys[t0]? = some (cA, ty)) {v : Int32} (hv : Int32.ofNat x.1 = v) (hdg : decode cc pc = .ok (.arraylength, 1))
    (kk : W p l e R s m args below meth c H locs cells slots Q (F0 m (pc + 1) ls (.int v :: rest))) : W p l e R s m args below meth c H locs cells slots Q (F0 m pc ls (.ref a :: rest)) := by
  obtain ⟨q0, hq⟩ := pl_get0 (f := f) ha
  rw [hf] at hq
  exact va_alen hx hb hK hP q0 t0 hq ht hv hdg kk
theorem tk_aldP (hx : p.tables.exec = Jvm.exec) (hb : c.code = cc) (hK : va_K D vwCl tys s) (hP : va_P D vwCl (va_pl L f) H) (t0 : Nat) {cA : ClassId} {C : String} {n : Nat} {g : Nat → Option Nat} (ha : a ∈ L) (hf : f a = .inl (cA, n, .inr (.inr (.inr (.inr g))))) (ht : tys[t0]? = some (cA, .object C)) {i : Int32} (hin : vp_in i n) {b : Nat} (hg : g i.toNatClampNeg = some b) (hdg : decode cc pc = .ok (.aaload, 1))
    (kk : W p l e R s m args below meth c H locs cells slots Q (F0 m (pc + 1) ls (.ref b :: rest))) : W p l e R s m args below meth c H locs cells slots Q (F0 m pc ls (.int i :: .ref a :: rest)) := by
  obtain ⟨q0, hq⟩ := pl_get0 (f := f) ha
  rw [hf] at hq
  refine va_aldq hx hb hK hP q0 t0 hq ht hin hdg ?_
  rw [hg]
  exact kk
theorem tk_lldP (hx : p.tables.exec = Jvm.exec) (hb : c.code = cc) (hK : va_K D vwCl tys s) (hP : va_P D vwCl (va_pl L f) H) (t0 : Nat) {cA : ClassId} {n : Nat} {g : Nat → Int64} (ha : a ∈ L) (hf : f a = .inl (cA, n, .inr (.inl g))) (ht : tys[t0]? = some (cA, .long)) {i : Int32} (hin : vp_in i n) (hdg : decode cc pc = .ok (.laload, 1))
    (kk : W p l e R s m args below meth c H locs cells slots Q (F0 m (pc + 1) ls (.long (g i.toNatClampNeg) :: rest))) : W p l e R s m args below meth c H locs cells slots Q (F0 m pc ls (.int i :: .ref a :: rest)) := by
  obtain ⟨q0, hq⟩ := pl_get0 (f := f) ha
  rw [hf] at hq
  exact va_lald hx hb hK hP q0 t0 hq ht hin hdg kk
theorem tk_lstP (hx : p.tables.exec = Jvm.exec) (hb : c.code = cc) (hK : va_K D vwCl tys s) (hP : va_P D vwCl (va_pl L f) H) (hD : va_D A (va_pl L f)) (hS : va_S A H0 H locs) (t0 : Nat) {cA : ClassId} {n : Nat} {g : Nat → Int64} (ha : a ∈ L) (hf : f a = .inl (cA, n, .inr (.inl g))) (ht : tys[t0]? = some (cA, .long)) {i : Int32} {x : Int64} (hin : vp_in i n) (hdg : decode cc pc = .ok (.lastore, 1))
    (kk : ∀ (H1 : Heap) (locs1 : List Loc), va_P D vwCl (va_pl L (va_up f a (.inl (cA, n, .inr (.inl (vp_updL g i.toNatClampNeg x)))))) H1 → va_D A (va_pl L (va_up f a (.inl (cA, n, .inr (.inl (vp_updL g i.toNatClampNeg x)))))) → va_S A H0 H1 locs1 → W p l e R s m args below meth c H1 locs1 cells slots Q (F0 m (pc + 1) ls rest)) : W p l e R s m args below meth c H locs cells slots Q (F0 m pc ls (.long x :: .int i :: .ref a :: rest)) := by
  obtain ⟨q0, hq⟩ := pl_get0 (f := f) ha
  have hq2 := hq
  rw [hf] at hq2
  refine va_last hx hb hK hP hD hS q0 t0 hq2 ht hin hdg (fun H1 locs1 hP1 hD1 hS1 => ?_)
  rw [pl_set0 hD ha hq] at hP1 hD1
  exact kk H1 locs1 hP1 hD1 hS1
theorem tk_zldP (hx : p.tables.exec = Jvm.exec) (hb : c.code = cc) (hK : va_K D vwCl tys s) (hP : va_P D vwCl (va_pl L f) H) (t0 : Nat) {cA : ClassId} {n : Nat} {g : Nat → Int32} (ha : a ∈ L) (hf : f a = .inl (cA, n, .inl g)) (ht : tys[t0]? = some (cA, .boolean)) {i : Int32} (hin : vp_in i n) (hdg : decode cc pc = .ok (.baload, 1))
    (kk : W p l e R s m args below meth c H locs cells slots Q (F0 m (pc + 1) ls (.int (g i.toNatClampNeg) :: rest))) : W p l e R s m args below meth c H locs cells slots Q (F0 m pc ls (.int i :: .ref a :: rest)) := by
  obtain ⟨q0, hq⟩ := pl_get0 (f := f) ha
  rw [hf] at hq
  exact va_zald hx hb hK hP q0 t0 hq ht hin hdg kk
theorem tk_zstP (hx : p.tables.exec = Jvm.exec) (hb : c.code = cc) (hK : va_K D vwCl tys s) (hP : va_P D vwCl (va_pl L f) H) (hD : va_D A (va_pl L f)) (hS : va_S A H0 H locs) (t0 : Nat) {cA : ClassId} {n : Nat} {g : Nat → Int32} (ha : a ∈ L) (hf : f a = .inl (cA, n, .inl g)) (ht : tys[t0]? = some (cA, .boolean)) {i x : Int32} (hin : vp_in i n) (hn : vp_nar .boolean x = x) (hdg : decode cc pc = .ok (.bastore, 1))
    (kk : ∀ (H1 : Heap) (locs1 : List Loc), va_P D vwCl (va_pl L (va_up f a (.inl (cA, n, .inl (upd g i.toNatClampNeg x))))) H1 → va_D A (va_pl L (va_up f a (.inl (cA, n, .inl (upd g i.toNatClampNeg x))))) → va_S A H0 H1 locs1 → W p l e R s m args below meth c H1 locs1 cells slots Q (F0 m (pc + 1) ls rest)) : W p l e R s m args below meth c H locs cells slots Q (F0 m pc ls (.int x :: .int i :: .ref a :: rest)) := by
  obtain ⟨q0, hq⟩ := pl_get0 (f := f) ha
  have hq2 := hq
  rw [hf] at hq2
  refine va_zast hx hb hK hP hD hS q0 t0 hq2 ht hin hdg (fun H1 locs1 hP1 hD1 hS1 => ?_)
  rw [hn, pl_set0 hD ha hq] at hP1 hD1
  exact kk H1 locs1 hP1 hD1 hS1
theorem tk_aldA (hx : p.tables.exec = Jvm.exec) (hb : c.code = cc) (hK : va_K D vwCl tys s) (hP : va_P D vwCl (va_pl L f) H) (t0 : Nat) {cA : ClassId} {t : FieldType} {n : Nat} {g : Nat → Option Nat} (ha : a ∈ L) (hf : f a = .inl (cA, n, .inr (.inr (.inr (.inr g))))) (ht : tys[t0]? = some (cA, .array t)) {i : Int32} (hin : vp_in i n) {b : Nat} (hg : g i.toNatClampNeg = some b) (hdg : decode cc pc = .ok (.aaload, 1))
    (kk : W p l e R s m args below meth c H locs cells slots Q (F0 m (pc + 1) ls (.ref b :: rest))) : W p l e R s m args below meth c H locs cells slots Q (F0 m pc ls (.int i :: .ref a :: rest)) := by
  obtain ⟨q0, hq⟩ := pl_get0 (f := f) ha
  rw [hf] at hq
  have hlt : i.toNatClampNeg < n := Nat.not_le.mp fun q => hin (Or.inr q)
  refine W.aald (v := va_rf (g i.toNatClampNeg)) (ty := .array t) hx hb (hP q0 _ hq) ((hK.2 t0 _ ht).1 n (fun j => va_rf (g j))) rfl (fun q => by cases q) (by show ¬ (i < 0 ∨ (arrV _ _ _).slots.size ≤ _); rw [arrV_size]; exact hin) (by show (arrV _ _ _).slots[_]? = _; rw [arrV_read _ _ hlt]) rfl rfl hdg ?_
  rw [hg]
  exact kk
theorem lv_lcmp (hexec : p.tables.exec = Jvm.exec) (hb : c.code = cc) {x y : Int64} (hdg : decode cc pc = .ok (.lcmp, 1))
    (k : ∀ v : Int32, (-1 ≤ v.toInt ∧ v.toInt ≤ 1) → (v.toInt = 0 → x = y) → W p l e R s m args below meth c H locs cells slots Q (F0 m (pc + 1) ls (.int v :: rest))) : W p l e R s m args below meth c H locs cells slots Q (F0 m pc ls (.long y :: .long x :: rest)) := by
  intro T hT X
  by_cases h1 : x > y
  · obtain ⟨t, a, b⟩ := k 1 (by decide) (fun h => absurd h (by decide)) T hT X
    refine ⟨t, ?_, b⟩
    jvm_step X.here [X.here.top, hexec, hb, hdg, h1]
    exact a
  · by_cases h2 : x = y
    · obtain ⟨t, a, b⟩ := k 0 (by decide) (fun _ => h2) T hT X
      refine ⟨t, ?_, b⟩
      subst h2
      jvm_step X.here [X.here.top, hexec, hb, hdg, h1]
      exact a
    · obtain ⟨t, a, b⟩ := k (-1) (by decide) (fun h => absurd h (by decide)) T hT X
      refine ⟨t, ?_, b⟩
      jvm_step X.here [X.here.top, hexec, hb, hdg, h1, h2]
      exact a
end TKP
theorem zb_n {v : Int32} (h : 0 ≤ v.toInt ∧ v.toInt ≤ 1) : narrow .boolean (.int v) = .int v := by
  have h2 : v = 0 ∨ v = 1 := by
    rcases (show v.toInt = 0 ∨ v.toInt = 1 by omega) with q | q
    · exact Or.inl (Int32.toInt_inj.mp (by rw [q]; rfl))
    · exact Or.inr (Int32.toInt_inj.mp (by rw [q]; rfl))
  rcases h2 with rfl | rfl <;> rfl
theorem zb_f {v : Int32} (h : 0 ≤ v.toInt ∧ v.toInt ≤ 1) : fits .boolean (.int v) = true := by
  have h2 : v = 0 ∨ v = 1 := by
    rcases (show v.toInt = 0 ∨ v.toInt = 1 by omega) with q | q
    · exact Or.inl (Int32.toInt_inj.mp (by rw [q]; rfl))
    · exact Or.inr (Int32.toInt_inj.mp (by rw [q]; rfl))
  rcases h2 with rfl | rfl <;> rfl
theorem in_lt {i : Int32} {n : Nat} (h : vp_in i n) : i.toNatClampNeg < n := Nat.not_le.mp fun q => h (Or.inr q)
theorem i8_of {x : Int32} {n : Nat} (h : 0 ≤ x.toInt ∧ x.toInt ≤ n) : ∃ j : Nat, j ≤ n ∧ x = nI j := by
  obtain ⟨j, hj, e⟩ := nI_of (x := x) (by rw [Int32.lt_iff_toInt_lt, show (0 : Int32).toInt = 0 from rfl]; omega)
  refine ⟨j, ?_, e⟩
  rw [e, nI_toInt hj] at h
  omega
theorem or_I {x y : Int32} (hx : 0 ≤ x.toInt ∧ x.toInt ≤ 255) (hy : 0 ≤ y.toInt ∧ y.toInt ≤ 255) : 0 ≤ (x ||| y).toInt ∧ (x ||| y).toInt ≤ 255 := by
  obtain ⟨a, ha, rfl⟩ := i8_of (n := 255) hx
  obtain ⟨b, hb, rfl⟩ := i8_of (n := 255) hy
  have e : nI a ||| nI b = nI (a ||| b) := by
    apply Int32.toBitVec_inj.mp
    apply BitVec.eq_of_toNat_eq
    rw [Int32.toBitVec_or, BitVec.toNat_or, pk_tn (by omega), pk_tn (by omega), pk_tn (by have := Nat.or_lt_two_pow (n := 8) (x := a) (y := b) (by omega) (by omega); omega)]
  have h2 := Nat.or_lt_two_pow (n := 8) (x := a) (y := b) (by omega) (by omega)
  rw [e, nI_toInt (by omega)]
  omega
def fldI (e : va_E) (k : Nat) : Option Int32 := match e with
  | .inr (_, fs) => match fs[k]? with
    | some (.int v) => some v
    | _ => none
  | _ => none
theorem or_K {x y : Int32} (k : Nat) (hk : k ≤ 30) (hx : 0 ≤ x.toInt ∧ x.toInt ≤ ((2 ^ k - 1 : Nat) : Int)) (hy : 0 ≤ y.toInt ∧ y.toInt ≤ ((2 ^ k - 1 : Nat) : Int)) : 0 ≤ (x ||| y).toInt ∧ (x ||| y).toInt ≤ ((2 ^ k - 1 : Nat) : Int) := by
  have hp : 0 < 2 ^ k := Nat.two_pow_pos k
  have h30 : (2 : Nat) ^ k ≤ 2 ^ 30 := Nat.pow_le_pow_right (by decide) hk
  obtain ⟨a, ha, rfl⟩ := i8_of (n := 2 ^ k - 1) hx
  obtain ⟨b, hb, rfl⟩ := i8_of (n := 2 ^ k - 1) hy
  have h2 := Nat.or_lt_two_pow (n := k) (x := a) (y := b) (by omega) (by omega)
  have e : nI a ||| nI b = nI (a ||| b) := by
    apply Int32.toBitVec_inj.mp
    apply BitVec.eq_of_toNat_eq
    rw [Int32.toBitVec_or, BitVec.toNat_or, pk_tn (by omega), pk_tn (by omega), pk_tn (by omega)]
  rw [e, nI_toInt (by omega)]
  omega
theorem an_C (x : Int32) {m : Int32} (hm : 0 ≤ m.toInt) : 0 ≤ (x &&& m).toInt ∧ (x &&& m).toInt ≤ m.toInt := by
  obtain ⟨b, hb, rfl⟩ := nI_of (x := m) (by rw [Int32.lt_iff_toInt_lt, show (0 : Int32).toInt = 0 from rfl]; omega)
  have e : x &&& nI b = nI (x.toBitVec.toNat &&& b) := by
    apply Int32.toBitVec_inj.mp
    apply BitVec.eq_of_toNat_eq
    have h9 : x.toBitVec.toNat &&& b ≤ b := Nat.and_le_right
    rw [Int32.toBitVec_and, BitVec.toNat_and, pk_tn (by omega), pk_tn (by omega)]
  have h9 : x.toBitVec.toNat &&& b ≤ b := Nat.and_le_right
  rw [e, nI_toInt (by omega), nI_toInt hb]
  omega
theorem ml_B {x y : Int32} {a b : Nat} (hx : 0 ≤ x.toInt ∧ x.toInt ≤ (a : Int)) (hy : 0 ≤ y.toInt ∧ y.toInt ≤ (b : Int)) (hab : a * b < 2 ^ 31) : 0 ≤ (x * y).toInt ∧ (x * y).toInt ≤ ((a * b : Nat) : Int) := by
  obtain ⟨i, hi, rfl⟩ := i8_of (n := a) hx
  obtain ⟨j, hj, rfl⟩ := i8_of (n := b) hy
  have h9 : i * j ≤ a * b := Nat.mul_le_mul hi hj
  rw [pk_mul, nI_toInt (by omega)]
  omega
theorem sh_7 {y : Int32} (hy : 0 ≤ y.toInt ∧ y.toInt ≤ 7) : 1 ≤ ((1 : Int32) <<< (y &&& 31)).toInt ∧ ((1 : Int32) <<< (y &&& 31)).toInt ≤ 128 := by
  obtain ⟨a, ha, rfl⟩ := i8_of (n := 7) hy
  rcases (show a = 0 ∨ a = 1 ∨ a = 2 ∨ a = 3 ∨ a = 4 ∨ a = 5 ∨ a = 6 ∨ a = 7 by omega) with rfl | rfl | rfl | rfl | rfl | rfl | rfl | rfl <;> decide
theorem sh_8 {y : Int32} (hy : 0 ≤ y.toInt ∧ y.toInt ≤ 8) : 1 ≤ ((1 : Int32) <<< (y &&& 31)).toInt ∧ ((1 : Int32) <<< (y &&& 31)).toInt ≤ 256 := by
  obtain ⟨a, ha, rfl⟩ := i8_of (n := 8) hy
  rcases (show a = 0 ∨ a = 1 ∨ a = 2 ∨ a = 3 ∨ a = 4 ∨ a = 5 ∨ a = 6 ∨ a = 7 ∨ a = 8 by omega) with rfl | rfl | rfl | rfl | rfl | rfl | rfl | rfl | rfl <;> decide
theorem sh_I {y : Int32} (hy : 0 ≤ y.toInt ∧ y.toInt ≤ 7) : 0 ≤ ((1 : Int32) <<< (y &&& 31)).toInt ∧ ((1 : Int32) <<< (y &&& 31)).toInt ≤ 255 := by
  obtain ⟨a, ha, rfl⟩ := i8_of (n := 7) hy
  rcases (show a = 0 ∨ a = 1 ∨ a = 2 ∨ a = 3 ∨ a = 4 ∨ a = 5 ∨ a = 6 ∨ a = 7 by omega) with rfl | rfl | rfl | rfl | rfl | rfl | rfl | rfl <;> decide
theorem cp_ok {a b : Int32} {n : Nat} (ha : 0 ≤ a.toInt) (hb : 0 ≤ b.toInt) (h : a.toInt + b.toInt ≤ n) : a.toNatClampNeg + b.toNatClampNeg ≤ n := by
  obtain ⟨i, hi, rfl⟩ := nI_of (x := a) (by rw [Int32.lt_iff_toInt_lt, show (0 : Int32).toInt = 0 from rfl]; omega)
  obtain ⟨j, hj, rfl⟩ := nI_of (x := b) (by rw [Int32.lt_iff_toInt_lt, show (0 : Int32).toInt = 0 from rfl]; omega)
  rw [nI_toInt hi, nI_toInt hj] at h
  rw [nI_clamp hi, nI_clamp hj]
  omega
theorem min_I {x y z : Int32} (e : z = if y < x then y else x) : z.toInt ≤ x.toInt ∧ z.toInt ≤ y.toInt ∧ (z.toInt = x.toInt ∨ z.toInt = y.toInt) := by
  by_cases h : y < x
  · rw [if_pos h] at e; rw [Int32.lt_iff_toInt_lt] at h; subst e; omega
  · rw [if_neg h] at e; rw [Int32.lt_iff_toInt_lt] at h; subst e; omega
theorem max_I {x y z : Int32} (e : z = if x < y then y else x) : x.toInt ≤ z.toInt ∧ y.toInt ≤ z.toInt ∧ (z.toInt = x.toInt ∨ z.toInt = y.toInt) := by
  by_cases h : x < y
  · rw [if_pos h] at e; rw [Int32.lt_iff_toInt_lt] at h; subst e; omega
  · rw [if_neg h] at e; rw [Int32.lt_iff_toInt_lt] at h; subst e; omega
theorem dv_I {x y : Int32} (hx : 0 ≤ x.toInt) (hy : 0 < y.toInt) : (x / y).toInt = x.toInt / y.toInt := by
  obtain ⟨i, hi, rfl⟩ := nI_of (x := x) (by rw [Int32.lt_iff_toInt_lt, show (0 : Int32).toInt = 0 from rfl]; omega)
  obtain ⟨j, hj, rfl⟩ := nI_of (x := y) (by rw [Int32.lt_iff_toInt_lt, show (0 : Int32).toInt = 0 from rfl]; omega)
  rw [nI_toInt hj] at hy
  have h9 : i / j ≤ i := Nat.div_le_self i j
  rw [pk_div hi (by omega) hj, nI_toInt hi, nI_toInt hj, nI_toInt (by omega)]
  exact Int.natCast_ediv i j
theorem rm_I {x y : Int32} (hx : 0 ≤ x.toInt) (hy : 0 < y.toInt) : (x - x / y * y).toInt = x.toInt % y.toInt := by
  obtain ⟨i, hi, rfl⟩ := nI_of (x := x) (by rw [Int32.lt_iff_toInt_lt, show (0 : Int32).toInt = 0 from rfl]; omega)
  obtain ⟨j, hj, rfl⟩ := nI_of (x := y) (by rw [Int32.lt_iff_toInt_lt, show (0 : Int32).toInt = 0 from rfl]; omega)
  rw [nI_toInt hj] at hy
  have h9 : i % j ≤ i := Nat.mod_le i j
  rw [pk_rem hi (by omega) hj, nI_toInt hi, nI_toInt hj, nI_toInt (by omega)]
  exact Int.natCast_emod i j
theorem dv_B {x y : Int32} (hx : 0 ≤ x.toInt) (hy : 0 < y.toInt) : 0 ≤ (x / y).toInt ∧ (x / y).toInt ≤ x.toInt := by
  rw [dv_I hx hy]
  exact ⟨Int.ediv_nonneg hx (by omega), Int.ediv_le_self _ hx⟩
theorem rm_B {x y : Int32} (hx : 0 ≤ x.toInt) (hy : 0 < y.toInt) : 0 ≤ (x - x / y * y).toInt ∧ (x - x / y * y).toInt < y.toInt := by
  rw [rm_I hx hy]
  exact ⟨Int.emod_nonneg _ (by omega), Int.emod_lt_of_pos _ hy⟩
theorem bt_n {x : Int32} (h : 0 ≤ x.toInt ∧ x.toInt ≤ 1) : vp_nar .boolean x = x := by
  have h2 : x = 0 ∨ x = 1 := by
    rcases (show x.toInt = 0 ∨ x.toInt = 1 by omega) with q | q
    · exact Or.inl (Int32.toInt_inj.mp (by rw [q]; rfl))
    · exact Or.inr (Int32.toInt_inj.mp (by rw [q]; rfl))
  rcases h2 with rfl | rfl <;> rfl
theorem abs_I {x z : Int32} (hx : -2147483647 ≤ x.toInt) (e : z = if 0 ≤ x then x else 0 - x) : 0 ≤ z.toInt ∧ (z.toInt = x.toInt ∨ z.toInt = - x.toInt) := by
  by_cases h : 0 ≤ x
  · rw [if_pos h] at e
    rw [Int32.le_iff_toInt_le, show (0 : Int32).toInt = 0 from rfl] at h
    subst e
    omega
  · rw [if_neg h] at e
    rw [Int32.le_iff_toInt_le, show (0 : Int32).toInt = 0 from rfl] at h
    subst e
    have h3 : (0 - x).toInt = (0 : Int32).toInt - x.toInt := sb_I (by rw [show (0 : Int32).toInt = 0 from rfl]; have := i32_lo x; omega) (by rw [show (0 : Int32).toInt = 0 from rfl]; omega)
    rw [h3, show (0 : Int32).toInt = 0 from rfl]
    omega
def fldR (e : va_E) (k : Nat) : Option Nat := match e with
  | .inr (_, fs) => match fs[k]? with
    | some (.ref v) => some v
    | _ => none
  | _ => none
theorem fk_up {f : Nat → va_E} {a j : Nat} {e : va_E} (h : fldI e j = fldI (f a) j) (b : Nat) : fldI (va_up f a e b) j = fldI (f b) j := by
  by_cases hab : b = a
  · subst hab; rw [up_self]; exact h
  · rw [up_ne hab]
theorem zl_pos {i : Nat} (h : i < 10) : 2 ≤ ((zL.getD i 0 : Nat) : Int) ∧ ((zL.getD i 0 : Nat) : Int) ≤ 7 := by
  rcases (show i = 0 ∨ i = 1 ∨ i = 2 ∨ i = 3 ∨ i = 4 ∨ i = 5 ∨ i = 6 ∨ i = 7 ∨ i = 8 ∨ i = 9 by omega) with rfl | rfl | rfl | rfl | rfl | rfl | rfl | rfl | rfl | rfl <;> decide
theorem zl_of {i : Nat} (h : i < 10) : (Int32.ofNat (zL.getD i 0)).toInt = ((zL.getD i 0 : Nat) : Int) := by
  rcases (show i = 0 ∨ i = 1 ∨ i = 2 ∨ i = 3 ∨ i = 4 ∨ i = 5 ∨ i = 6 ∨ i = 7 ∨ i = 8 ∨ i = 9 by omega) with rfl | rfl | rfl | rfl | rfl | rfl | rfl | rfl | rfl | rfl <;> decide
theorem sl_2_4 {y : Int32} (hy : 0 ≤ y.toInt ∧ y.toInt ≤ 4) : 2 ≤ ((2 : Int32) <<< (y &&& 31)).toInt ∧ ((2 : Int32) <<< (y &&& 31)).toInt ≤ 32 := by
  obtain ⟨a, ha, rfl⟩ := i8_of (n := 4) hy
  rcases (show a = 0 ∨ a = 1 ∨ a = 2 ∨ a = 3 ∨ a = 4 by omega) with rfl | rfl | rfl | rfl | rfl <;> decide
theorem sl_1_5 {y : Int32} (hy : 0 ≤ y.toInt ∧ y.toInt ≤ 5) : 1 ≤ ((1 : Int32) <<< (y &&& 31)).toInt ∧ ((1 : Int32) <<< (y &&& 31)).toInt ≤ 32 := by
  obtain ⟨a, ha, rfl⟩ := i8_of (n := 5) hy
  rcases (show a = 0 ∨ a = 1 ∨ a = 2 ∨ a = 3 ∨ a = 4 ∨ a = 5 by omega) with rfl | rfl | rfl | rfl | rfl | rfl <;> decide
theorem sl_1_11 {y : Int32} (hy : 0 ≤ y.toInt ∧ y.toInt ≤ 11) : 1 ≤ ((1 : Int32) <<< (y &&& 31)).toInt ∧ ((1 : Int32) <<< (y &&& 31)).toInt ≤ 2048 := by
  obtain ⟨a, ha, rfl⟩ := i8_of (n := 11) hy
  rcases (show a = 0 ∨ a = 1 ∨ a = 2 ∨ a = 3 ∨ a = 4 ∨ a = 5 ∨ a = 6 ∨ a = 7 ∨ a = 8 ∨ a = 9 ∨ a = 10 ∨ a = 11 by omega) with rfl | rfl | rfl | rfl | rfl | rfl | rfl | rfl | rfl | rfl | rfl | rfl <;> decide
theorem ch_all : ∀ a : Fin 256, (nI a.val).toUInt32.toUInt16.toUInt32.toInt32 = nI a.val ∧ ((nI a.val).toUInt32 % 65536).toInt32 = nI a.val := by decide +kernel
theorem ch_n {v : Int32} (h : 0 ≤ v.toInt ∧ v.toInt ≤ 255) : narrow .char (.int v) = .int v := by
  obtain ⟨a, ha, rfl⟩ := i8_of (n := 255) h
  show Value.int _ = _
  rw [(ch_all ⟨a, by omega⟩).1]
theorem c2_n {v : Int32} (h : 0 ≤ v.toInt ∧ v.toInt ≤ 255) : (v.toUInt32 % 65536).toInt32 = v := by
  obtain ⟨a, ha, rfl⟩ := i8_of (n := 255) h
  exact (ch_all ⟨a, by omega⟩).2
theorem zw_t {z i : Int32} (e : z = ([43046721, 4782969, 531441, 59049, 6561, 729, 81, 9, 1] : List Int32).getD (Int32.toNatClampNeg i) 0) (h : vp_in i 9) : (i.toInt = 0 ∧ z.toInt = 43046721) ∨ (i.toInt = 1 ∧ z.toInt = 4782969) ∨ (i.toInt = 2 ∧ z.toInt = 531441) ∨ (i.toInt = 3 ∧ z.toInt = 59049) ∨ (i.toInt = 4 ∧ z.toInt = 6561) ∨ (i.toInt = 5 ∧ z.toInt = 729) ∨ (i.toInt = 6 ∧ z.toInt = 81) ∨ (i.toInt = 7 ∧ z.toInt = 9) ∨ (i.toInt = 8 ∧ z.toInt = 1) := by
  have h2 := vp_in_iff.mp h
  obtain ⟨a, ha, rfl⟩ := i8_of (x := i) (n := 8) (by omega)
  subst e
  rcases (show a = 0 ∨ a = 1 ∨ a = 2 ∨ a = 3 ∨ a = 4 ∨ a = 5 ∨ a = 6 ∨ a = 7 ∨ a = 8 by omega) with rfl | rfl | rfl | rfl | rfl | rfl | rfl | rfl | rfl <;> decide
theorem sr_0 {x y : Int32} (h : y.toInt = 0) : (x >>> (y &&& 31)).toInt = x.toInt := by
  have e : y = 0 := Int32.toInt_inj.mp (by rw [h]; rfl)
  subst e
  rw [pk_shr _ _ 0 (by decide)]
  exact Int.shiftRight_zero _
theorem zw_b {i : Int32} (h : vp_in i 9) : 1 ≤ (([43046721, 4782969, 531441, 59049, 6561, 729, 81, 9, 1] : List Int32).getD (Int32.toNatClampNeg i) 0).toInt ∧ (([43046721, 4782969, 531441, 59049, 6561, 729, 81, 9, 1] : List Int32).getD (Int32.toNatClampNeg i) 0).toInt ≤ 43046721 := by
  have h2 := zw_t (i := i) rfl h
  omega
section TKQ
variable {p : Program} {l : Launch} {e : Env} {R : Room} {s : State} {m : MethodId} {args : Array Value} {below : List Frame} {meth : Method} {c : Code} {H : Heap} {locs : List Loc} {cells slots : Nat} {Q : State → Prop}
variable {cc : ByteArray} {pc : Nat} {ls : Array Slot} {rest : List Value} {D : va_G} {L : List Nat} {f : Nat → va_E} {cI cL cZ cR cG cH : ClassId} {Z : zT}
theorem tk_ViP {own C : String} {idx maxL nL fr lo n : Nat} {y : MethodName} {bytes : ByteArray} {ret : Option FieldType} {As st0 : List Value} {b : Nat} {P : Int32 → (Nat → va_E) → Prop}
    (hx : p.tables.exec = Jvm.exec) (hb : c.code = cc) (hml : c.maxLocals = nL) (hown : s.vm.findClass own = some m.cls) (hU : ∀ w ∈ wsU, w.before args s = true) (hN : nsW s) (hZ : zW Z L s)
    (hM : Met l y (wU y bytes maxL ret) { frames := fr, cells := 0, slots := 0, locals := lo } (va_Pc (.ref b :: As) (pP D cI cL cZ cR cG cH Z L f)) (va_Qi P (qP D cI cL cZ cR cG cH L) (fun q => q ∈ L)) 0 0 (fun q => q ∈ L))
    (h1 : Cond.methodLink own idx y ∈ wsU) (h2 : Cond.instanceMethod y ∈ wsU) (h3 : Cond.selects C y y ∈ wsU) (h4 : Cond.initialized C ∈ wsU) (h5 : Cond.code y bytes maxL ret ∈ wsU)
    (hd : y.cls = C ∧ y.cls ≠ "java/lang/invoke/MethodHandle" ∧ y.cls ≠ "java/lang/invoke/VarHandle" ∧ (parseMethodDescriptor y.desc).map (fun d => d.parameters.length) = some n) (hR : fr + 1 ≤ R.frames ∧ 8 + (maxL + 11) + lo ≤ R.locals)
    (hK : va_K D vwCl [(cI, .int), (cL, .long), (cZ, .boolean), (cR, .object "SaidShallow$Rule"), (cG, .array .int), (cH, .array .boolean)] s) (hP : va_P D vwCl (va_pl L f) H) (hD : va_D (fun q => q ∈ L) (va_pl L f)) (hS : va_S (fun q => q ∈ L) s.heap H locs) (mb : b ∈ L) {fs : List Value} {ci : Nat} (hf : f b = .inr (ci, fs)) (ci0 : Nat) {q : vw_C} (hc : vwCl[ci]? = some q) (hq : q.1 = C) (hl : As.length = n) (hsz : ls.size = nL) (hst : st0 = As.reverse ++ .ref b :: rest) (hW : (rest.map fun v => v.category).sum ≤ 8) (hdg : decode cc pc = .ok (.invokevirtual idx, 3)) (hcs : cells ≤ R.cells ∧ slots ≤ R.slots)
    (kk : ∀ (r : Int32) (f1 : Nat → va_E) (H1 : Heap) (locs1 : List Loc), P r f1 → va_P D vwCl (va_pl L f1) H1 → va_D (fun q => q ∈ L) (va_pl L f1) → va_S (fun q => q ∈ L) s.heap H1 locs1 → W p l e R s m args below meth c H1 locs1 cells slots Q (F0 m (pc + 3) ls (.int r :: rest))) : W p l e R s m args below meth c H locs cells slots Q (F0 m pc ls st0) := by
  subst hq
  obtain ⟨q0, he⟩ := pl_get0 (f := f) mb
  rw [hf] at he
  have hr := va_runV (Ts := wsU) (e := e) (meth := meth) (cells := cells) (slots := slots) (H := H) (locs := locs) (below := below) (g := F0 m pc ls st0) (rest := rest) ⟨hx, hb, hml, hown, hU⟩ hM (cwV n hU (gU_V h1 h2 h3 h4 h5) rfl rfl rfl hd hR) ⟨pP_blind, va_recv hK hP hc he, fun U hU' hW' => ⟨rfl, by rw [hU']; exact hP, va_K.moved hW'.alike hK, hD.weaken (fun _ _ _ _ => trivial), hN.warm hW', zW.call hW' hU' hS hZ⟩⟩ rfl hl hsz hst (lv_room hW) hdg hcs
  refine va_calli hr hS (fun q _ h => h) (fun q h => h) (fun r f1 t H1 locs1 ht hvm hw hB hz1 hk1 hS1 => ?_)
  obtain ⟨hP1, hK1, hD1⟩ := hB
  rw [ht] at hP1
  exact kk r f1 H1 locs1 hw hP1 hD1 hS1
theorem tk_VvP {own C : String} {idx maxL nL fr lo n : Nat} {y : MethodName} {bytes : ByteArray} {ret : Option FieldType} {As st0 : List Value} {b : Nat} {P : (Nat → va_E) → Prop}
    (hx : p.tables.exec = Jvm.exec) (hb : c.code = cc) (hml : c.maxLocals = nL) (hown : s.vm.findClass own = some m.cls) (hU : ∀ w ∈ wsU, w.before args s = true) (hN : nsW s) (hZ : zW Z L s)
    (hM : Met l y (wU y bytes maxL ret) { frames := fr, cells := 0, slots := 0, locals := lo } (va_Pc (.ref b :: As) (pP D cI cL cZ cR cG cH Z L f)) (va_Qv P (qP D cI cL cZ cR cG cH L) (fun q => q ∈ L)) 0 0 (fun q => q ∈ L))
    (h1 : Cond.methodLink own idx y ∈ wsU) (h2 : Cond.instanceMethod y ∈ wsU) (h3 : Cond.selects C y y ∈ wsU) (h4 : Cond.initialized C ∈ wsU) (h5 : Cond.code y bytes maxL ret ∈ wsU)
    (hd : y.cls = C ∧ y.cls ≠ "java/lang/invoke/MethodHandle" ∧ y.cls ≠ "java/lang/invoke/VarHandle" ∧ (parseMethodDescriptor y.desc).map (fun d => d.parameters.length) = some n) (hR : fr + 1 ≤ R.frames ∧ 8 + (maxL + 11) + lo ≤ R.locals)
    (hK : va_K D vwCl [(cI, .int), (cL, .long), (cZ, .boolean), (cR, .object "SaidShallow$Rule"), (cG, .array .int), (cH, .array .boolean)] s) (hP : va_P D vwCl (va_pl L f) H) (hD : va_D (fun q => q ∈ L) (va_pl L f)) (hS : va_S (fun q => q ∈ L) s.heap H locs) (mb : b ∈ L) {fs : List Value} {ci : Nat} (hf : f b = .inr (ci, fs)) (ci0 : Nat) {q : vw_C} (hc : vwCl[ci]? = some q) (hq : q.1 = C) (hl : As.length = n) (hsz : ls.size = nL) (hst : st0 = As.reverse ++ .ref b :: rest) (hW : (rest.map fun v => v.category).sum ≤ 8) (hdg : decode cc pc = .ok (.invokevirtual idx, 3)) (hcs : cells ≤ R.cells ∧ slots ≤ R.slots)
    (kk : ∀ (f1 : Nat → va_E) (H1 : Heap) (locs1 : List Loc), P f1 → va_P D vwCl (va_pl L f1) H1 → va_D (fun q => q ∈ L) (va_pl L f1) → va_S (fun q => q ∈ L) s.heap H1 locs1 → W p l e R s m args below meth c H1 locs1 cells slots Q (F0 m (pc + 3) ls (rest))) : W p l e R s m args below meth c H locs cells slots Q (F0 m pc ls st0) := by
  subst hq
  obtain ⟨q0, he⟩ := pl_get0 (f := f) mb
  rw [hf] at he
  have hr := va_runV (Ts := wsU) (e := e) (meth := meth) (cells := cells) (slots := slots) (H := H) (locs := locs) (below := below) (g := F0 m pc ls st0) (rest := rest) ⟨hx, hb, hml, hown, hU⟩ hM (cwV n hU (gU_V h1 h2 h3 h4 h5) rfl rfl rfl hd hR) ⟨pP_blind, va_recv hK hP hc he, fun U hU' hW' => ⟨rfl, by rw [hU']; exact hP, va_K.moved hW'.alike hK, hD.weaken (fun _ _ _ _ => trivial), hN.warm hW', zW.call hW' hU' hS hZ⟩⟩ rfl hl hsz hst (lv_room hW) hdg hcs
  refine va_callv hr hS (fun q _ h => h) (fun q h => h) (fun f1 t H1 locs1 ht hvm hw hB hz1 hk1 hS1 => ?_)
  obtain ⟨hP1, hK1, hD1⟩ := hB
  rw [ht] at hP1
  exact kk f1 H1 locs1 hw hP1 hD1 hS1
theorem tk_SiP {own : String} {idx maxL nL fr lo n : Nat} {y : MethodName} {bytes : ByteArray} {ret : Option FieldType} {As st0 : List Value} {P : Int32 → (Nat → va_E) → Prop}
    (hx : p.tables.exec = Jvm.exec) (hb : c.code = cc) (hml : c.maxLocals = nL) (hown : s.vm.findClass own = some m.cls) (hU : ∀ w ∈ wsU, w.before args s = true) (hN : nsW s) (hZ : zW Z L s)
    (hM : Met l y (wU y bytes maxL ret) { frames := fr, cells := 0, slots := 0, locals := lo } (va_Pc (As) (pP D cI cL cZ cR cG cH Z L f)) (va_Qi P (qP D cI cL cZ cR cG cH L) (fun q => q ∈ L)) 0 0 (fun q => q ∈ L))
    (h1 : Cond.methodLink own idx y ∈ wsU) (h2 : Cond.static y ∈ wsU) (h4 : Cond.initialized y.cls ∈ wsU) (h5 : Cond.code y bytes maxL ret ∈ wsU)
    (hd : y.cls ≠ "java/lang/invoke/MethodHandle" ∧ y.cls ≠ "java/lang/invoke/VarHandle" ∧ (parseMethodDescriptor y.desc).map (fun d => d.parameters.length) = some n) (hR : fr + 1 ≤ R.frames ∧ 8 + (maxL + 11) + lo ≤ R.locals)
    (hK : va_K D vwCl [(cI, .int), (cL, .long), (cZ, .boolean), (cR, .object "SaidShallow$Rule"), (cG, .array .int), (cH, .array .boolean)] s) (hP : va_P D vwCl (va_pl L f) H) (hD : va_D (fun q => q ∈ L) (va_pl L f)) (hS : va_S (fun q => q ∈ L) s.heap H locs) (hl : As.length = n) (hsz : ls.size = nL) (hst : st0 = As.reverse ++ rest) (hW : (rest.map fun v => v.category).sum ≤ 8) (hdg : decode cc pc = .ok (.invokestatic idx, 3)) (hcs : cells ≤ R.cells ∧ slots ≤ R.slots)
    (kk : ∀ (r : Int32) (f1 : Nat → va_E) (H1 : Heap) (locs1 : List Loc), P r f1 → va_P D vwCl (va_pl L f1) H1 → va_D (fun q => q ∈ L) (va_pl L f1) → va_S (fun q => q ∈ L) s.heap H1 locs1 → W p l e R s m args below meth c H1 locs1 cells slots Q (F0 m (pc + 3) ls (.int r :: rest))) : W p l e R s m args below meth c H locs cells slots Q (F0 m pc ls st0) := by
  have hr := va_runS (Ts := wsU) (e := e) (meth := meth) (cells := cells) (slots := slots) (H := H) (locs := locs) (below := below) (g := F0 m pc ls st0) (rest := rest) ⟨hx, hb, hml, hown, hU⟩ hM ⟨callB_of n hU (gU_c h5) rfl rfl rfl (hU _ h4) (hU _ h1) hd hR, hU _ h2⟩ ⟨pP_blind, fun U hU' hW' => ⟨rfl, by rw [hU']; exact hP, va_K.moved hW'.alike hK, hD.weaken (fun _ _ _ _ => trivial), hN.warm hW', zW.call hW' hU' hS hZ⟩⟩ rfl hl hsz hst (lv_room hW) hdg hcs
  refine va_calli hr hS (fun q _ h => h) (fun q h => h) (fun r f1 t H1 locs1 ht hvm hw hB hz1 hk1 hS1 => ?_)
  obtain ⟨hP1, hK1, hD1⟩ := hB
  rw [ht] at hP1
  exact kk r f1 H1 locs1 hw hP1 hD1 hS1
theorem tk_SvP {own : String} {idx maxL nL fr lo n : Nat} {y : MethodName} {bytes : ByteArray} {ret : Option FieldType} {As st0 : List Value} {P : (Nat → va_E) → Prop}
    (hx : p.tables.exec = Jvm.exec) (hb : c.code = cc) (hml : c.maxLocals = nL) (hown : s.vm.findClass own = some m.cls) (hU : ∀ w ∈ wsU, w.before args s = true) (hN : nsW s) (hZ : zW Z L s)
    (hM : Met l y (wU y bytes maxL ret) { frames := fr, cells := 0, slots := 0, locals := lo } (va_Pc (As) (pP D cI cL cZ cR cG cH Z L f)) (va_Qv P (qP D cI cL cZ cR cG cH L) (fun q => q ∈ L)) 0 0 (fun q => q ∈ L))
    (h1 : Cond.methodLink own idx y ∈ wsU) (h2 : Cond.static y ∈ wsU) (h4 : Cond.initialized y.cls ∈ wsU) (h5 : Cond.code y bytes maxL ret ∈ wsU)
    (hd : y.cls ≠ "java/lang/invoke/MethodHandle" ∧ y.cls ≠ "java/lang/invoke/VarHandle" ∧ (parseMethodDescriptor y.desc).map (fun d => d.parameters.length) = some n) (hR : fr + 1 ≤ R.frames ∧ 8 + (maxL + 11) + lo ≤ R.locals)
    (hK : va_K D vwCl [(cI, .int), (cL, .long), (cZ, .boolean), (cR, .object "SaidShallow$Rule"), (cG, .array .int), (cH, .array .boolean)] s) (hP : va_P D vwCl (va_pl L f) H) (hD : va_D (fun q => q ∈ L) (va_pl L f)) (hS : va_S (fun q => q ∈ L) s.heap H locs) (hl : As.length = n) (hsz : ls.size = nL) (hst : st0 = As.reverse ++ rest) (hW : (rest.map fun v => v.category).sum ≤ 8) (hdg : decode cc pc = .ok (.invokestatic idx, 3)) (hcs : cells ≤ R.cells ∧ slots ≤ R.slots)
    (kk : ∀ (f1 : Nat → va_E) (H1 : Heap) (locs1 : List Loc), P f1 → va_P D vwCl (va_pl L f1) H1 → va_D (fun q => q ∈ L) (va_pl L f1) → va_S (fun q => q ∈ L) s.heap H1 locs1 → W p l e R s m args below meth c H1 locs1 cells slots Q (F0 m (pc + 3) ls (rest))) : W p l e R s m args below meth c H locs cells slots Q (F0 m pc ls st0) := by
  have hr := va_runS (Ts := wsU) (e := e) (meth := meth) (cells := cells) (slots := slots) (H := H) (locs := locs) (below := below) (g := F0 m pc ls st0) (rest := rest) ⟨hx, hb, hml, hown, hU⟩ hM ⟨callB_of n hU (gU_c h5) rfl rfl rfl (hU _ h4) (hU _ h1) hd hR, hU _ h2⟩ ⟨pP_blind, fun U hU' hW' => ⟨rfl, by rw [hU']; exact hP, va_K.moved hW'.alike hK, hD.weaken (fun _ _ _ _ => trivial), hN.warm hW', zW.call hW' hU' hS hZ⟩⟩ rfl hl hsz hst (lv_room hW) hdg hcs
  refine va_callv hr hS (fun q _ h => h) (fun q h => h) (fun f1 t H1 locs1 ht hvm hw hB hz1 hk1 hS1 => ?_)
  obtain ⟨hP1, hK1, hD1⟩ := hB
  rw [ht] at hP1
  exact kk f1 H1 locs1 hw hP1 hD1 hS1
theorem tk_VlP {own C : String} {idx maxL nL fr lo n : Nat} {y : MethodName} {bytes : ByteArray} {ret : Option FieldType} {As st0 : List Value} {b : Nat} {P : Int64 → (Nat → va_E) → Prop}
    (hx : p.tables.exec = Jvm.exec) (hb : c.code = cc) (hml : c.maxLocals = nL) (hown : s.vm.findClass own = some m.cls) (hU : ∀ w ∈ wsU, w.before args s = true) (hN : nsW s) (hZ : zW Z L s)
    (hM : Met l y (wU y bytes maxL ret) { frames := fr, cells := 0, slots := 0, locals := lo } (va_Pc (.ref b :: As) (pP D cI cL cZ cR cG cH Z L f)) (va_Ql P (qP D cI cL cZ cR cG cH L) (fun q => q ∈ L)) 0 0 (fun q => q ∈ L))
    (h1 : Cond.methodLink own idx y ∈ wsU) (h2 : Cond.instanceMethod y ∈ wsU) (h3 : Cond.selects C y y ∈ wsU) (h4 : Cond.initialized C ∈ wsU) (h5 : Cond.code y bytes maxL ret ∈ wsU)
    (hd : y.cls = C ∧ y.cls ≠ "java/lang/invoke/MethodHandle" ∧ y.cls ≠ "java/lang/invoke/VarHandle" ∧ (parseMethodDescriptor y.desc).map (fun d => d.parameters.length) = some n) (hR : fr + 1 ≤ R.frames ∧ 8 + (maxL + 11) + lo ≤ R.locals)
    (hK : va_K D vwCl [(cI, .int), (cL, .long), (cZ, .boolean), (cR, .object "SaidShallow$Rule"), (cG, .array .int), (cH, .array .boolean)] s) (hP : va_P D vwCl (va_pl L f) H) (hD : va_D (fun q => q ∈ L) (va_pl L f)) (hS : va_S (fun q => q ∈ L) s.heap H locs) (mb : b ∈ L) {fs : List Value} {ci : Nat} (hf : f b = .inr (ci, fs)) (ci0 : Nat) {q : vw_C} (hc : vwCl[ci]? = some q) (hq : q.1 = C) (hl : As.length = n) (hsz : ls.size = nL) (hst : st0 = As.reverse ++ .ref b :: rest) (hW : (rest.map fun v => v.category).sum ≤ 8) (hdg : decode cc pc = .ok (.invokevirtual idx, 3)) (hcs : cells ≤ R.cells ∧ slots ≤ R.slots)
    (kk : ∀ (r : Int64) (f1 : Nat → va_E) (H1 : Heap) (locs1 : List Loc), P r f1 → va_P D vwCl (va_pl L f1) H1 → va_D (fun q => q ∈ L) (va_pl L f1) → va_S (fun q => q ∈ L) s.heap H1 locs1 → W p l e R s m args below meth c H1 locs1 cells slots Q (F0 m (pc + 3) ls (.long r :: rest))) : W p l e R s m args below meth c H locs cells slots Q (F0 m pc ls st0) := by
  subst hq
  obtain ⟨q0, he⟩ := pl_get0 (f := f) mb
  rw [hf] at he
  have hr := va_runV (Ts := wsU) (e := e) (meth := meth) (cells := cells) (slots := slots) (H := H) (locs := locs) (below := below) (g := F0 m pc ls st0) (rest := rest) ⟨hx, hb, hml, hown, hU⟩ hM (cwV n hU (gU_V h1 h2 h3 h4 h5) rfl rfl rfl hd hR) ⟨pP_blind, va_recv hK hP hc he, fun U hU' hW' => ⟨rfl, by rw [hU']; exact hP, va_K.moved hW'.alike hK, hD.weaken (fun _ _ _ _ => trivial), hN.warm hW', zW.call hW' hU' hS hZ⟩⟩ rfl hl hsz hst (lv_room hW) hdg hcs
  refine va_calll hr hS (fun q _ h => h) (fun q h => h) (fun r f1 t H1 locs1 ht hvm hw hB hz1 hk1 hS1 => ?_)
  obtain ⟨hP1, hK1, hD1⟩ := hB
  rw [ht] at hP1
  exact kk r f1 H1 locs1 hw hP1 hD1 hS1
theorem tk_SlP {own : String} {idx maxL nL fr lo n : Nat} {y : MethodName} {bytes : ByteArray} {ret : Option FieldType} {As st0 : List Value} {P : Int64 → (Nat → va_E) → Prop}
    (hx : p.tables.exec = Jvm.exec) (hb : c.code = cc) (hml : c.maxLocals = nL) (hown : s.vm.findClass own = some m.cls) (hU : ∀ w ∈ wsU, w.before args s = true) (hN : nsW s) (hZ : zW Z L s)
    (hM : Met l y (wU y bytes maxL ret) { frames := fr, cells := 0, slots := 0, locals := lo } (va_Pc (As) (pP D cI cL cZ cR cG cH Z L f)) (va_Ql P (qP D cI cL cZ cR cG cH L) (fun q => q ∈ L)) 0 0 (fun q => q ∈ L))
    (h1 : Cond.methodLink own idx y ∈ wsU) (h2 : Cond.static y ∈ wsU) (h4 : Cond.initialized y.cls ∈ wsU) (h5 : Cond.code y bytes maxL ret ∈ wsU)
    (hd : y.cls ≠ "java/lang/invoke/MethodHandle" ∧ y.cls ≠ "java/lang/invoke/VarHandle" ∧ (parseMethodDescriptor y.desc).map (fun d => d.parameters.length) = some n) (hR : fr + 1 ≤ R.frames ∧ 8 + (maxL + 11) + lo ≤ R.locals)
    (hK : va_K D vwCl [(cI, .int), (cL, .long), (cZ, .boolean), (cR, .object "SaidShallow$Rule"), (cG, .array .int), (cH, .array .boolean)] s) (hP : va_P D vwCl (va_pl L f) H) (hD : va_D (fun q => q ∈ L) (va_pl L f)) (hS : va_S (fun q => q ∈ L) s.heap H locs) (hl : As.length = n) (hsz : ls.size = nL) (hst : st0 = As.reverse ++ rest) (hW : (rest.map fun v => v.category).sum ≤ 8) (hdg : decode cc pc = .ok (.invokestatic idx, 3)) (hcs : cells ≤ R.cells ∧ slots ≤ R.slots)
    (kk : ∀ (r : Int64) (f1 : Nat → va_E) (H1 : Heap) (locs1 : List Loc), P r f1 → va_P D vwCl (va_pl L f1) H1 → va_D (fun q => q ∈ L) (va_pl L f1) → va_S (fun q => q ∈ L) s.heap H1 locs1 → W p l e R s m args below meth c H1 locs1 cells slots Q (F0 m (pc + 3) ls (.long r :: rest))) : W p l e R s m args below meth c H locs cells slots Q (F0 m pc ls st0) := by
  have hr := va_runS (Ts := wsU) (e := e) (meth := meth) (cells := cells) (slots := slots) (H := H) (locs := locs) (below := below) (g := F0 m pc ls st0) (rest := rest) ⟨hx, hb, hml, hown, hU⟩ hM ⟨callB_of n hU (gU_c h5) rfl rfl rfl (hU _ h4) (hU _ h1) hd hR, hU _ h2⟩ ⟨pP_blind, fun U hU' hW' => ⟨rfl, by rw [hU']; exact hP, va_K.moved hW'.alike hK, hD.weaken (fun _ _ _ _ => trivial), hN.warm hW', zW.call hW' hU' hS hZ⟩⟩ rfl hl hsz hst (lv_room hW) hdg hcs
  refine va_calll hr hS (fun q _ h => h) (fun q h => h) (fun r f1 t H1 locs1 ht hvm hw hB hz1 hk1 hS1 => ?_)
  obtain ⟨hP1, hK1, hD1⟩ := hB
  rw [ht] at hP1
  exact kk r f1 H1 locs1 hw hP1 hD1 hS1
theorem tk_TiP {own C : String} {idx maxL nL fr lo n : Nat} {y : MethodName} {bytes : ByteArray} {ret : Option FieldType} {As st0 : List Value} {b : Nat} {P : Int32 → (Nat → va_E) → Prop}
    (hx : p.tables.exec = Jvm.exec) (hb : c.code = cc) (hml : c.maxLocals = nL) (hown : s.vm.findClass own = some m.cls) (hU : ∀ w ∈ wsU, w.before args s = true) (hN : nsW s) (hZ : zW Z L s)
    (hM : Met l y (wU y bytes maxL ret) { frames := fr, cells := 0, slots := 0, locals := lo } (va_Pc (.ref (Z.1 b) :: As) (pP D cI cL cZ cR cG cH Z L f)) (va_Qi P (qP D cI cL cZ cR cG cH L) (fun q => q ∈ L)) 0 0 (fun q => q ∈ L))
    (h1 : Cond.methodLink own idx y ∈ wsU) (h2 : Cond.instanceMethod y ∈ wsU) (h3 : Cond.selects C y y ∈ wsU) (h4 : Cond.initialized C ∈ wsU) (h5 : Cond.code y bytes maxL ret ∈ wsU)
    (hd : y.cls = C ∧ y.cls ≠ "java/lang/invoke/MethodHandle" ∧ y.cls ≠ "java/lang/invoke/VarHandle" ∧ (parseMethodDescriptor y.desc).map (fun d => d.parameters.length) = some n) (hR : fr + 1 ≤ R.frames ∧ 8 + (maxL + 11) + lo ≤ R.locals)
    (hK : va_K D vwCl [(cI, .int), (cL, .long), (cZ, .boolean), (cR, .object "SaidShallow$Rule"), (cG, .array .int), (cH, .array .boolean)] s) (hP : va_P D vwCl (va_pl L f) H) (hD : va_D (fun q => q ∈ L) (va_pl L f)) (hS : va_S (fun q => q ∈ L) s.heap H locs) (hi : b < 10) (hq : "java/lang/String" = C) (hl : As.length = n) (hsz : ls.size = nL) (hst : st0 = As.reverse ++ .ref (Z.1 b) :: rest) (hW : (rest.map fun v => v.category).sum ≤ 8) (hdg : decode cc pc = .ok (.invokevirtual idx, 3)) (hcs : cells ≤ R.cells ∧ slots ≤ R.slots)
    (kk : ∀ (r : Int32) (f1 : Nat → va_E) (H1 : Heap) (locs1 : List Loc), P r f1 → va_P D vwCl (va_pl L f1) H1 → va_D (fun q => q ∈ L) (va_pl L f1) → va_S (fun q => q ∈ L) s.heap H1 locs1 → W p l e R s m args below meth c H1 locs1 cells slots Q (F0 m (pc + 3) ls (.int r :: rest))) : W p l e R s m args below meth c H locs cells slots Q (F0 m pc ls st0) := by
  subst hq
  have hr := va_runV (Ts := wsU) (e := e) (meth := meth) (cells := cells) (slots := slots) (H := H) (locs := locs) (below := below) (g := F0 m pc ls st0) (rest := rest) ⟨hx, hb, hml, hown, hU⟩ hM (cwV n hU (gU_V h1 h2 h3 h4 h5) rfl rfl rfl hd hR) ⟨pP_blind, vk_recv hZ.1 hi hS, fun U hU' hW' => ⟨rfl, by rw [hU']; exact hP, va_K.moved hW'.alike hK, hD.weaken (fun _ _ _ _ => trivial), hN.warm hW', zW.call hW' hU' hS hZ⟩⟩ rfl hl hsz hst (lv_room hW) hdg hcs
  refine va_calli hr hS (fun q _ h => h) (fun q h => h) (fun r f1 t H1 locs1 ht hvm hw hB hz1 hk1 hS1 => ?_)
  obtain ⟨hP1, hK1, hD1⟩ := hB
  rw [ht] at hP1
  exact kk r f1 H1 locs1 hw hP1 hD1 hS1
theorem tk_copyP {tys : List (ClassId × FieldType)} {A : Nat → Prop} {a a0 : Nat} {own : String} {index : Nat} (hx : p.tables.exec = Jvm.exec) (hb : c.code = cc) (hml : c.maxLocals = ls.size) (hown : s.vm.findClass own = some m.cls) (hlink : (Cond.methodLink own index arraycopyName).before args s = true) (hnat : (Cond.native arraycopyName).before args s = true) (hstat : (Cond.static arraycopyName).before args s = true) (hini : (Cond.initialized "java/lang/System").before args s = true)
    (hK : va_K D vwCl tys s) (hP : va_P D vwCl (va_pl L f) H) (hD : va_D A (va_pl L f)) (hS : va_S A s.heap H locs) (t0 : Nat) {cA : ClassId} {n0 n1 : Nat} {g h : Nat → Int32} (ma0 : a0 ∈ L) (ma : a ∈ L) (hf0 : f a0 = .inl (cA, n0, .inl g)) (hf1 : f a = .inl (cA, n1, .inl h)) (ht : tys[t0]? = some (cA, .int))
    {sp dp n : Int32} (h1 : ¬ sp < 0) (h2 : ¬ dp < 0) (h3 : ¬ n < 0) (h4 : sp.toNatClampNeg + n.toNatClampNeg ≤ n0) (h5 : dp.toNatClampNeg + n.toNatClampNeg ≤ n1)
    (hframes : 1 ≤ R.frames) (hlocals : (rest.map fun v => v.category).sum + (nativeFrameWords "java/lang/System" "arraycopy" 5 + 11) ≤ R.locals) (hdg : decode cc pc = .ok (.invokestatic index, 3))
    (kk : ∀ (H1 : Heap) (locs1 : List Loc), va_P D vwCl (va_pl L (va_up f a (.inl (cA, n1, .inl (va_cpy g h sp.toNatClampNeg dp.toNatClampNeg n.toNatClampNeg))))) H1 → va_D A (va_pl L (va_up f a (.inl (cA, n1, .inl (va_cpy g h sp.toNatClampNeg dp.toNatClampNeg n.toNatClampNeg))))) → va_S A s.heap H1 locs1 → W p l e R s m args below meth c H1 locs1 cells slots Q (F0 m (pc + 3) ls rest)) : W p l e R s m args below meth c H locs cells slots Q (F0 m pc ls (.int n :: .int dp :: .ref a :: .int sp :: .ref a0 :: rest)) := by
  obtain ⟨q0, hq0⟩ := pl_get0 (f := f) ma0
  obtain ⟨q1, hq1⟩ := pl_get0 (f := f) ma
  have hq3 := hq1
  rw [hf0] at hq0
  rw [hf1] at hq3
  refine va_copyi (ty := .int) hx hb hml hown hlink hnat hstat hini hK hP hD hS q0 q1 t0 t0 hq0 hq3 ht ht rfl h1 h2 h3 h4 h5 (fun _ _ => rfl) hframes hlocals hdg (fun H1 locs1 hP1 hD1 hS1 => ?_)
  rw [pl_set0 hD ma hq1] at hP1 hD1
  exact kk H1 locs1 hP1 hD1 hS1
theorem tk_copyL {tys : List (ClassId × FieldType)} {A : Nat → Prop} {a a0 : Nat} {own : String} {index : Nat} (hx : p.tables.exec = Jvm.exec) (hb : c.code = cc) (hml : c.maxLocals = ls.size) (hown : s.vm.findClass own = some m.cls) (hlink : (Cond.methodLink own index arraycopyName).before args s = true) (hnat : (Cond.native arraycopyName).before args s = true) (hstat : (Cond.static arraycopyName).before args s = true) (hini : (Cond.initialized "java/lang/System").before args s = true)
    (hK : va_K D vwCl tys s) (hP : va_P D vwCl (va_pl L f) H) (hD : va_D A (va_pl L f)) (hS : va_S A s.heap H locs) (t0 : Nat) {cA : ClassId} {n0 n1 : Nat} {g h : Nat → Int64} (ma0 : a0 ∈ L) (ma : a ∈ L) (hf0 : f a0 = .inl (cA, n0, .inr (.inl g))) (hf1 : f a = .inl (cA, n1, .inr (.inl h))) (ht : tys[t0]? = some (cA, .long))
    {sp dp n : Int32} (h1 : ¬ sp < 0) (h2 : ¬ dp < 0) (h3 : ¬ n < 0) (h4 : sp.toNatClampNeg + n.toNatClampNeg ≤ n0) (h5 : dp.toNatClampNeg + n.toNatClampNeg ≤ n1)
    (hframes : 1 ≤ R.frames) (hlocals : (rest.map fun v => v.category).sum + (nativeFrameWords "java/lang/System" "arraycopy" 5 + 11) ≤ R.locals) (hdg : decode cc pc = .ok (.invokestatic index, 3))
    (kk : ∀ (H1 : Heap) (locs1 : List Loc), va_P D vwCl (va_pl L (va_up f a (.inl (cA, n1, .inr (.inl (va_cpy g h sp.toNatClampNeg dp.toNatClampNeg n.toNatClampNeg)))))) H1 → va_D A (va_pl L (va_up f a (.inl (cA, n1, .inr (.inl (va_cpy g h sp.toNatClampNeg dp.toNatClampNeg n.toNatClampNeg)))))) → va_S A s.heap H1 locs1 → W p l e R s m args below meth c H1 locs1 cells slots Q (F0 m (pc + 3) ls rest)) : W p l e R s m args below meth c H locs cells slots Q (F0 m pc ls (.int n :: .int dp :: .ref a :: .int sp :: .ref a0 :: rest)) := by
  obtain ⟨q0, hq0⟩ := pl_get0 (f := f) ma0
  obtain ⟨q1, hq1⟩ := pl_get0 (f := f) ma
  have hq3 := hq1
  rw [hf0] at hq0
  rw [hf1] at hq3
  refine va_copyl (ty := .long) hx hb hml hown hlink hnat hstat hini hK hP hD hS q0 q1 t0 t0 hq0 hq3 ht ht rfl h1 h2 h3 h4 h5 (fun _ _ => rfl) hframes hlocals hdg (fun H1 locs1 hP1 hD1 hS1 => ?_)
  rw [pl_set0 hD ma hq1] at hP1 hD1
  exact kk H1 locs1 hP1 hD1 hS1
end TKQ
