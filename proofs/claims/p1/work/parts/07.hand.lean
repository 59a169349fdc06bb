theorem upd_z0b (k : Nat) : upd z0 k (vp_nar .boolean 0) = z0 := by
  rw [show vp_nar .boolean 0 = 0 from rfl]
  exact upd_z0 k
def stg (i : Nat) : Nat → Int32 := fun j => if j < i then nI j else 0
theorem stg_0 : stg 0 = z0 := by funext j; simp [stg, z0]
theorem stg_s (i : Nat) : upd (stg i) i (nI i) = stg (i + 1) := by
  funext j
  by_cases h : j = i
  · subst h; rw [pk_us]; simp [stg]
  · rw [pk_un h]
    by_cases h2 : j < i
    · simp [stg, h2, Nat.lt_succ_of_lt h2]
    · simp [stg, h2, show ¬ j < i + 1 by omega]
theorem stg_at {i n : Nat} (h : i < n) : stg n i = nI i := by simp [stg, h]
theorem tk_j {i : Nat} (h : i < 73) : vp_in (nI i * 73 + nI i) 5329 := by
  rw [show (73 : Int32) = nI 73 from rfl, pk_mul, nI_add]
  exact vp_in_nI (by omega) (by omega)
theorem up_17 {g f : Nat → Int32} {i : Nat} (hg : g 17 = 0) (hf : f 17 = 0) : upd g i (f i) 17 = 0 := by
  by_cases h : 17 = i
  · rw [← h, pk_us]; exact hf
  · rw [pk_un h]; exact hg
theorem and63 (x : Int32) : ¬ (x &&& 63) < 0 := by
  obtain ⟨j, hj, e⟩ := pk_andE x (m := 63) 6 (by decide)
  rw [e]
  exact nI_pos (by omega)
set_option maxHeartbeats 8000000 in
set_option maxRecDepth 100000 in
/-- Arrays.fill of a row of zeros with 0 -/
theorem cc_fill0 (l : Launch) (D : va_G) (cI cL cZ : ClassId) (sz : Nat) (a0 : Nat) (N : Nat) (hN31 : N < 2 ^ 31) : mV l D cI cL cZ yJ7_fill_53178 cJ7_fill_53178 4 none 0 0 0 0 [.ref a0, .int 0] sz [(a0, .inl (cI, N, .inl z0))] (fun (w1 : va_W) => w1 = ([(a0, .inl (cI, N, .inl z0))] : va_W)) := by
  obtain ⟨dC, dI⟩ := D
  refine Met.ofW (cc := cJ7_fill_53178) (maxL := 4) (ret := none) (by decide) rfl ?_
  intro p e s m args below meth c s₁ B hml hv
  obtain ⟨rfl, hsz, hP, hK, hD0, hN⟩ := hv
  have hx := B.exec
  have hb := B.bytes
  have hr := B.returns
  have hlocks := B.notSynchronized
  subst hsz
  have hD := hD0.self (sz := s.heap.size)
  generalize hAe : va_A [(a0, .inl (cI, N, .inl z0))] s.heap.size = A at hD ⊢
  have hA : ∀ q : Nat, s.heap.size ≤ q → A q := fun q h => by rw [← hAe]; exact Or.inr h
  have hS : va_S A s.heap s.heap [] := va_S.rf
  have hl := lv_entry ([.ref a0, .int 0]) (n := 4) (Nat.le_of_ble_eq_true rfl)
  rw [lg_entry_eq]
  generalize (lg_sl ([.ref a0, .int 0]) ++ List.replicate (4 - (lg_sl ([.ref a0, .int 0])).length) Slot.unset).toArray = ls at hl ⊢
  have hl : lv_has ls 4 [(0, .ref a0), (1, .int 0)] := hl
  refine lv_iconst (v := 0) hx hb dJ7_fill_53178_0 (by decide) ?_
  refine lv_istore_n (lv' := [(2, .int 0), (0, .ref a0), (1, .int 0)]) hx hb dJ7_fill_53178_1 rfl hl (by decide) rfl (fun ls hl => ?_)
  refine lv_aload_n hx hb dJ7_fill_53178_2 rfl (lv_at hl 1 rfl) ?_
  refine va_alen (v := nI N) hx hb hK hP 0 0 rfl rfl rfl dJ7_fill_53178_3 ?_
  refine lv_istore_n (lv' := [(3, .int (nI N)), (2, .int 0), (0, .ref a0), (1, .int 0)]) hx hb dJ7_fill_53178_4 rfl hl (by decide) rfl (fun ls hl => ?_)
  have hloop : ∀ (n i : Nat) (x : Int32), x = nI i → i ≤ N → N + 1 ≤ i + n → ∀ (H : Heap) (locs : List Loc), va_P (dC, dI) vwCl [(a0, .inl (cI, N, .inl z0))] H → va_D A [(a0, .inl (cI, N, .inl z0))] → va_S A s.heap H locs → ∀ (ls : Array Slot), lv_has ls 4 [(3, .int (nI N)), (2, .int x), (0, .ref a0), (1, .int 0)] → W p l e (headSpec (wU yJ7_fill_53178 cJ7_fill_53178 4 none) { frames := 0, cells := 0, slots := 0, locals := 0 }).room s m [.ref a0, .int 0].toArray below meth c H locs 0 0 (MQ below (va_Qv (fun (w1 : va_W) => w1 = ([(a0, .inl (cI, N, .inl z0))] : va_W)) (qB (dC, dI) cI cL cZ A) A) [.ref a0, .int 0].toArray s 0 0 A) (F0 m 5 ls []) := by
    intro n
    induction n with
    | zero => intro i x ex hi hn; exact absurd hn (by omega)
    | succ n ih =>
      intro i x ex hi hn H locs hP hD hS ls hl
      refine lv_iload_n hx hb dJ7_fill_53178_5 rfl (lv_at hl 1 rfl) ?_
      refine lv_iload_n hx hb dJ7_fill_53178_6 rfl (lv_at hl 0 rfl) ?_
      refine lv_icmp_ge (tgt := 20) hx hb dJ7_fill_53178_7 (by decide) (fun c_1 => ?_) (fun c_1 => ?_)
      · exact W.vret hx hb hr (fun t ht hW => ⟨⟨_, rfl, rfl, by rw [ht]; exact hP, va_K.moved hW.alike hK, hD⟩, hS.F ht⟩) hS.2.2 dJ7_fill_53178_20
      · have hlt : i < N := by
          rcases Nat.lt_or_ge i N with q | q
          · exact q
          · exact absurd (by rw [ex]; exact nI_le q (by omega)) c_1
        refine lv_aload_n hx hb dJ7_fill_53178_10 rfl (lv_at hl 2 rfl) ?_
        refine lv_iload_n hx hb dJ7_fill_53178_11 rfl (lv_at hl 1 rfl) ?_
        refine lv_iload_n hx hb dJ7_fill_53178_12 rfl (lv_at hl 3 rfl) ?_
        refine va_iast hx hb hK hP hD hS 0 0 rfl rfl (by rw [ex]; exact vp_in_nI hlt (by omega)) dJ7_fill_53178_13 (fun H locs hP hD hS => ?_)
        have hP : va_P (dC, dI) vwCl [(a0, .inl (cI, N, .inl z0))] H := by rw [upd_z0] at hP; exact hP
        have hD : va_D A [(a0, .inl (cI, N, .inl z0))] := by rw [upd_z0] at hD; exact hD
        obtain ⟨y, ey⟩ : ∃ y : Int32, x + 1 = y := ⟨_, rfl⟩
        refine lv_iinc (v := y) (lv' := [(2, .int y), (3, .int (nI N)), (0, .ref a0), (1, .int 0)]) hx hb dJ7_fill_53178_14 hl (k := 1) rfl ey (by decide) rfl (fun ls hl => ?_)
        refine lv_goto (tgt := 5) hx hb dJ7_fill_53178_17 (by decide) ?_
        exact ih (i + 1) y (by rw [← ey, ex]; exact nI_1 i) (by omega) (by omega) _ _ hP hD hS ls (lv_sub hl [1, 0, 2, 3] rfl)
  exact hloop (N + 1) 0 0 nI_0.symm (Nat.zero_le _) (by omega) _ _ hP hD hS ls hl
