set_option maxHeartbeats 8000000 in
set_option maxRecDepth 100000 in
theorem s_X12_word_k12 (l : Launch) (D : va_G) (cI cL cZ cR cG cH : ClassId) (Z : zT) (kd : Nat → Nat) (L : List Nat) (f : Nat → va_E) (hG : GI (okc cI cL cZ cR cG cH L kd) kd L f) (o0 : Nat) (mo0 : o0 ∈ L) (ko0 : kd o0 = 12) (p1 : Int32) (bp1 : (60 ≤ p1.toInt ∧ p1.toInt ≤ 212)) (p2 : Int32) (bp2 : (0 ≤ p2.toInt ∧ p2.toInt ≤ 1)) (hxrel : p1.toInt % 8 = 4) (hxtr0 : ∀ d9, fldR (f o0) 1 = some d9 → frel kd 576 8 f d9) : mPI l D cI cL cZ cR cG cH Z yX12_word cX12_word 5 (some .boolean) 3 61 [.ref o0, .int p1, .int p2] L f (fun (r : Int32) (f9 : Nat → va_E) => GI (okc cI cL cZ cR cG cH L kd) kd L f9 ∧ (0 ≤ r.toInt ∧ r.toInt ≤ 1) ∧ (∀ b, kd b ≠ 12 → kd b ≠ 576 → f9 b = f b) ∧ (∀ b, kd b = 12 → ∀ j, fldR (f9 b) j = fldR (f b) j) ∧ (∀ b, kd b = 12 → ∀ j, j ≠ 6 → j ≠ 7 → j ≠ 8 → fldI (f9 b) j = fldI (f b) j) ∧ (∀ (w6 z6 : Int32), fldI (f o0) 6 = some w6 → fldI (f9 o0) 6 = some z6 → w6.toInt ≤ z6.toInt) ∧ (∀ d9, fldR (f9 o0) 1 = some d9 → frel kd 576 8 f9 d9)) := by
  obtain ⟨dC, dI⟩ := D
  refine Met.ofW (cc := cX12_word) (maxL := 5) (ret := (some .boolean)) (by decide) rfl ?_
  intro p e s m args below meth c s₁ B hml hv
  obtain ⟨rfl, hP, hK, hD0, hN, hZ⟩ := hv
  have hx := B.exec
  have hb := B.bytes
  have hr := B.returns
  have hU : ∀ w ∈ wsU, w.before _ s = true := fun w h => atoms_spec (ws := wU yX12_word cX12_word 5 (some .boolean)) B.pre w (List.mem_cons_of_mem _ h)
  have hown : s.vm.findClass RX12 = some m.cls := findClass_of_methodNamed B.named
  have hlocks := B.notSynchronized
  have hD := pl_in hD0
  have hS : va_S (fun q => q ∈ L) s.heap s.heap [] := va_S.rf
  have hl := lv_entry ([.ref o0, .int p1, .int p2]) (n := 5) (Nat.le_of_ble_eq_true rfl)
  rw [lg_entry_eq]
  generalize (lg_sl ([.ref o0, .int p1, .int p2]) ++ List.replicate (5 - (lg_sl ([.ref o0, .int p1, .int p2])).length) Slot.unset).toArray = ls at hl ⊢
  have hl : lv_has ls 5 [(0, .ref o0), (1, .int p1), (2, .int p2)] := hl
  have hfr0 : ∀ b, kd b ≠ 12 → kd b ≠ 576 → f b = f b := fun _ _ _ => rfl
  have hrA12 : ∀ b, kd b = 12 → ∀ j, fldR (f b) j = fldR (f b) j := fun _ _ _ => rfl
  have hfA12 : ∀ b, kd b = 12 → ∀ j, j ≠ 6 → j ≠ 7 → j ≠ 8 → fldI (f b) j = fldI (f b) j := fun _ _ _ _ _ _ => rfl
  obtain ⟨a_2, a_3, a_4, v_5, a_6, v_7, v_8, v_9, v_10, v_11, v_12, v_13, v_14, v_15, v_16, a_17, a_18, a_19, a_20, a_21, a_22, a_23, a_24, v_25, v_26, v_27, v_28, v_29, a_30, v_31, a_32, a_33, v_34, v_35, a_36, v_37, a_38, a_39, v_40, v_41, a_42, a_43, a_44, v_45, a_46, a_47, a_48, a_49, a_50, a_51, a_52, a_53, a_54, v_55, v_56, a_57, hfo_1, ⟨ma_2, ka_2⟩, ⟨ma_3, ka_3⟩, ⟨ma_4, ka_4⟩, bv_5, ⟨ma_6, ka_6⟩, bv_7, bv_8, bv_13, bv_14, bv_15, ⟨ma_17, ka_17⟩, ⟨ma_18, ka_18⟩, ⟨ma_19, ka_19⟩, ⟨ma_20, ka_20⟩, ⟨ma_21, ka_21⟩, ⟨ma_22, ka_22⟩, ⟨ma_23, ka_23⟩, ⟨ma_24, ka_24⟩, bv_25, bv_27, bv_29, ⟨ma_30, ka_30⟩, bv_31, ⟨ma_32, ka_32⟩, ⟨ma_33, ka_33⟩, bv_34, ⟨ma_36, ka_36⟩, bv_37, ⟨ma_38, ka_38⟩, ⟨ma_39, ka_39⟩, bv_40, ⟨ma_42, ka_42⟩, ⟨ma_43, ka_43⟩, ⟨ma_44, ka_44⟩, bv_45, ⟨ma_46, ka_46⟩, ⟨ma_47, ka_47⟩, ⟨ma_48, ka_48⟩, ⟨ma_49, ka_49⟩, ⟨ma_50, ka_50⟩, ⟨ma_51, ka_51⟩, ⟨ma_52, ka_52⟩, ⟨ma_53, ka_53⟩, ⟨ma_54, ka_54⟩, bv_55, ⟨ma_57, ka_57⟩⟩ := un_12 (hG _ mo0) ko0
  have bv_9 : ((-2147483648) ≤ v_9.toInt ∧ v_9.toInt ≤ 2147483647) := ⟨i32_lo _, i32_hi _⟩
  have bv_10 : ((-2147483648) ≤ v_10.toInt ∧ v_10.toInt ≤ 2147483647) := ⟨i32_lo _, i32_hi _⟩
  have bv_11 : ((-2147483648) ≤ v_11.toInt ∧ v_11.toInt ≤ 2147483647) := ⟨i32_lo _, i32_hi _⟩
  have bv_12 : ((-2147483648) ≤ v_12.toInt ∧ v_12.toInt ≤ 2147483647) := ⟨i32_lo _, i32_hi _⟩
  have bv_16 : ((-2147483648) ≤ v_16.toInt ∧ v_16.toInt ≤ 2147483647) := ⟨i32_lo _, i32_hi _⟩
  have bv_26 : ((-2147483648) ≤ v_26.toInt ∧ v_26.toInt ≤ 2147483647) := ⟨i32_lo _, i32_hi _⟩
  have bv_28 : ((-2147483648) ≤ v_28.toInt ∧ v_28.toInt ≤ 2147483647) := ⟨i32_lo _, i32_hi _⟩
  have bv_35 : ((-2147483648) ≤ v_35.toInt ∧ v_35.toInt ≤ 2147483647) := ⟨i32_lo _, i32_hi _⟩
  have bv_41 : ((-2147483648) ≤ v_41.toInt ∧ v_41.toInt ≤ 2147483647) := ⟨i32_lo _, i32_hi _⟩
  have bv_56 : ((-2147483648) ≤ v_56.toInt ∧ v_56.toInt ≤ 2147483647) := ⟨i32_lo _, i32_hi _⟩
  have hT0 := hxtr0 a_3 (by rw [hfo_1]; rfl)
  refine lv_aload_n hx hb dX12_word_0 rfl (lv_at hl 0 rfl) ?_
  refine tk_getP (D := (dC, dI)) (ci := 12) (v := .ref a_3) (C := RX12) (T := TX12) (N := 56) hx hb hU inlX12 hown hK hP mo0 hfo_1 rfl 1 (by decide) (hU _ wd_170) (fun _ h9 => h9) rfl dX12_word_1 ?_
  refine lv_iload_n hx hb dX12_word_4 rfl (lv_at hl 1 rfl) ?_
  refine lv_iconst (v := 0) hx hb dX12_word_5 (by decide) ?_
  obtain ⟨g_59, hfo_58, hbg_59⟩ := un_576 (hG _ ma_3) ka_3
  refine tk_istP hx hb hK hP hD hS 0 ma_3 hfo_58 rfl (vp_in_iff.mpr (by constructor <;> omega)) dX12_word_6 (fun H locs hP hD hS => ?_)
  have hc9 := cl_I (i := p1) (by omega)
  obtain ⟨g_60, eqg_60⟩ : ∃ y : Nat → Int32, y = upd g_59 (Int32.toNatClampNeg p1) 0 := ⟨_, rfl⟩
  rw [← eqg_60] at hP hD
  have hbg_60 : wOK g_60 := by rw [eqg_60]; exact ⟨hbg_59.1.up (fun h1 h2 h3 => by exfalso; omega), hbg_59.2.1.up (fun h1 h2 h3 => by exfalso; omega), hbg_59.2.2.1.up (fun h1 h2 h3 => by exfalso; omega), hbg_59.2.2.2.1.up (fun h1 h2 h3 => by exfalso; omega), hbg_59.2.2.2.2.1.up (fun h1 h2 h3 => by exfalso; omega), hbg_59.2.2.2.2.2.1.up (fun h1 h2 h3 => by exfalso; omega), hbg_59.2.2.2.2.2.2.1.up (fun h1 h2 h3 => by exfalso; omega), hbg_59.2.2.2.2.2.2.2.1.up (fun h1 h2 h3 => by exfalso; omega), hbg_59.2.2.2.2.2.2.2.2.1.up (fun h1 h2 h3 => by exfalso; omega), hbg_59.2.2.2.2.2.2.2.2.2.1.up (fun h1 h2 h3 => by exfalso; omega), hbg_59.2.2.2.2.2.2.2.2.2.2.1.up (fun h1 h2 h3 => by (try rw [ti_0]); constructor <;> omega), hbg_59.2.2.2.2.2.2.2.2.2.2.2.1.up (fun h1 h2 h3 => by (try rw [ti_0]); constructor <;> omega), hbg_59.2.2.2.2.2.2.2.2.2.2.2.2.1.up (fun h1 h2 h3 => by exfalso; omega), hbg_59.2.2.2.2.2.2.2.2.2.2.2.2.2.1.up (fun h1 h2 h3 => by exfalso; omega), hbg_59.2.2.2.2.2.2.2.2.2.2.2.2.2.2.1.up (fun h1 h2 h3 => by exfalso; omega), hbg_59.2.2.2.2.2.2.2.2.2.2.2.2.2.2.2.up (fun h1 h2 h3 => by exfalso; omega)⟩
  obtain ⟨f_62, ef_62⟩ : ∃ y : Nat → va_E, y = va_up f a_3 (.inl (cI, 1560, .inl g_60)) := ⟨_, rfl⟩
  have hP : va_P (dC, dI) vwCl (va_pl L f_62) H := by rw [ef_62]; exact hP
  have hD : va_D (fun q => q ∈ L) (va_pl L f_62) := by rw [ef_62]; exact hD
  have hG : GI (okc cI cL cZ cR cG cH L kd) kd L f_62 := by rw [ef_62]; exact hG.set a_3 (mk_576 ka_3 ⟨_, rfl, hbg_60⟩)
  have hfo_63 : f_62 o0 = .inr (12, [.ref a_2, .ref a_3, .ref a_4, .int v_5, .ref a_6, .int v_7, .int v_8, .int v_9, .int v_10, .int v_11, .int v_12, .int v_13, .int v_14, .int v_15, .int v_16, .ref a_17, .ref a_18, .ref a_19, .ref a_20, .ref a_21, .ref a_22, .ref a_23, .ref a_24, .int v_25, .int v_26, .int v_27, .int v_28, .int v_29, .ref a_30, .int v_31, .ref a_32, .ref a_33, .int v_34, .int v_35, .ref a_36, .int v_37, .ref a_38, .ref a_39, .int v_40, .int v_41, .ref a_42, .ref a_43, .ref a_44, .int v_45, .ref a_46, .ref a_47, .ref a_48, .ref a_49, .ref a_50, .ref a_51, .ref a_52, .ref a_53, .ref a_54, .int v_55, .int v_56, .ref a_57]) := by rw [ef_62, up_ne (kd_ne ka_3 ko0 (by decide))]; exact hfo_1
  have hfr0 : ∀ b, kd b ≠ 12 → kd b ≠ 576 → f_62 b = f b := fun b q12 q576 => (congrFun ef_62 b).trans ((up_ne (fun e9 => q576 (by rw [e9]; exact ka_3))).trans (hfr0 b q12 q576))
  have hrA12 : ∀ b, kd b = 12 → ∀ j, fldR (f_62 b) j = fldR (f b) j := fun b kb j => (congrArg (fun x => fldR x j) ((congrFun ef_62 b).trans (up_ne (kd_ne ka_3 kb (by decide))))).trans (hrA12 b kb j)
  have hfA12 : ∀ b, kd b = 12 → ∀ j, j ≠ 6 → j ≠ 7 → j ≠ 8 → fldI (f_62 b) j = fldI (f b) j := fun b kb j n6 n7 n8 => (congrArg (fun x => fldI x j) ((congrFun ef_62 b).trans (up_ne (kd_ne ka_3 kb (by decide))))).trans (hfA12 b kb j n6 n7 n8)
  have hT0 : frel kd 576 8 f_62 a_3 := by rw [ef_62]; exact frel.mk ka_3 up_self (by rw [eqg_60]; exact (hT0.get hfo_58).up (hbg_59.2.1 16 (by decide) (by decide) (by decide)).2 (by omega) (by omega) (by omega) (fun h9 => by exfalso; omega))
  have hfo_64 : f_62 a_3 = .inl (cI, 1560, .inl g_60) := by rw [ef_62]; exact up_self
  have ql_65 : 0 = g_60 (Int32.toNatClampNeg p1) := by rw [eqg_60, pk_us]
  have hloop_71 : ∀ (n : Nat), ∀ (f_73 : Nat → va_E), GI (okc cI cL cZ cR cG cH L kd) kd L f_73 → ∀ (H : Heap) (locs : List Loc), va_P (dC, dI) vwCl (va_pl L f_73) H → va_S (fun q => q ∈ L) s.heap H locs → va_D (fun q => q ∈ L) (va_pl L f_73) → (∀ b, kd b ≠ 12 → kd b ≠ 576 → f_73 b = f b) → (∀ b, kd b = 12 → ∀ j, fldR (f_73 b) j = fldR (f b) j) → (∀ b, kd b = 12 → ∀ j, j ≠ 6 → j ≠ 7 → j ≠ 8 → fldI (f_73 b) j = fldI (f b) j) → frel kd 576 8 f_73 a_3 → ∀ (whloop_71_0_6 : Int32), fldI (f_73 o0) 6 = some whloop_71_0_6 → (v_8.toInt ≤ whloop_71_0_6.toInt) → (0 ≤ whloop_71_0_6.toInt ∧ whloop_71_0_6.toInt ≤ 600) → 600 - whloop_71_0_6.toInt < (n : Int) → ∀ (ls : Array Slot), lv_has ls 5 [(0, .ref o0), (1, .int p1), (2, .int p2)] → W p l e (headSpec (wU yX12_word cX12_word 5 (some .boolean)) { frames := 3, cells := 0, slots := 0, locals := 61 }).room s m [.ref o0, .int p1, .int p2].toArray below meth c H locs 0 0 (MQ below (va_Qi (fun (r : Int32) (f9 : Nat → va_E) => GI (okc cI cL cZ cR cG cH L kd) kd L f9 ∧ (0 ≤ r.toInt ∧ r.toInt ≤ 1) ∧ (∀ b, kd b ≠ 12 → kd b ≠ 576 → f9 b = f b) ∧ (∀ b, kd b = 12 → ∀ j, fldR (f9 b) j = fldR (f b) j) ∧ (∀ b, kd b = 12 → ∀ j, j ≠ 6 → j ≠ 7 → j ≠ 8 → fldI (f9 b) j = fldI (f b) j) ∧ (∀ (w6 z6 : Int32), fldI (f o0) 6 = some w6 → fldI (f9 o0) 6 = some z6 → w6.toInt ≤ z6.toInt) ∧ (∀ d9, fldR (f9 o0) 1 = some d9 → frel kd 576 8 f9 d9)) (qP (dC, dI) cI cL cZ cR cG cH L) (fun q => q ∈ L)) [.ref o0, .int p1, .int p2].toArray s 0 0 (fun q => q ∈ L)) (F0 m 7 ls []) := by
    intro n
    induction n with
    | zero => intro f_73 hG H locs hP hS hD hfr0 hrA12 hfA12 hT0 whloop_71_0_6 hghloop_71_0_6 hrelhloop_71_0 hrelhloop_71_1 hmuhloop_71 ls hl; exfalso; omega
    | succ n ih_hloop_71 =>
      intro f_73 hG H locs hP hS hD hfr0 hrA12 hfA12 hT0 whloop_71_0_6 hghloop_71_0_6 hrelhloop_71_0 hrelhloop_71_1 hmuhloop_71 ls hl
      obtain ⟨a_75, a_76, a_77, v_78, a_79, v_80, v_81, v_82, v_83, v_84, v_85, v_86, v_87, v_88, v_89, a_90, a_91, a_92, a_93, a_94, a_95, a_96, a_97, v_98, v_99, v_100, v_101, v_102, a_103, v_104, a_105, a_106, v_107, v_108, a_109, v_110, a_111, a_112, v_113, v_114, a_115, a_116, a_117, v_118, a_119, a_120, a_121, a_122, a_123, a_124, a_125, a_126, a_127, v_128, v_129, a_130, hfo_74, ⟨ma_75, ka_75⟩, ⟨ma_76, ka_76⟩, ⟨ma_77, ka_77⟩, bv_78, ⟨ma_79, ka_79⟩, bv_80, bv_81, bv_86, bv_87, bv_88, ⟨ma_90, ka_90⟩, ⟨ma_91, ka_91⟩, ⟨ma_92, ka_92⟩, ⟨ma_93, ka_93⟩, ⟨ma_94, ka_94⟩, ⟨ma_95, ka_95⟩, ⟨ma_96, ka_96⟩, ⟨ma_97, ka_97⟩, bv_98, bv_100, bv_102, ⟨ma_103, ka_103⟩, bv_104, ⟨ma_105, ka_105⟩, ⟨ma_106, ka_106⟩, bv_107, ⟨ma_109, ka_109⟩, bv_110, ⟨ma_111, ka_111⟩, ⟨ma_112, ka_112⟩, bv_113, ⟨ma_115, ka_115⟩, ⟨ma_116, ka_116⟩, ⟨ma_117, ka_117⟩, bv_118, ⟨ma_119, ka_119⟩, ⟨ma_120, ka_120⟩, ⟨ma_121, ka_121⟩, ⟨ma_122, ka_122⟩, ⟨ma_123, ka_123⟩, ⟨ma_124, ka_124⟩, ⟨ma_125, ka_125⟩, ⟨ma_126, ka_126⟩, ⟨ma_127, ka_127⟩, bv_128, ⟨ma_130, ka_130⟩⟩ := un_12 (hG _ mo0) ko0
      have bv_82 : ((-2147483648) ≤ v_82.toInt ∧ v_82.toInt ≤ 2147483647) := ⟨i32_lo _, i32_hi _⟩
      have bv_83 : ((-2147483648) ≤ v_83.toInt ∧ v_83.toInt ≤ 2147483647) := ⟨i32_lo _, i32_hi _⟩
      have bv_84 : ((-2147483648) ≤ v_84.toInt ∧ v_84.toInt ≤ 2147483647) := ⟨i32_lo _, i32_hi _⟩
      have bv_85 : ((-2147483648) ≤ v_85.toInt ∧ v_85.toInt ≤ 2147483647) := ⟨i32_lo _, i32_hi _⟩
      have bv_89 : ((-2147483648) ≤ v_89.toInt ∧ v_89.toInt ≤ 2147483647) := ⟨i32_lo _, i32_hi _⟩
      have bv_99 : ((-2147483648) ≤ v_99.toInt ∧ v_99.toInt ≤ 2147483647) := ⟨i32_lo _, i32_hi _⟩
      have bv_101 : ((-2147483648) ≤ v_101.toInt ∧ v_101.toInt ≤ 2147483647) := ⟨i32_lo _, i32_hi _⟩
      have bv_108 : ((-2147483648) ≤ v_108.toInt ∧ v_108.toInt ≤ 2147483647) := ⟨i32_lo _, i32_hi _⟩
      have bv_114 : ((-2147483648) ≤ v_114.toInt ∧ v_114.toInt ≤ 2147483647) := ⟨i32_lo _, i32_hi _⟩
      have bv_129 : ((-2147483648) ≤ v_129.toInt ∧ v_129.toInt ≤ 2147483647) := ⟨i32_lo _, i32_hi _⟩
      obtain ⟨rfl, rfl, rfl, rfl, rfl, rfl, rfl, rfl, rfl, rfl, rfl, rfl, rfl, rfl, rfl, rfl, rfl, rfl, rfl, rfl, rfl, rfl, rfl, rfl, rfl, rfl, rfl, rfl, rfl, rfl, rfl⟩ := re_12 hfo_1 hfo_74 (hrA12 o0 ko0)
      obtain rfl := ri_12_3 hfo_1 hfo_74 (hfA12 o0 ko0 3 (by decide) (by decide) (by decide))
      obtain rfl := ri_12_5 hfo_1 hfo_74 (hfA12 o0 ko0 5 (by decide) (by decide) (by decide))
      obtain rfl := ri_12_11 hfo_1 hfo_74 (hfA12 o0 ko0 11 (by decide) (by decide) (by decide))
      obtain rfl := ri_12_12 hfo_1 hfo_74 (hfA12 o0 ko0 12 (by decide) (by decide) (by decide))
      obtain rfl := ri_12_13 hfo_1 hfo_74 (hfA12 o0 ko0 13 (by decide) (by decide) (by decide))
      obtain rfl := ri_12_14 hfo_1 hfo_74 (hfA12 o0 ko0 14 (by decide) (by decide) (by decide))
      obtain rfl := ri_12_23 hfo_1 hfo_74 (hfA12 o0 ko0 23 (by decide) (by decide) (by decide))
      obtain rfl := ri_12_25 hfo_1 hfo_74 (hfA12 o0 ko0 25 (by decide) (by decide) (by decide))
      obtain rfl := ri_12_27 hfo_1 hfo_74 (hfA12 o0 ko0 27 (by decide) (by decide) (by decide))
      obtain rfl := ri_12_29 hfo_1 hfo_74 (hfA12 o0 ko0 29 (by decide) (by decide) (by decide))
      obtain rfl := ri_12_32 hfo_1 hfo_74 (hfA12 o0 ko0 32 (by decide) (by decide) (by decide))
      obtain rfl := ri_12_33 hfo_1 hfo_74 (hfA12 o0 ko0 33 (by decide) (by decide) (by decide))
      obtain rfl := ri_12_35 hfo_1 hfo_74 (hfA12 o0 ko0 35 (by decide) (by decide) (by decide))
      obtain rfl := ri_12_38 hfo_1 hfo_74 (hfA12 o0 ko0 38 (by decide) (by decide) (by decide))
      obtain rfl := ri_12_43 hfo_1 hfo_74 (hfA12 o0 ko0 43 (by decide) (by decide) (by decide))
      obtain rfl := ri_12_53 hfo_1 hfo_74 (hfA12 o0 ko0 53 (by decide) (by decide) (by decide))
      obtain rfl : v_81 = whloop_71_0_6 := by rw [hfo_74] at hghloop_71_0_6; exact Option.some.inj hghloop_71_0_6
      refine lv_iload_n hx hb dX12_word_7 rfl (lv_at hl 2 rfl) ?_
      refine lv_if_eq (tgt := 20) hx hb dX12_word_8 (by decide) (fun c_131 => ?_) (fun c_131 => ?_)
      · skip
        rw [← Int32.toInt_inj, ti_0] at c_131
        refine lv_aload_n hx hb dX12_word_20 rfl (lv_at hl 0 rfl) ?_
        refine tk_ViP (As := []) (rest := []) (n := 0) hx hb hml hown hU hN hZ (s_X12_sign_k12 l (dC, dI) cI cL cZ cR cG cH Z kd L f_73 hG o0 mo0 ko0) wd_573 wd_574 wd_575 wd_5 wd_576 (by decide +kernel) ⟨Nat.le_of_ble_eq_true rfl, Nat.le_of_ble_eq_true rfl⟩ hK hP hD hS mo0 hfo_74 12 rfl rfl rfl hl.1 rfl (Nat.le_of_ble_eq_true rfl) dX12_word_21 ⟨Nat.le_of_ble_eq_true rfl, Nat.le_of_ble_eq_true rfl⟩ (fun x_132 f_133 H locs hw hP hD hS => ?_)
        obtain ⟨hG, bx_132, hkc_134, hra_135, hfa_136, hpost_137⟩ := hw
        have hfr0 : ∀ b, kd b ≠ 12 → kd b ≠ 576 → f_133 b = f b := fun b q12 q576 => (hkc_134 b q12).trans (hfr0 b q12 q576)
        have hrA12 : ∀ b, kd b = 12 → ∀ j, fldR (f_133 b) j = fldR (f b) j := fun b kb j => (hra_135 b kb j).trans (hrA12 b kb j)
        have hfA12 : ∀ b, kd b = 12 → ∀ j, j ≠ 6 → j ≠ 7 → j ≠ 8 → fldI (f_133 b) j = fldI (f b) j := fun b kb j n6 n7 n8 => (hfa_136 b kb j n6).trans (hfA12 b kb j n6 n7 n8)
        have hT0 : frel kd 576 8 f_133 a_3 := hT0.keep (fun b q => hkc_134 b (by rw [q]; decide))
        obtain ⟨a_140, a_141, a_142, v_143, a_144, v_145, v_146, v_147, v_148, v_149, v_150, v_151, v_152, v_153, v_154, a_155, a_156, a_157, a_158, a_159, a_160, a_161, a_162, v_163, v_164, v_165, v_166, v_167, a_168, v_169, a_170, a_171, v_172, v_173, a_174, v_175, a_176, a_177, v_178, v_179, a_180, a_181, a_182, v_183, a_184, a_185, a_186, a_187, a_188, a_189, a_190, a_191, a_192, v_193, v_194, a_195, hfo_139, ⟨ma_140, ka_140⟩, ⟨ma_141, ka_141⟩, ⟨ma_142, ka_142⟩, bv_143, ⟨ma_144, ka_144⟩, bv_145, bv_146, bv_151, bv_152, bv_153, ⟨ma_155, ka_155⟩, ⟨ma_156, ka_156⟩, ⟨ma_157, ka_157⟩, ⟨ma_158, ka_158⟩, ⟨ma_159, ka_159⟩, ⟨ma_160, ka_160⟩, ⟨ma_161, ka_161⟩, ⟨ma_162, ka_162⟩, bv_163, bv_165, bv_167, ⟨ma_168, ka_168⟩, bv_169, ⟨ma_170, ka_170⟩, ⟨ma_171, ka_171⟩, bv_172, ⟨ma_174, ka_174⟩, bv_175, ⟨ma_176, ka_176⟩, ⟨ma_177, ka_177⟩, bv_178, ⟨ma_180, ka_180⟩, ⟨ma_181, ka_181⟩, ⟨ma_182, ka_182⟩, bv_183, ⟨ma_184, ka_184⟩, ⟨ma_185, ka_185⟩, ⟨ma_186, ka_186⟩, ⟨ma_187, ka_187⟩, ⟨ma_188, ka_188⟩, ⟨ma_189, ka_189⟩, ⟨ma_190, ka_190⟩, ⟨ma_191, ka_191⟩, ⟨ma_192, ka_192⟩, bv_193, ⟨ma_195, ka_195⟩⟩ := un_12 (hG _ mo0) ko0
        have bv_147 : ((-2147483648) ≤ v_147.toInt ∧ v_147.toInt ≤ 2147483647) := ⟨i32_lo _, i32_hi _⟩
        have bv_148 : ((-2147483648) ≤ v_148.toInt ∧ v_148.toInt ≤ 2147483647) := ⟨i32_lo _, i32_hi _⟩
        have bv_149 : ((-2147483648) ≤ v_149.toInt ∧ v_149.toInt ≤ 2147483647) := ⟨i32_lo _, i32_hi _⟩
        have bv_150 : ((-2147483648) ≤ v_150.toInt ∧ v_150.toInt ≤ 2147483647) := ⟨i32_lo _, i32_hi _⟩
        have bv_154 : ((-2147483648) ≤ v_154.toInt ∧ v_154.toInt ≤ 2147483647) := ⟨i32_lo _, i32_hi _⟩
        have bv_164 : ((-2147483648) ≤ v_164.toInt ∧ v_164.toInt ≤ 2147483647) := ⟨i32_lo _, i32_hi _⟩
        have bv_166 : ((-2147483648) ≤ v_166.toInt ∧ v_166.toInt ≤ 2147483647) := ⟨i32_lo _, i32_hi _⟩
        have bv_173 : ((-2147483648) ≤ v_173.toInt ∧ v_173.toInt ≤ 2147483647) := ⟨i32_lo _, i32_hi _⟩
        have bv_179 : ((-2147483648) ≤ v_179.toInt ∧ v_179.toInt ≤ 2147483647) := ⟨i32_lo _, i32_hi _⟩
        have bv_194 : ((-2147483648) ≤ v_194.toInt ∧ v_194.toInt ≤ 2147483647) := ⟨i32_lo _, i32_hi _⟩
        obtain ⟨rfl, rfl, rfl, rfl, rfl, rfl, rfl, rfl, rfl, rfl, rfl, rfl, rfl, rfl, rfl, rfl, rfl, rfl, rfl, rfl, rfl, rfl, rfl, rfl, rfl, rfl, rfl, rfl, rfl, rfl, rfl⟩ := re_12 hfo_1 hfo_139 (hrA12 o0 ko0)
        obtain rfl := ri_12_3 hfo_1 hfo_139 (hfA12 o0 ko0 3 (by decide) (by decide) (by decide))
        obtain rfl := ri_12_5 hfo_1 hfo_139 (hfA12 o0 ko0 5 (by decide) (by decide) (by decide))
        obtain rfl := ri_12_11 hfo_1 hfo_139 (hfA12 o0 ko0 11 (by decide) (by decide) (by decide))
        obtain rfl := ri_12_12 hfo_1 hfo_139 (hfA12 o0 ko0 12 (by decide) (by decide) (by decide))
        obtain rfl := ri_12_13 hfo_1 hfo_139 (hfA12 o0 ko0 13 (by decide) (by decide) (by decide))
        obtain rfl := ri_12_14 hfo_1 hfo_139 (hfA12 o0 ko0 14 (by decide) (by decide) (by decide))
        obtain rfl := ri_12_23 hfo_1 hfo_139 (hfA12 o0 ko0 23 (by decide) (by decide) (by decide))
        obtain rfl := ri_12_25 hfo_1 hfo_139 (hfA12 o0 ko0 25 (by decide) (by decide) (by decide))
        obtain rfl := ri_12_27 hfo_1 hfo_139 (hfA12 o0 ko0 27 (by decide) (by decide) (by decide))
        obtain rfl := ri_12_29 hfo_1 hfo_139 (hfA12 o0 ko0 29 (by decide) (by decide) (by decide))
        obtain rfl := ri_12_32 hfo_1 hfo_139 (hfA12 o0 ko0 32 (by decide) (by decide) (by decide))
        obtain rfl := ri_12_33 hfo_1 hfo_139 (hfA12 o0 ko0 33 (by decide) (by decide) (by decide))
        obtain rfl := ri_12_35 hfo_1 hfo_139 (hfA12 o0 ko0 35 (by decide) (by decide) (by decide))
        obtain rfl := ri_12_38 hfo_1 hfo_139 (hfA12 o0 ko0 38 (by decide) (by decide) (by decide))
        obtain rfl := ri_12_43 hfo_1 hfo_139 (hfA12 o0 ko0 43 (by decide) (by decide) (by decide))
        obtain rfl := ri_12_53 hfo_1 hfo_139 (hfA12 o0 ko0 53 (by decide) (by decide) (by decide))
        have hqhpost_137 := hpost_137 v_81 v_146 (by rw [hfo_74]; rfl) (by rw [hfo_139]; rfl)
        refine lv_bipush (v := 59) hx hb dX12_word_24 (by decide) ?_
        refine lv_icmp_eq (tgt := 135) hx hb dX12_word_26 (by decide) (fun c_196 => ?_) (fun c_196 => ?_)
        · skip
          rw [← Int32.toInt_inj, ti_59] at c_196
          refine lv_iconst (v := 1) hx hb dX12_word_135 (by decide) ?_
          exact W.zret (v := 1) (ty := .boolean) hx hb hr rfl (fun t ht hW => ⟨⟨1, f_133, rfl, ⟨hG, (by decide), hfr0, hrA12, hfA12, (by intro w6 z6 e6 d6; rw [hfo_1] at e6; rw [hfo_139] at d6; obtain rfl := Option.some.inj e6; obtain rfl := Option.some.inj d6; (try rw [ti_1]) <;> omega), (fun d9 h9 => by rw [hfo_139] at h9; obtain rfl := Option.some.inj h9; exact hT0)⟩, by rw [ht]; exact hP, va_K.moved hW.alike hK, pl_in hD⟩, hS.F ht⟩) hS.2.2 dX12_word_136
        · skip
          rw [← Int32.toInt_inj, ti_59] at c_196
          refine lv_aload_n hx hb dX12_word_29 rfl (lv_at hl 0 rfl) ?_
          refine tk_ViP (As := []) (rest := []) (n := 0) hx hb hml hown hU hN hZ (s_X12_sign_k12 l (dC, dI) cI cL cZ cR cG cH Z kd L f_133 hG o0 mo0 ko0) wd_573 wd_574 wd_575 wd_5 wd_576 (by decide +kernel) ⟨Nat.le_of_ble_eq_true rfl, Nat.le_of_ble_eq_true rfl⟩ hK hP hD hS mo0 hfo_139 12 rfl rfl rfl hl.1 rfl (Nat.le_of_ble_eq_true rfl) dX12_word_30 ⟨Nat.le_of_ble_eq_true rfl, Nat.le_of_ble_eq_true rfl⟩ (fun x_197 f_198 H locs hw hP hD hS => ?_)
          obtain ⟨hG, bx_197, hkc_199, hra_200, hfa_201, hpost_202⟩ := hw
          have hfr0 : ∀ b, kd b ≠ 12 → kd b ≠ 576 → f_198 b = f b := fun b q12 q576 => (hkc_199 b q12).trans (hfr0 b q12 q576)
          have hrA12 : ∀ b, kd b = 12 → ∀ j, fldR (f_198 b) j = fldR (f b) j := fun b kb j => (hra_200 b kb j).trans (hrA12 b kb j)
          have hfA12 : ∀ b, kd b = 12 → ∀ j, j ≠ 6 → j ≠ 7 → j ≠ 8 → fldI (f_198 b) j = fldI (f b) j := fun b kb j n6 n7 n8 => (hfa_201 b kb j n6).trans (hfA12 b kb j n6 n7 n8)
          have hT0 : frel kd 576 8 f_198 a_3 := hT0.keep (fun b q => hkc_199 b (by rw [q]; decide))
          obtain ⟨a_205, a_206, a_207, v_208, a_209, v_210, v_211, v_212, v_213, v_214, v_215, v_216, v_217, v_218, v_219, a_220, a_221, a_222, a_223, a_224, a_225, a_226, a_227, v_228, v_229, v_230, v_231, v_232, a_233, v_234, a_235, a_236, v_237, v_238, a_239, v_240, a_241, a_242, v_243, v_244, a_245, a_246, a_247, v_248, a_249, a_250, a_251, a_252, a_253, a_254, a_255, a_256, a_257, v_258, v_259, a_260, hfo_204, ⟨ma_205, ka_205⟩, ⟨ma_206, ka_206⟩, ⟨ma_207, ka_207⟩, bv_208, ⟨ma_209, ka_209⟩, bv_210, bv_211, bv_216, bv_217, bv_218, ⟨ma_220, ka_220⟩, ⟨ma_221, ka_221⟩, ⟨ma_222, ka_222⟩, ⟨ma_223, ka_223⟩, ⟨ma_224, ka_224⟩, ⟨ma_225, ka_225⟩, ⟨ma_226, ka_226⟩, ⟨ma_227, ka_227⟩, bv_228, bv_230, bv_232, ⟨ma_233, ka_233⟩, bv_234, ⟨ma_235, ka_235⟩, ⟨ma_236, ka_236⟩, bv_237, ⟨ma_239, ka_239⟩, bv_240, ⟨ma_241, ka_241⟩, ⟨ma_242, ka_242⟩, bv_243, ⟨ma_245, ka_245⟩, ⟨ma_246, ka_246⟩, ⟨ma_247, ka_247⟩, bv_248, ⟨ma_249, ka_249⟩, ⟨ma_250, ka_250⟩, ⟨ma_251, ka_251⟩, ⟨ma_252, ka_252⟩, ⟨ma_253, ka_253⟩, ⟨ma_254, ka_254⟩, ⟨ma_255, ka_255⟩, ⟨ma_256, ka_256⟩, ⟨ma_257, ka_257⟩, bv_258, ⟨ma_260, ka_260⟩⟩ := un_12 (hG _ mo0) ko0
          have bv_212 : ((-2147483648) ≤ v_212.toInt ∧ v_212.toInt ≤ 2147483647) := ⟨i32_lo _, i32_hi _⟩
          have bv_213 : ((-2147483648) ≤ v_213.toInt ∧ v_213.toInt ≤ 2147483647) := ⟨i32_lo _, i32_hi _⟩
          have bv_214 : ((-2147483648) ≤ v_214.toInt ∧ v_214.toInt ≤ 2147483647) := ⟨i32_lo _, i32_hi _⟩
          have bv_215 : ((-2147483648) ≤ v_215.toInt ∧ v_215.toInt ≤ 2147483647) := ⟨i32_lo _, i32_hi _⟩
          have bv_219 : ((-2147483648) ≤ v_219.toInt ∧ v_219.toInt ≤ 2147483647) := ⟨i32_lo _, i32_hi _⟩
          have bv_229 : ((-2147483648) ≤ v_229.toInt ∧ v_229.toInt ≤ 2147483647) := ⟨i32_lo _, i32_hi _⟩
          have bv_231 : ((-2147483648) ≤ v_231.toInt ∧ v_231.toInt ≤ 2147483647) := ⟨i32_lo _, i32_hi _⟩
          have bv_238 : ((-2147483648) ≤ v_238.toInt ∧ v_238.toInt ≤ 2147483647) := ⟨i32_lo _, i32_hi _⟩
          have bv_244 : ((-2147483648) ≤ v_244.toInt ∧ v_244.toInt ≤ 2147483647) := ⟨i32_lo _, i32_hi _⟩
          have bv_259 : ((-2147483648) ≤ v_259.toInt ∧ v_259.toInt ≤ 2147483647) := ⟨i32_lo _, i32_hi _⟩
          obtain ⟨rfl, rfl, rfl, rfl, rfl, rfl, rfl, rfl, rfl, rfl, rfl, rfl, rfl, rfl, rfl, rfl, rfl, rfl, rfl, rfl, rfl, rfl, rfl, rfl, rfl, rfl, rfl, rfl, rfl, rfl, rfl⟩ := re_12 hfo_1 hfo_204 (hrA12 o0 ko0)
          obtain rfl := ri_12_3 hfo_1 hfo_204 (hfA12 o0 ko0 3 (by decide) (by decide) (by decide))
          obtain rfl := ri_12_5 hfo_1 hfo_204 (hfA12 o0 ko0 5 (by decide) (by decide) (by decide))
          obtain rfl := ri_12_11 hfo_1 hfo_204 (hfA12 o0 ko0 11 (by decide) (by decide) (by decide))
          obtain rfl := ri_12_12 hfo_1 hfo_204 (hfA12 o0 ko0 12 (by decide) (by decide) (by decide))
          obtain rfl := ri_12_13 hfo_1 hfo_204 (hfA12 o0 ko0 13 (by decide) (by decide) (by decide))
          obtain rfl := ri_12_14 hfo_1 hfo_204 (hfA12 o0 ko0 14 (by decide) (by decide) (by decide))
          obtain rfl := ri_12_23 hfo_1 hfo_204 (hfA12 o0 ko0 23 (by decide) (by decide) (by decide))
          obtain rfl := ri_12_25 hfo_1 hfo_204 (hfA12 o0 ko0 25 (by decide) (by decide) (by decide))
          obtain rfl := ri_12_27 hfo_1 hfo_204 (hfA12 o0 ko0 27 (by decide) (by decide) (by decide))
          obtain rfl := ri_12_29 hfo_1 hfo_204 (hfA12 o0 ko0 29 (by decide) (by decide) (by decide))
          obtain rfl := ri_12_32 hfo_1 hfo_204 (hfA12 o0 ko0 32 (by decide) (by decide) (by decide))
          obtain rfl := ri_12_33 hfo_1 hfo_204 (hfA12 o0 ko0 33 (by decide) (by decide) (by decide))
          obtain rfl := ri_12_35 hfo_1 hfo_204 (hfA12 o0 ko0 35 (by decide) (by decide) (by decide))
          obtain rfl := ri_12_38 hfo_1 hfo_204 (hfA12 o0 ko0 38 (by decide) (by decide) (by decide))
          obtain rfl := ri_12_43 hfo_1 hfo_204 (hfA12 o0 ko0 43 (by decide) (by decide) (by decide))
          obtain rfl := ri_12_53 hfo_1 hfo_204 (hfA12 o0 ko0 53 (by decide) (by decide) (by decide))
          have hqhpost_202 := hpost_202 v_146 v_211 (by rw [hfo_139]; rfl) (by rw [hfo_204]; rfl)
          refine lv_istore_n (lv' := [(3, .int x_197), (0, .ref o0), (1, .int p1), (2, .int p2)]) hx hb dX12_word_33 rfl hl (by decide) rfl (fun ls hl => ?_)
          refine lv_iload_n hx hb dX12_word_34 rfl (lv_at hl 0 rfl) ?_
          refine tk_SiP (As := [.int x_197]) (rest := []) (n := 1) hx hb hml hown hU hN hZ (s_X12_isSmall l (dC, dI) cI cL cZ cR cG cH Z kd L f_198 hG x_197) wd_589 wd_590 wd_5 wd_591 (by decide +kernel) ⟨Nat.le_of_ble_eq_true rfl, Nat.le_of_ble_eq_true rfl⟩ hK hP hD hS rfl hl.1 rfl (Nat.le_of_ble_eq_true rfl) dX12_word_35 ⟨Nat.le_of_ble_eq_true rfl, Nat.le_of_ble_eq_true rfl⟩ (fun x_261 f_262 H locs hw hP hD hS => ?_)
          obtain ⟨rfl, bx_261, relx_261⟩ := hw
          refine lv_if_ne (tgt := 51) hx hb dX12_word_38 (by decide) (fun c_264 => ?_) (fun c_264 => ?_)
          · skip
            rw [← Int32.toInt_inj, ti_0] at c_264
            refine lv_aload_n hx hb dX12_word_51 rfl (lv_at hl 1 rfl) ?_
            refine tk_getP (D := (dC, dI)) (ci := 12) (v := .ref a_3) (C := RX12) (T := TX12) (N := 56) hx hb hU inlX12 hown hK hP mo0 hfo_204 rfl 1 (by decide) (hU _ wd_170) (fun _ h9 => h9) rfl dX12_word_52 ?_
            refine lv_iload_n hx hb dX12_word_55 rfl (lv_at hl 0 rfl) ?_
            refine tk_SiP (As := [.ref a_3, .int x_197]) (rest := []) (n := 2) hx hb hml hown hU hN hZ (s_X12_letterIn_a576 l (dC, dI) cI cL cZ cR cG cH Z kd L f_198 hG a_3 ma_3 ka_3 x_197) wd_606 wd_607 wd_5 wd_608 (by decide +kernel) ⟨Nat.le_of_ble_eq_true rfl, Nat.le_of_ble_eq_true rfl⟩ hK hP hD hS rfl hl.1 rfl (Nat.le_of_ble_eq_true rfl) dX12_word_56 ⟨Nat.le_of_ble_eq_true rfl, Nat.le_of_ble_eq_true rfl⟩ (fun x_265 f_266 H locs hw hP hD hS => ?_)
            obtain ⟨rfl, bx_265, hxp_267⟩ := hw
            obtain ⟨g_270, hfo_269, hbg_270⟩ := un_576 (hG _ ma_3) ka_3
            have hlix_265 := hxp_267 g_270 hfo_269
            refine lv_istore (lv' := [(4, .int x_265), (3, .int x_197), (0, .ref o0), (1, .int p1), (2, .int p2)]) hx hb dX12_word_59 hl (by decide) rfl (fun ls hl => ?_)
            refine lv_iload hx hb dX12_word_61 (lv_at hl 0 rfl) ?_
            refine lv_if_ne (tgt := 76) hx hb dX12_word_63 (by decide) (fun c_271 => ?_) (fun c_271 => ?_)
            · skip
              rw [← Int32.toInt_inj, ti_0] at c_271
              refine lv_aload_n hx hb dX12_word_76 rfl (lv_at hl 2 rfl) ?_
              refine tk_getP (D := (dC, dI)) (ci := 12) (v := .ref a_3) (C := RX12) (T := TX12) (N := 56) hx hb hU inlX12 hown hK hP mo0 hfo_204 rfl 1 (by decide) (hU _ wd_170) (fun _ h9 => h9) rfl dX12_word_77 ?_
              refine lv_iload_n hx hb dX12_word_80 rfl (lv_at hl 3 rfl) ?_
              refine tk_ildP hx hb hK hP 0 ma_3 hfo_269 rfl (vp_in_iff.mpr (by constructor <;> omega)) dX12_word_81 ?_
              refine lv_topi (fun x_272 ex_272 => ?_)
              have bx_272 : (0 ≤ x_272.toInt ∧ x_272.toInt ≤ 6) := by have hc9 := cl_I (i := p1) (by omega); rw [ex_272]; exact hbg_270.2.2.2.2.2.2.2.2.2.2.2.1 _ (by omega) (by omega) (by omega)
              refine lv_bipush (v := 6) hx hb dX12_word_82 (by decide) ?_
              refine lv_icmp_ne (tgt := 97) hx hb dX12_word_84 (by decide) (fun c_273 => ?_) (fun c_273 => ?_)
              · skip
                rw [← Int32.toInt_inj, ti_6] at c_273
                refine lv_aload_n hx hb dX12_word_97 rfl (lv_at hl 2 rfl) ?_
                refine tk_getP (D := (dC, dI)) (ci := 12) (v := .ref a_3) (C := RX12) (T := TX12) (N := 56) hx hb hU inlX12 hown hK hP mo0 hfo_204 rfl 1 (by decide) (hU _ wd_170) (fun _ h9 => h9) rfl dX12_word_98 ?_
                refine lv_iload_n hx hb dX12_word_101 rfl (lv_at hl 3 rfl) ?_
                refine lv_dup2_11 hx hb dX12_word_102 rfl rfl ?_
                refine tk_ildP hx hb hK hP 0 ma_3 hfo_269 rfl (vp_in_iff.mpr (by constructor <;> omega)) dX12_word_103 ?_
                refine tk_topi (y := x_272) ex_272.symm ?_
                refine lv_iconst (v := 1) hx hb dX12_word_104 (by decide) ?_
                refine lv_iadd hx hb dX12_word_105 ?_
                refine lv_topi (fun x_274 ex_274 => ?_)
                have hx_274 : x_274.toInt = x_272.toInt + 1 := by rw [ex_274, ad_I (by rw [ti_1]; omega) (by rw [ti_1]; omega), ti_1]
                have bx_274 : (1 ≤ x_274.toInt ∧ x_274.toInt ≤ 6) := by constructor <;> omega
                refine tk_istP hx hb hK hP hD hS 0 ma_3 hfo_269 rfl (vp_in_iff.mpr (by constructor <;> omega)) dX12_word_106 (fun H locs hP hD hS => ?_)
                have hc9 := cl_I (i := p1) (by omega)
                obtain ⟨g_275, eqg_275⟩ : ∃ y : Nat → Int32, y = upd g_270 (Int32.toNatClampNeg p1) x_274 := ⟨_, rfl⟩
                rw [← eqg_275] at hP hD
                have hbg_275 : wOK g_275 := by rw [eqg_275]; exact ⟨hbg_270.1.up (fun h1 h2 h3 => by exfalso; omega), hbg_270.2.1.up (fun h1 h2 h3 => by exfalso; omega), hbg_270.2.2.1.up (fun h1 h2 h3 => by exfalso; omega), hbg_270.2.2.2.1.up (fun h1 h2 h3 => by exfalso; omega), hbg_270.2.2.2.2.1.up (fun h1 h2 h3 => by exfalso; omega), hbg_270.2.2.2.2.2.1.up (fun h1 h2 h3 => by exfalso; omega), hbg_270.2.2.2.2.2.2.1.up (fun h1 h2 h3 => by exfalso; omega), hbg_270.2.2.2.2.2.2.2.1.up (fun h1 h2 h3 => by exfalso; omega), hbg_270.2.2.2.2.2.2.2.2.1.up (fun h1 h2 h3 => by exfalso; omega), hbg_270.2.2.2.2.2.2.2.2.2.1.up (fun h1 h2 h3 => by exfalso; omega), hbg_270.2.2.2.2.2.2.2.2.2.2.1.up (fun h1 h2 h3 => by constructor <;> omega), hbg_270.2.2.2.2.2.2.2.2.2.2.2.1.up (fun h1 h2 h3 => by constructor <;> omega), hbg_270.2.2.2.2.2.2.2.2.2.2.2.2.1.up (fun h1 h2 h3 => by exfalso; omega), hbg_270.2.2.2.2.2.2.2.2.2.2.2.2.2.1.up (fun h1 h2 h3 => by exfalso; omega), hbg_270.2.2.2.2.2.2.2.2.2.2.2.2.2.2.1.up (fun h1 h2 h3 => by exfalso; omega), hbg_270.2.2.2.2.2.2.2.2.2.2.2.2.2.2.2.up (fun h1 h2 h3 => by exfalso; omega)⟩
                obtain ⟨f_277, ef_277⟩ : ∃ y : Nat → va_E, y = va_up f_198 a_3 (.inl (cI, 1560, .inl g_275)) := ⟨_, rfl⟩
                have hP : va_P (dC, dI) vwCl (va_pl L f_277) H := by rw [ef_277]; exact hP
                have hD : va_D (fun q => q ∈ L) (va_pl L f_277) := by rw [ef_277]; exact hD
                have hG : GI (okc cI cL cZ cR cG cH L kd) kd L f_277 := by rw [ef_277]; exact hG.set a_3 (mk_576 ka_3 ⟨_, rfl, hbg_275⟩)
                have hfo_278 : f_277 o0 = .inr (12, [.ref a_2, .ref a_3, .ref a_4, .int v_5, .ref a_6, .int v_7, .int v_211, .int v_212, .int v_213, .int v_214, .int v_215, .int v_13, .int v_14, .int v_15, .int v_16, .ref a_17, .ref a_18, .ref a_19, .ref a_20, .ref a_21, .ref a_22, .ref a_23, .ref a_24, .int v_25, .int v_229, .int v_27, .int v_231, .int v_29, .ref a_30, .int v_31, .ref a_32, .ref a_33, .int v_34, .int v_35, .ref a_36, .int v_37, .ref a_38, .ref a_39, .int v_40, .int v_244, .ref a_42, .ref a_43, .ref a_44, .int v_45, .ref a_46, .ref a_47, .ref a_48, .ref a_49, .ref a_50, .ref a_51, .ref a_52, .ref a_53, .ref a_54, .int v_55, .int v_259, .ref a_57]) := by rw [ef_277, up_ne (kd_ne ka_3 ko0 (by decide))]; exact hfo_204
                have hfr0 : ∀ b, kd b ≠ 12 → kd b ≠ 576 → f_277 b = f b := fun b q12 q576 => (congrFun ef_277 b).trans ((up_ne (fun e9 => q576 (by rw [e9]; exact ka_3))).trans (hfr0 b q12 q576))
                have hrA12 : ∀ b, kd b = 12 → ∀ j, fldR (f_277 b) j = fldR (f b) j := fun b kb j => (congrArg (fun x => fldR x j) ((congrFun ef_277 b).trans (up_ne (kd_ne ka_3 kb (by decide))))).trans (hrA12 b kb j)
                have hfA12 : ∀ b, kd b = 12 → ∀ j, j ≠ 6 → j ≠ 7 → j ≠ 8 → fldI (f_277 b) j = fldI (f b) j := fun b kb j n6 n7 n8 => (congrArg (fun x => fldI x j) ((congrFun ef_277 b).trans (up_ne (kd_ne ka_3 kb (by decide))))).trans (hfA12 b kb j n6 n7 n8)
                have hT0 : frel kd 576 8 f_277 a_3 := by rw [ef_277]; exact frel.mk ka_3 up_self (by rw [eqg_275]; exact (hT0.get hfo_269).up (hbg_270.2.1 16 (by decide) (by decide) (by decide)).2 (by omega) (by omega) (by omega) (fun h9 => by exfalso; omega))
                have hfo_279 : f_277 a_3 = .inl (cI, 1560, .inl g_275) := by rw [ef_277]; exact up_self
                have ql_280 : x_274 = g_275 (Int32.toNatClampNeg p1) := by rw [eqg_275, pk_us]
                refine lv_aload_n hx hb dX12_word_107 rfl (lv_at hl 2 rfl) ?_
                refine tk_getP (D := (dC, dI)) (ci := 12) (v := .ref a_3) (C := RX12) (T := TX12) (N := 56) hx hb hU inlX12 hown hK hP mo0 hfo_278 rfl 1 (by decide) (hU _ wd_170) (fun _ h9 => h9) rfl dX12_word_108 ?_
                refine lv_iload_n hx hb dX12_word_111 rfl (lv_at hl 3 rfl) ?_
                refine lv_aload_n hx hb dX12_word_112 rfl (lv_at hl 2 rfl) ?_
                refine tk_getP (D := (dC, dI)) (ci := 12) (v := .ref a_3) (C := RX12) (T := TX12) (N := 56) hx hb hU inlX12 hown hK hP mo0 hfo_278 rfl 1 (by decide) (hU _ wd_170) (fun _ h9 => h9) rfl dX12_word_113 ?_
                refine lv_iload_n hx hb dX12_word_116 rfl (lv_at hl 3 rfl) ?_
                refine tk_ildP hx hb hK hP 0 ma_3 hfo_279 rfl (vp_in_iff.mpr (by constructor <;> omega)) dX12_word_117 ?_
                refine tk_topi (y := x_274) ql_280.symm ?_
                refine lv_iadd hx hb dX12_word_118 ?_
                refine lv_topi (fun x_281 ex_281 => ?_)
                have hx_281 : x_281.toInt = p1.toInt + x_274.toInt := by rw [ex_281, ad_I (by omega) (by omega)]
                have bx_281 : (61 ≤ x_281.toInt ∧ x_281.toInt ≤ 218) := by constructor <;> omega
                refine lv_iload hx hb dX12_word_119 (lv_at hl 0 rfl) ?_
                refine tk_istP hx hb hK hP hD hS 0 ma_3 hfo_279 rfl (vp_in_iff.mpr (by constructor <;> omega)) dX12_word_121 (fun H locs hP hD hS => ?_)
                have hc9 := cl_I (i := x_281) (by omega)
                obtain ⟨g_282, eqg_282⟩ : ∃ y : Nat → Int32, y = upd g_275 (Int32.toNatClampNeg x_281) x_265 := ⟨_, rfl⟩
                rw [← eqg_282] at hP hD
                have hbg_282 : wOK g_282 := by rw [eqg_282]; exact ⟨hbg_275.1.up (fun h1 h2 h3 => by exfalso; omega), hbg_275.2.1.up (fun h1 h2 h3 => by exfalso; omega), hbg_275.2.2.1.up (fun h1 h2 h3 => by exfalso; omega), hbg_275.2.2.2.1.up (fun h1 h2 h3 => by exfalso; omega), hbg_275.2.2.2.2.1.up (fun h1 h2 h3 => by exfalso; omega), hbg_275.2.2.2.2.2.1.up (fun h1 h2 h3 => by exfalso; omega), hbg_275.2.2.2.2.2.2.1.up (fun h1 h2 h3 => by exfalso; omega), hbg_275.2.2.2.2.2.2.2.1.up (fun h1 h2 h3 => by exfalso; omega), hbg_275.2.2.2.2.2.2.2.2.1.up (fun h1 h2 h3 => by exfalso; omega), hbg_275.2.2.2.2.2.2.2.2.2.1.up (fun h1 h2 h3 => by exfalso; omega), hbg_275.2.2.2.2.2.2.2.2.2.2.1.up (fun h1 h2 h3 => by constructor <;> omega), hbg_275.2.2.2.2.2.2.2.2.2.2.2.1.up (fun h1 h2 h3 => by first | (exfalso; omega) | (constructor <;> omega)), hbg_275.2.2.2.2.2.2.2.2.2.2.2.2.1.up (fun h1 h2 h3 => by exfalso; omega), hbg_275.2.2.2.2.2.2.2.2.2.2.2.2.2.1.up (fun h1 h2 h3 => by exfalso; omega), hbg_275.2.2.2.2.2.2.2.2.2.2.2.2.2.2.1.up (fun h1 h2 h3 => by exfalso; omega), hbg_275.2.2.2.2.2.2.2.2.2.2.2.2.2.2.2.up (fun h1 h2 h3 => by exfalso; omega)⟩
                obtain ⟨f_284, ef_284⟩ : ∃ y : Nat → va_E, y = va_up f_277 a_3 (.inl (cI, 1560, .inl g_282)) := ⟨_, rfl⟩
                have hP : va_P (dC, dI) vwCl (va_pl L f_284) H := by rw [ef_284]; exact hP
                have hD : va_D (fun q => q ∈ L) (va_pl L f_284) := by rw [ef_284]; exact hD
                have hG : GI (okc cI cL cZ cR cG cH L kd) kd L f_284 := by rw [ef_284]; exact hG.set a_3 (mk_576 ka_3 ⟨_, rfl, hbg_282⟩)
                have hfo_285 : f_284 o0 = .inr (12, [.ref a_2, .ref a_3, .ref a_4, .int v_5, .ref a_6, .int v_7, .int v_211, .int v_212, .int v_213, .int v_214, .int v_215, .int v_13, .int v_14, .int v_15, .int v_16, .ref a_17, .ref a_18, .ref a_19, .ref a_20, .ref a_21, .ref a_22, .ref a_23, .ref a_24, .int v_25, .int v_229, .int v_27, .int v_231, .int v_29, .ref a_30, .int v_31, .ref a_32, .ref a_33, .int v_34, .int v_35, .ref a_36, .int v_37, .ref a_38, .ref a_39, .int v_40, .int v_244, .ref a_42, .ref a_43, .ref a_44, .int v_45, .ref a_46, .ref a_47, .ref a_48, .ref a_49, .ref a_50, .ref a_51, .ref a_52, .ref a_53, .ref a_54, .int v_55, .int v_259, .ref a_57]) := by rw [ef_284, up_ne (kd_ne ka_3 ko0 (by decide))]; exact hfo_278
                have hfr0 : ∀ b, kd b ≠ 12 → kd b ≠ 576 → f_284 b = f b := fun b q12 q576 => (congrFun ef_284 b).trans ((up_ne (fun e9 => q576 (by rw [e9]; exact ka_3))).trans (hfr0 b q12 q576))
                have hrA12 : ∀ b, kd b = 12 → ∀ j, fldR (f_284 b) j = fldR (f b) j := fun b kb j => (congrArg (fun x => fldR x j) ((congrFun ef_284 b).trans (up_ne (kd_ne ka_3 kb (by decide))))).trans (hrA12 b kb j)
                have hfA12 : ∀ b, kd b = 12 → ∀ j, j ≠ 6 → j ≠ 7 → j ≠ 8 → fldI (f_284 b) j = fldI (f b) j := fun b kb j n6 n7 n8 => (congrArg (fun x => fldI x j) ((congrFun ef_284 b).trans (up_ne (kd_ne ka_3 kb (by decide))))).trans (hfA12 b kb j n6 n7 n8)
                have hT0 : frel kd 576 8 f_284 a_3 := by rw [ef_284]; exact frel.mk ka_3 up_self (by rw [eqg_282]; exact (hT0.get hfo_279).up (hbg_275.2.1 16 (by decide) (by decide) (by decide)).2 (by omega) (by omega) (by omega) (fun h9 => by exfalso; omega))
                have hfo_286 : f_284 a_3 = .inl (cI, 1560, .inl g_282) := by rw [ef_284]; exact up_self
                have ql_287 : x_265 = g_282 (Int32.toNatClampNeg x_281) := by rw [eqg_282, pk_us]
                have hclc_288 : (0 ≤ v_211.toInt ∧ v_211.toInt ≤ 599) := by constructor <;> omega
                refine lv_aload_n hx hb dX12_word_122 rfl (lv_at hl 2 rfl) ?_
                refine lv_dup hx hb dX12_word_123 rfl ?_
                refine tk_getP (D := (dC, dI)) (ci := 12) (v := .int v_211) (C := RX12) (T := TX12) (N := 56) hx hb hU inlX12 hown hK hP mo0 hfo_285 rfl 6 (by decide) (hU _ wd_566) (fun _ h9 => h9) rfl dX12_word_124 ?_
                refine lv_iconst (v := 1) hx hb dX12_word_127 (by decide) ?_
                refine lv_iadd hx hb dX12_word_128 ?_
                refine lv_topi (fun x_289 ex_289 => ?_)
                have hx_289 : x_289.toInt = v_211.toInt + 1 := by rw [ex_289, ad_I (by rw [ti_1]; omega) (by rw [ti_1]; omega), ti_1]
                have bx_289 : (1 ≤ x_289.toInt ∧ x_289.toInt ≤ 600) := by constructor <;> omega
                refine tk_putP (D := (dC, dI)) (ci := 12) (v := .int x_289) (ty := .int) (C := RX12) (T := TX12) (N := 56) hx hb hU inlX12 tyX12 tyX12_ok nmX12 hown hK hP hD hS mo0 hfo_285 rfl 6 (by decide) (hU _ wd_566) (fun _ h9 => h9) rfl (by decide +kernel) rfl rfl (Nat.le_of_ble_eq_true rfl) dX12_word_129 (fun H locs hP hD hS => ?_)
                obtain ⟨f_291, ef_291⟩ : ∃ y : Nat → va_E, y = va_up f_284 o0 (.inr (12, [.ref a_2, .ref a_3, .ref a_4, .int v_5, .ref a_6, .int v_7, .int x_289, .int v_212, .int v_213, .int v_214, .int v_215, .int v_13, .int v_14, .int v_15, .int v_16, .ref a_17, .ref a_18, .ref a_19, .ref a_20, .ref a_21, .ref a_22, .ref a_23, .ref a_24, .int v_25, .int v_229, .int v_27, .int v_231, .int v_29, .ref a_30, .int v_31, .ref a_32, .ref a_33, .int v_34, .int v_35, .ref a_36, .int v_37, .ref a_38, .ref a_39, .int v_40, .int v_244, .ref a_42, .ref a_43, .ref a_44, .int v_45, .ref a_46, .ref a_47, .ref a_48, .ref a_49, .ref a_50, .ref a_51, .ref a_52, .ref a_53, .ref a_54, .int v_55, .int v_259, .ref a_57])) := ⟨_, rfl⟩
                have hP : va_P (dC, dI) vwCl (va_pl L f_291) H := by rw [ef_291]; exact hP
                have hD : va_D (fun q => q ∈ L) (va_pl L f_291) := by rw [ef_291]; exact hD
                have hG : GI (okc cI cL cZ cR cG cH L kd) kd L f_291 := by rw [ef_291]; exact hG.set o0 (mk_12 ko0 ⟨a_2, a_3, a_4, v_5, a_6, v_7, x_289, v_212, v_213, v_214, v_215, v_13, v_14, v_15, v_16, a_17, a_18, a_19, a_20, a_21, a_22, a_23, a_24, v_25, v_229, v_27, v_231, v_29, a_30, v_31, a_32, a_33, v_34, v_35, a_36, v_37, a_38, a_39, v_40, v_244, a_42, a_43, a_44, v_45, a_46, a_47, a_48, a_49, a_50, a_51, a_52, a_53, a_54, v_55, v_259, a_57, rfl, ⟨ma_2, ka_2⟩, ⟨ma_3, ka_3⟩, ⟨ma_4, ka_4⟩, (by constructor <;> omega), ⟨ma_6, ka_6⟩, (by constructor <;> omega), (by constructor <;> omega), (by constructor <;> omega), (by constructor <;> omega), (by constructor <;> omega), ⟨ma_17, ka_17⟩, ⟨ma_18, ka_18⟩, ⟨ma_19, ka_19⟩, ⟨ma_20, ka_20⟩, ⟨ma_21, ka_21⟩, ⟨ma_22, ka_22⟩, ⟨ma_23, ka_23⟩, ⟨ma_24, ka_24⟩, (by constructor <;> omega), (by constructor <;> omega), (by constructor <;> omega), ⟨ma_30, ka_30⟩, (by constructor <;> omega), ⟨ma_32, ka_32⟩, ⟨ma_33, ka_33⟩, (by constructor <;> omega), ⟨ma_36, ka_36⟩, (by constructor <;> omega), ⟨ma_38, ka_38⟩, ⟨ma_39, ka_39⟩, (by constructor <;> omega), ⟨ma_42, ka_42⟩, ⟨ma_43, ka_43⟩, ⟨ma_44, ka_44⟩, (by constructor <;> omega), ⟨ma_46, ka_46⟩, ⟨ma_47, ka_47⟩, ⟨ma_48, ka_48⟩, ⟨ma_49, ka_49⟩, ⟨ma_50, ka_50⟩, ⟨ma_51, ka_51⟩, ⟨ma_52, ka_52⟩, ⟨ma_53, ka_53⟩, ⟨ma_54, ka_54⟩, (by constructor <;> omega), ⟨ma_57, ka_57⟩⟩)
                have hfo_292 : f_291 a_3 = .inl (cI, 1560, .inl g_282) := by rw [ef_291, up_ne (kd_ne ko0 ka_3 (by decide))]; exact hfo_286
                have hfr0 : ∀ b, kd b ≠ 12 → kd b ≠ 576 → f_291 b = f b := fun b q12 q576 => (congrFun ef_291 b).trans ((up_ne (fun e9 => q12 (by rw [e9]; exact ko0))).trans (hfr0 b q12 q576))
                have hrA12 : ∀ b, kd b = 12 → ∀ j, fldR (f_291 b) j = fldR (f b) j := fun b kb j => ((congrArg (fun x => fldR x j) (congrFun ef_291 b)).trans (fra_up (fun j => by rw [hfo_285]; exact fr_set (k := 6) rfl rfl j) j b)).trans (hrA12 b kb j)
                have hfA12 : ∀ b, kd b = 12 → ∀ j, j ≠ 6 → j ≠ 7 → j ≠ 8 → fldI (f_291 b) j = fldI (f b) j := fun b kb j n6 n7 n8 => ((congrArg (fun x => fldI x j) (congrFun ef_291 b)).trans (fia_up (fun h9 => by rw [hfo_285]; exact fi_set (k := 6) rfl h9) n6 b)).trans (hfA12 b kb j n6 n7 n8)
                have hT0 : frel kd 576 8 f_291 a_3 := by rw [ef_291]; exact hT0.keep (fun b q => up_ne (kd_ne ko0 q (by decide)))
                have hfo_293 : f_291 o0 = .inr (12, [.ref a_2, .ref a_3, .ref a_4, .int v_5, .ref a_6, .int v_7, .int x_289, .int v_212, .int v_213, .int v_214, .int v_215, .int v_13, .int v_14, .int v_15, .int v_16, .ref a_17, .ref a_18, .ref a_19, .ref a_20, .ref a_21, .ref a_22, .ref a_23, .ref a_24, .int v_25, .int v_229, .int v_27, .int v_231, .int v_29, .ref a_30, .int v_31, .ref a_32, .ref a_33, .int v_34, .int v_35, .ref a_36, .int v_37, .ref a_38, .ref a_39, .int v_40, .int v_244, .ref a_42, .ref a_43, .ref a_44, .int v_45, .ref a_46, .ref a_47, .ref a_48, .ref a_49, .ref a_50, .ref a_51, .ref a_52, .ref a_53, .ref a_54, .int v_55, .int v_259, .ref a_57]) := by rw [ef_291]; exact up_self
                refine lv_goto (tgt := 7) hx hb dX12_word_132 (by decide) ?_
                exact ih_hloop_71 f_291 hG _ _ hP hS hD hfr0 hrA12 hfA12 hT0 x_289 (by rw [hfo_293]; rfl) (by omega) (by omega) (by omega) ls (lv_sub hl [2, 3, 4] rfl)
              · skip
                rw [← Int32.toInt_inj, ti_6] at c_273
                refine lv_aload_n hx hb dX12_word_87 rfl (lv_at hl 2 rfl) ?_
                refine lv_iconst (v := 3) hx hb dX12_word_88 (by decide) ?_
                refine lv_aload_n hx hb dX12_word_89 rfl (lv_at hl 2 rfl) ?_
                refine tk_getP (D := (dC, dI)) (ci := 12) (v := .int v_211) (C := RX12) (T := TX12) (N := 56) hx hb hU inlX12 hown hK hP mo0 hfo_204 rfl 6 (by decide) (hU _ wd_566) (fun _ h9 => h9) rfl dX12_word_90 ?_
                refine tk_ViP (As := [.int 3, .int v_211]) (rest := []) (n := 2) hx hb hml hown hU hN hZ (s_X12_bad_k12 l (dC, dI) cI cL cZ cR cG cH Z kd L f_198 hG o0 mo0 ko0 3 v_211) wd_602 wd_603 wd_604 wd_5 wd_605 (by decide +kernel) ⟨Nat.le_of_ble_eq_true rfl, Nat.le_of_ble_eq_true rfl⟩ hK hP hD hS mo0 hfo_204 12 rfl rfl rfl hl.1 rfl (Nat.le_of_ble_eq_true rfl) dX12_word_93 ⟨Nat.le_of_ble_eq_true rfl, Nat.le_of_ble_eq_true rfl⟩ (fun x_294 f_295 H locs hw hP hD hS => ?_)
                obtain ⟨hG, bx_294, hkc_296, hra_297, hfa_298⟩ := hw
                have hfo_300 : f_295 a_3 = .inl (cI, 1560, .inl g_270) := by rw [hkc_296 a_3 (by rw [ka_3]; decide)]; exact hfo_269
                have hfr0 : ∀ b, kd b ≠ 12 → kd b ≠ 576 → f_295 b = f b := fun b q12 q576 => (hkc_296 b q12).trans (hfr0 b q12 q576)
                have hrA12 : ∀ b, kd b = 12 → ∀ j, fldR (f_295 b) j = fldR (f b) j := fun b kb j => (hra_297 b kb j).trans (hrA12 b kb j)
                have hfA12 : ∀ b, kd b = 12 → ∀ j, j ≠ 6 → j ≠ 7 → j ≠ 8 → fldI (f_295 b) j = fldI (f b) j := fun b kb j n6 n7 n8 => (hfa_298 b kb j n7 n8).trans (hfA12 b kb j n6 n7 n8)
                have hT0 : frel kd 576 8 f_295 a_3 := hT0.keep (fun b q => hkc_296 b (by rw [q]; decide))
                obtain ⟨a_302, a_303, a_304, v_305, a_306, v_307, v_308, v_309, v_310, v_311, v_312, v_313, v_314, v_315, v_316, a_317, a_318, a_319, a_320, a_321, a_322, a_323, a_324, v_325, v_326, v_327, v_328, v_329, a_330, v_331, a_332, a_333, v_334, v_335, a_336, v_337, a_338, a_339, v_340, v_341, a_342, a_343, a_344, v_345, a_346, a_347, a_348, a_349, a_350, a_351, a_352, a_353, a_354, v_355, v_356, a_357, hfo_301, ⟨ma_302, ka_302⟩, ⟨ma_303, ka_303⟩, ⟨ma_304, ka_304⟩, bv_305, ⟨ma_306, ka_306⟩, bv_307, bv_308, bv_313, bv_314, bv_315, ⟨ma_317, ka_317⟩, ⟨ma_318, ka_318⟩, ⟨ma_319, ka_319⟩, ⟨ma_320, ka_320⟩, ⟨ma_321, ka_321⟩, ⟨ma_322, ka_322⟩, ⟨ma_323, ka_323⟩, ⟨ma_324, ka_324⟩, bv_325, bv_327, bv_329, ⟨ma_330, ka_330⟩, bv_331, ⟨ma_332, ka_332⟩, ⟨ma_333, ka_333⟩, bv_334, ⟨ma_336, ka_336⟩, bv_337, ⟨ma_338, ka_338⟩, ⟨ma_339, ka_339⟩, bv_340, ⟨ma_342, ka_342⟩, ⟨ma_343, ka_343⟩, ⟨ma_344, ka_344⟩, bv_345, ⟨ma_346, ka_346⟩, ⟨ma_347, ka_347⟩, ⟨ma_348, ka_348⟩, ⟨ma_349, ka_349⟩, ⟨ma_350, ka_350⟩, ⟨ma_351, ka_351⟩, ⟨ma_352, ka_352⟩, ⟨ma_353, ka_353⟩, ⟨ma_354, ka_354⟩, bv_355, ⟨ma_357, ka_357⟩⟩ := un_12 (hG _ mo0) ko0
                have bv_309 : ((-2147483648) ≤ v_309.toInt ∧ v_309.toInt ≤ 2147483647) := ⟨i32_lo _, i32_hi _⟩
                have bv_310 : ((-2147483648) ≤ v_310.toInt ∧ v_310.toInt ≤ 2147483647) := ⟨i32_lo _, i32_hi _⟩
                have bv_311 : ((-2147483648) ≤ v_311.toInt ∧ v_311.toInt ≤ 2147483647) := ⟨i32_lo _, i32_hi _⟩
                have bv_312 : ((-2147483648) ≤ v_312.toInt ∧ v_312.toInt ≤ 2147483647) := ⟨i32_lo _, i32_hi _⟩
                have bv_316 : ((-2147483648) ≤ v_316.toInt ∧ v_316.toInt ≤ 2147483647) := ⟨i32_lo _, i32_hi _⟩
                have bv_326 : ((-2147483648) ≤ v_326.toInt ∧ v_326.toInt ≤ 2147483647) := ⟨i32_lo _, i32_hi _⟩
                have bv_328 : ((-2147483648) ≤ v_328.toInt ∧ v_328.toInt ≤ 2147483647) := ⟨i32_lo _, i32_hi _⟩
                have bv_335 : ((-2147483648) ≤ v_335.toInt ∧ v_335.toInt ≤ 2147483647) := ⟨i32_lo _, i32_hi _⟩
                have bv_341 : ((-2147483648) ≤ v_341.toInt ∧ v_341.toInt ≤ 2147483647) := ⟨i32_lo _, i32_hi _⟩
                have bv_356 : ((-2147483648) ≤ v_356.toInt ∧ v_356.toInt ≤ 2147483647) := ⟨i32_lo _, i32_hi _⟩
                obtain ⟨rfl, rfl, rfl, rfl, rfl, rfl, rfl, rfl, rfl, rfl, rfl, rfl, rfl, rfl, rfl, rfl, rfl, rfl, rfl, rfl, rfl, rfl, rfl, rfl, rfl, rfl, rfl, rfl, rfl, rfl, rfl⟩ := re_12 hfo_1 hfo_301 (hrA12 o0 ko0)
                obtain rfl := ri_12_3 hfo_1 hfo_301 (hfA12 o0 ko0 3 (by decide) (by decide) (by decide))
                obtain rfl := ri_12_5 hfo_1 hfo_301 (hfA12 o0 ko0 5 (by decide) (by decide) (by decide))
                obtain rfl := ri_12_11 hfo_1 hfo_301 (hfA12 o0 ko0 11 (by decide) (by decide) (by decide))
                obtain rfl := ri_12_12 hfo_1 hfo_301 (hfA12 o0 ko0 12 (by decide) (by decide) (by decide))
                obtain rfl := ri_12_13 hfo_1 hfo_301 (hfA12 o0 ko0 13 (by decide) (by decide) (by decide))
                obtain rfl := ri_12_14 hfo_1 hfo_301 (hfA12 o0 ko0 14 (by decide) (by decide) (by decide))
                obtain rfl := ri_12_23 hfo_1 hfo_301 (hfA12 o0 ko0 23 (by decide) (by decide) (by decide))
                obtain rfl := ri_12_25 hfo_1 hfo_301 (hfA12 o0 ko0 25 (by decide) (by decide) (by decide))
                obtain rfl := ri_12_27 hfo_1 hfo_301 (hfA12 o0 ko0 27 (by decide) (by decide) (by decide))
                obtain rfl := ri_12_29 hfo_1 hfo_301 (hfA12 o0 ko0 29 (by decide) (by decide) (by decide))
                obtain rfl := ri_12_32 hfo_1 hfo_301 (hfA12 o0 ko0 32 (by decide) (by decide) (by decide))
                obtain rfl := ri_12_33 hfo_1 hfo_301 (hfA12 o0 ko0 33 (by decide) (by decide) (by decide))
                obtain rfl := ri_12_35 hfo_1 hfo_301 (hfA12 o0 ko0 35 (by decide) (by decide) (by decide))
                obtain rfl := ri_12_38 hfo_1 hfo_301 (hfA12 o0 ko0 38 (by decide) (by decide) (by decide))
                obtain rfl := ri_12_43 hfo_1 hfo_301 (hfA12 o0 ko0 43 (by decide) (by decide) (by decide))
                obtain rfl := ri_12_53 hfo_1 hfo_301 (hfA12 o0 ko0 53 (by decide) (by decide) (by decide))
                obtain rfl := ri_12_6 hfo_204 hfo_301 (hfa_298 o0 ko0 6 (by decide) (by decide))
                exact W.zret (v := x_294) (ty := .boolean) hx hb hr (zb_n (by constructor <;> omega)) (fun t ht hW => ⟨⟨x_294, f_295, rfl, ⟨hG, (by constructor <;> omega), hfr0, hrA12, hfA12, (by intro w6 z6 e6 d6; rw [hfo_1] at e6; rw [hfo_301] at d6; obtain rfl := Option.some.inj e6; obtain rfl := Option.some.inj d6; omega), (fun d9 h9 => by rw [hfo_301] at h9; obtain rfl := Option.some.inj h9; exact hT0)⟩, by rw [ht]; exact hP, va_K.moved hW.alike hK, pl_in hD⟩, hS.F ht⟩) hS.2.2 dX12_word_96
            · skip
              rw [← Int32.toInt_inj, ti_0] at c_271
              refine lv_aload_n hx hb dX12_word_66 rfl (lv_at hl 2 rfl) ?_
              refine lv_iconst (v := 2) hx hb dX12_word_67 (by decide) ?_
              refine lv_aload_n hx hb dX12_word_68 rfl (lv_at hl 2 rfl) ?_
              refine tk_getP (D := (dC, dI)) (ci := 12) (v := .int v_211) (C := RX12) (T := TX12) (N := 56) hx hb hU inlX12 hown hK hP mo0 hfo_204 rfl 6 (by decide) (hU _ wd_566) (fun _ h9 => h9) rfl dX12_word_69 ?_
              refine tk_ViP (As := [.int 2, .int v_211]) (rest := []) (n := 2) hx hb hml hown hU hN hZ (s_X12_bad_k12 l (dC, dI) cI cL cZ cR cG cH Z kd L f_198 hG o0 mo0 ko0 2 v_211) wd_602 wd_603 wd_604 wd_5 wd_605 (by decide +kernel) ⟨Nat.le_of_ble_eq_true rfl, Nat.le_of_ble_eq_true rfl⟩ hK hP hD hS mo0 hfo_204 12 rfl rfl rfl hl.1 rfl (Nat.le_of_ble_eq_true rfl) dX12_word_72 ⟨Nat.le_of_ble_eq_true rfl, Nat.le_of_ble_eq_true rfl⟩ (fun x_358 f_359 H locs hw hP hD hS => ?_)
              obtain ⟨hG, bx_358, hkc_360, hra_361, hfa_362⟩ := hw
              have hfo_364 : f_359 a_3 = .inl (cI, 1560, .inl g_270) := by rw [hkc_360 a_3 (by rw [ka_3]; decide)]; exact hfo_269
              have hfr0 : ∀ b, kd b ≠ 12 → kd b ≠ 576 → f_359 b = f b := fun b q12 q576 => (hkc_360 b q12).trans (hfr0 b q12 q576)
              have hrA12 : ∀ b, kd b = 12 → ∀ j, fldR (f_359 b) j = fldR (f b) j := fun b kb j => (hra_361 b kb j).trans (hrA12 b kb j)
              have hfA12 : ∀ b, kd b = 12 → ∀ j, j ≠ 6 → j ≠ 7 → j ≠ 8 → fldI (f_359 b) j = fldI (f b) j := fun b kb j n6 n7 n8 => (hfa_362 b kb j n7 n8).trans (hfA12 b kb j n6 n7 n8)
              have hT0 : frel kd 576 8 f_359 a_3 := hT0.keep (fun b q => hkc_360 b (by rw [q]; decide))
              obtain ⟨a_366, a_367, a_368, v_369, a_370, v_371, v_372, v_373, v_374, v_375, v_376, v_377, v_378, v_379, v_380, a_381, a_382, a_383, a_384, a_385, a_386, a_387, a_388, v_389, v_390, v_391, v_392, v_393, a_394, v_395, a_396, a_397, v_398, v_399, a_400, v_401, a_402, a_403, v_404, v_405, a_406, a_407, a_408, v_409, a_410, a_411, a_412, a_413, a_414, a_415, a_416, a_417, a_418, v_419, v_420, a_421, hfo_365, ⟨ma_366, ka_366⟩, ⟨ma_367, ka_367⟩, ⟨ma_368, ka_368⟩, bv_369, ⟨ma_370, ka_370⟩, bv_371, bv_372, bv_377, bv_378, bv_379, ⟨ma_381, ka_381⟩, ⟨ma_382, ka_382⟩, ⟨ma_383, ka_383⟩, ⟨ma_384, ka_384⟩, ⟨ma_385, ka_385⟩, ⟨ma_386, ka_386⟩, ⟨ma_387, ka_387⟩, ⟨ma_388, ka_388⟩, bv_389, bv_391, bv_393, ⟨ma_394, ka_394⟩, bv_395, ⟨ma_396, ka_396⟩, ⟨ma_397, ka_397⟩, bv_398, ⟨ma_400, ka_400⟩, bv_401, ⟨ma_402, ka_402⟩, ⟨ma_403, ka_403⟩, bv_404, ⟨ma_406, ka_406⟩, ⟨ma_407, ka_407⟩, ⟨ma_408, ka_408⟩, bv_409, ⟨ma_410, ka_410⟩, ⟨ma_411, ka_411⟩, ⟨ma_412, ka_412⟩, ⟨ma_413, ka_413⟩, ⟨ma_414, ka_414⟩, ⟨ma_415, ka_415⟩, ⟨ma_416, ka_416⟩, ⟨ma_417, ka_417⟩, ⟨ma_418, ka_418⟩, bv_419, ⟨ma_421, ka_421⟩⟩ := un_12 (hG _ mo0) ko0
              have bv_373 : ((-2147483648) ≤ v_373.toInt ∧ v_373.toInt ≤ 2147483647) := ⟨i32_lo _, i32_hi _⟩
              have bv_374 : ((-2147483648) ≤ v_374.toInt ∧ v_374.toInt ≤ 2147483647) := ⟨i32_lo _, i32_hi _⟩
              have bv_375 : ((-2147483648) ≤ v_375.toInt ∧ v_375.toInt ≤ 2147483647) := ⟨i32_lo _, i32_hi _⟩
              have bv_376 : ((-2147483648) ≤ v_376.toInt ∧ v_376.toInt ≤ 2147483647) := ⟨i32_lo _, i32_hi _⟩
              have bv_380 : ((-2147483648) ≤ v_380.toInt ∧ v_380.toInt ≤ 2147483647) := ⟨i32_lo _, i32_hi _⟩
              have bv_390 : ((-2147483648) ≤ v_390.toInt ∧ v_390.toInt ≤ 2147483647) := ⟨i32_lo _, i32_hi _⟩
              have bv_392 : ((-2147483648) ≤ v_392.toInt ∧ v_392.toInt ≤ 2147483647) := ⟨i32_lo _, i32_hi _⟩
              have bv_399 : ((-2147483648) ≤ v_399.toInt ∧ v_399.toInt ≤ 2147483647) := ⟨i32_lo _, i32_hi _⟩
              have bv_405 : ((-2147483648) ≤ v_405.toInt ∧ v_405.toInt ≤ 2147483647) := ⟨i32_lo _, i32_hi _⟩
              have bv_420 : ((-2147483648) ≤ v_420.toInt ∧ v_420.toInt ≤ 2147483647) := ⟨i32_lo _, i32_hi _⟩
              obtain ⟨rfl, rfl, rfl, rfl, rfl, rfl, rfl, rfl, rfl, rfl, rfl, rfl, rfl, rfl, rfl, rfl, rfl, rfl, rfl, rfl, rfl, rfl, rfl, rfl, rfl, rfl, rfl, rfl, rfl, rfl, rfl⟩ := re_12 hfo_1 hfo_365 (hrA12 o0 ko0)
              obtain rfl := ri_12_3 hfo_1 hfo_365 (hfA12 o0 ko0 3 (by decide) (by decide) (by decide))
              obtain rfl := ri_12_5 hfo_1 hfo_365 (hfA12 o0 ko0 5 (by decide) (by decide) (by decide))
              obtain rfl := ri_12_11 hfo_1 hfo_365 (hfA12 o0 ko0 11 (by decide) (by decide) (by decide))
              obtain rfl := ri_12_12 hfo_1 hfo_365 (hfA12 o0 ko0 12 (by decide) (by decide) (by decide))
              obtain rfl := ri_12_13 hfo_1 hfo_365 (hfA12 o0 ko0 13 (by decide) (by decide) (by decide))
              obtain rfl := ri_12_14 hfo_1 hfo_365 (hfA12 o0 ko0 14 (by decide) (by decide) (by decide))
              obtain rfl := ri_12_23 hfo_1 hfo_365 (hfA12 o0 ko0 23 (by decide) (by decide) (by decide))
              obtain rfl := ri_12_25 hfo_1 hfo_365 (hfA12 o0 ko0 25 (by decide) (by decide) (by decide))
              obtain rfl := ri_12_27 hfo_1 hfo_365 (hfA12 o0 ko0 27 (by decide) (by decide) (by decide))
              obtain rfl := ri_12_29 hfo_1 hfo_365 (hfA12 o0 ko0 29 (by decide) (by decide) (by decide))
              obtain rfl := ri_12_32 hfo_1 hfo_365 (hfA12 o0 ko0 32 (by decide) (by decide) (by decide))
              obtain rfl := ri_12_33 hfo_1 hfo_365 (hfA12 o0 ko0 33 (by decide) (by decide) (by decide))
              obtain rfl := ri_12_35 hfo_1 hfo_365 (hfA12 o0 ko0 35 (by decide) (by decide) (by decide))
              obtain rfl := ri_12_38 hfo_1 hfo_365 (hfA12 o0 ko0 38 (by decide) (by decide) (by decide))
              obtain rfl := ri_12_43 hfo_1 hfo_365 (hfA12 o0 ko0 43 (by decide) (by decide) (by decide))
              obtain rfl := ri_12_53 hfo_1 hfo_365 (hfA12 o0 ko0 53 (by decide) (by decide) (by decide))
              obtain rfl := ri_12_6 hfo_204 hfo_365 (hfa_362 o0 ko0 6 (by decide) (by decide))
              exact W.zret (v := x_358) (ty := .boolean) hx hb hr (zb_n (by constructor <;> omega)) (fun t ht hW => ⟨⟨x_358, f_359, rfl, ⟨hG, (by constructor <;> omega), hfr0, hrA12, hfA12, (by intro w6 z6 e6 d6; rw [hfo_1] at e6; rw [hfo_365] at d6; obtain rfl := Option.some.inj e6; obtain rfl := Option.some.inj d6; omega), (fun d9 h9 => by rw [hfo_365] at h9; obtain rfl := Option.some.inj h9; exact hT0)⟩, by rw [ht]; exact hP, va_K.moved hW.alike hK, pl_in hD⟩, hS.F ht⟩) hS.2.2 dX12_word_75
          · skip
            rw [← Int32.toInt_inj, ti_0] at c_264
            refine lv_aload_n hx hb dX12_word_41 rfl (lv_at hl 1 rfl) ?_
            refine lv_iconst (v := 1) hx hb dX12_word_42 (by decide) ?_
            refine lv_aload_n hx hb dX12_word_43 rfl (lv_at hl 1 rfl) ?_
            refine tk_getP (D := (dC, dI)) (ci := 12) (v := .int v_211) (C := RX12) (T := TX12) (N := 56) hx hb hU inlX12 hown hK hP mo0 hfo_204 rfl 6 (by decide) (hU _ wd_566) (fun _ h9 => h9) rfl dX12_word_44 ?_
            refine tk_ViP (As := [.int 1, .int v_211]) (rest := []) (n := 2) hx hb hml hown hU hN hZ (s_X12_bad_k12 l (dC, dI) cI cL cZ cR cG cH Z kd L f_198 hG o0 mo0 ko0 1 v_211) wd_602 wd_603 wd_604 wd_5 wd_605 (by decide +kernel) ⟨Nat.le_of_ble_eq_true rfl, Nat.le_of_ble_eq_true rfl⟩ hK hP hD hS mo0 hfo_204 12 rfl rfl rfl hl.1 rfl (Nat.le_of_ble_eq_true rfl) dX12_word_47 ⟨Nat.le_of_ble_eq_true rfl, Nat.le_of_ble_eq_true rfl⟩ (fun x_422 f_423 H locs hw hP hD hS => ?_)
            obtain ⟨hG, bx_422, hkc_424, hra_425, hfa_426⟩ := hw
            have hfr0 : ∀ b, kd b ≠ 12 → kd b ≠ 576 → f_423 b = f b := fun b q12 q576 => (hkc_424 b q12).trans (hfr0 b q12 q576)
            have hrA12 : ∀ b, kd b = 12 → ∀ j, fldR (f_423 b) j = fldR (f b) j := fun b kb j => (hra_425 b kb j).trans (hrA12 b kb j)
            have hfA12 : ∀ b, kd b = 12 → ∀ j, j ≠ 6 → j ≠ 7 → j ≠ 8 → fldI (f_423 b) j = fldI (f b) j := fun b kb j n6 n7 n8 => (hfa_426 b kb j n7 n8).trans (hfA12 b kb j n6 n7 n8)
            have hT0 : frel kd 576 8 f_423 a_3 := hT0.keep (fun b q => hkc_424 b (by rw [q]; decide))
            obtain ⟨a_429, a_430, a_431, v_432, a_433, v_434, v_435, v_436, v_437, v_438, v_439, v_440, v_441, v_442, v_443, a_444, a_445, a_446, a_447, a_448, a_449, a_450, a_451, v_452, v_453, v_454, v_455, v_456, a_457, v_458, a_459, a_460, v_461, v_462, a_463, v_464, a_465, a_466, v_467, v_468, a_469, a_470, a_471, v_472, a_473, a_474, a_475, a_476, a_477, a_478, a_479, a_480, a_481, v_482, v_483, a_484, hfo_428, ⟨ma_429, ka_429⟩, ⟨ma_430, ka_430⟩, ⟨ma_431, ka_431⟩, bv_432, ⟨ma_433, ka_433⟩, bv_434, bv_435, bv_440, bv_441, bv_442, ⟨ma_444, ka_444⟩, ⟨ma_445, ka_445⟩, ⟨ma_446, ka_446⟩, ⟨ma_447, ka_447⟩, ⟨ma_448, ka_448⟩, ⟨ma_449, ka_449⟩, ⟨ma_450, ka_450⟩, ⟨ma_451, ka_451⟩, bv_452, bv_454, bv_456, ⟨ma_457, ka_457⟩, bv_458, ⟨ma_459, ka_459⟩, ⟨ma_460, ka_460⟩, bv_461, ⟨ma_463, ka_463⟩, bv_464, ⟨ma_465, ka_465⟩, ⟨ma_466, ka_466⟩, bv_467, ⟨ma_469, ka_469⟩, ⟨ma_470, ka_470⟩, ⟨ma_471, ka_471⟩, bv_472, ⟨ma_473, ka_473⟩, ⟨ma_474, ka_474⟩, ⟨ma_475, ka_475⟩, ⟨ma_476, ka_476⟩, ⟨ma_477, ka_477⟩, ⟨ma_478, ka_478⟩, ⟨ma_479, ka_479⟩, ⟨ma_480, ka_480⟩, ⟨ma_481, ka_481⟩, bv_482, ⟨ma_484, ka_484⟩⟩ := un_12 (hG _ mo0) ko0
            have bv_436 : ((-2147483648) ≤ v_436.toInt ∧ v_436.toInt ≤ 2147483647) := ⟨i32_lo _, i32_hi _⟩
            have bv_437 : ((-2147483648) ≤ v_437.toInt ∧ v_437.toInt ≤ 2147483647) := ⟨i32_lo _, i32_hi _⟩
            have bv_438 : ((-2147483648) ≤ v_438.toInt ∧ v_438.toInt ≤ 2147483647) := ⟨i32_lo _, i32_hi _⟩
            have bv_439 : ((-2147483648) ≤ v_439.toInt ∧ v_439.toInt ≤ 2147483647) := ⟨i32_lo _, i32_hi _⟩
            have bv_443 : ((-2147483648) ≤ v_443.toInt ∧ v_443.toInt ≤ 2147483647) := ⟨i32_lo _, i32_hi _⟩
            have bv_453 : ((-2147483648) ≤ v_453.toInt ∧ v_453.toInt ≤ 2147483647) := ⟨i32_lo _, i32_hi _⟩
            have bv_455 : ((-2147483648) ≤ v_455.toInt ∧ v_455.toInt ≤ 2147483647) := ⟨i32_lo _, i32_hi _⟩
            have bv_462 : ((-2147483648) ≤ v_462.toInt ∧ v_462.toInt ≤ 2147483647) := ⟨i32_lo _, i32_hi _⟩
            have bv_468 : ((-2147483648) ≤ v_468.toInt ∧ v_468.toInt ≤ 2147483647) := ⟨i32_lo _, i32_hi _⟩
            have bv_483 : ((-2147483648) ≤ v_483.toInt ∧ v_483.toInt ≤ 2147483647) := ⟨i32_lo _, i32_hi _⟩
            obtain ⟨rfl, rfl, rfl, rfl, rfl, rfl, rfl, rfl, rfl, rfl, rfl, rfl, rfl, rfl, rfl, rfl, rfl, rfl, rfl, rfl, rfl, rfl, rfl, rfl, rfl, rfl, rfl, rfl, rfl, rfl, rfl⟩ := re_12 hfo_1 hfo_428 (hrA12 o0 ko0)
            obtain rfl := ri_12_3 hfo_1 hfo_428 (hfA12 o0 ko0 3 (by decide) (by decide) (by decide))
            obtain rfl := ri_12_5 hfo_1 hfo_428 (hfA12 o0 ko0 5 (by decide) (by decide) (by decide))
            obtain rfl := ri_12_11 hfo_1 hfo_428 (hfA12 o0 ko0 11 (by decide) (by decide) (by decide))
            obtain rfl := ri_12_12 hfo_1 hfo_428 (hfA12 o0 ko0 12 (by decide) (by decide) (by decide))
            obtain rfl := ri_12_13 hfo_1 hfo_428 (hfA12 o0 ko0 13 (by decide) (by decide) (by decide))
            obtain rfl := ri_12_14 hfo_1 hfo_428 (hfA12 o0 ko0 14 (by decide) (by decide) (by decide))
            obtain rfl := ri_12_23 hfo_1 hfo_428 (hfA12 o0 ko0 23 (by decide) (by decide) (by decide))
            obtain rfl := ri_12_25 hfo_1 hfo_428 (hfA12 o0 ko0 25 (by decide) (by decide) (by decide))
            obtain rfl := ri_12_27 hfo_1 hfo_428 (hfA12 o0 ko0 27 (by decide) (by decide) (by decide))
            obtain rfl := ri_12_29 hfo_1 hfo_428 (hfA12 o0 ko0 29 (by decide) (by decide) (by decide))
            obtain rfl := ri_12_32 hfo_1 hfo_428 (hfA12 o0 ko0 32 (by decide) (by decide) (by decide))
            obtain rfl := ri_12_33 hfo_1 hfo_428 (hfA12 o0 ko0 33 (by decide) (by decide) (by decide))
            obtain rfl := ri_12_35 hfo_1 hfo_428 (hfA12 o0 ko0 35 (by decide) (by decide) (by decide))
            obtain rfl := ri_12_38 hfo_1 hfo_428 (hfA12 o0 ko0 38 (by decide) (by decide) (by decide))
            obtain rfl := ri_12_43 hfo_1 hfo_428 (hfA12 o0 ko0 43 (by decide) (by decide) (by decide))
            obtain rfl := ri_12_53 hfo_1 hfo_428 (hfA12 o0 ko0 53 (by decide) (by decide) (by decide))
            obtain rfl := ri_12_6 hfo_204 hfo_428 (hfa_426 o0 ko0 6 (by decide) (by decide))
            exact W.zret (v := x_422) (ty := .boolean) hx hb hr (zb_n (by constructor <;> omega)) (fun t ht hW => ⟨⟨x_422, f_423, rfl, ⟨hG, (by constructor <;> omega), hfr0, hrA12, hfA12, (by intro w6 z6 e6 d6; rw [hfo_1] at e6; rw [hfo_428] at d6; obtain rfl := Option.some.inj e6; obtain rfl := Option.some.inj d6; omega), (fun d9 h9 => by rw [hfo_428] at h9; obtain rfl := Option.some.inj h9; exact hT0)⟩, by rw [ht]; exact hP, va_K.moved hW.alike hK, pl_in hD⟩, hS.F ht⟩) hS.2.2 dX12_word_50
      · skip
        rw [← Int32.toInt_inj, ti_0] at c_131
        refine lv_aload_n hx hb dX12_word_11 rfl (lv_at hl 0 rfl) ?_
        refine tk_getP (D := (dC, dI)) (ci := 12) (v := .ref a_3) (C := RX12) (T := TX12) (N := 56) hx hb hU inlX12 hown hK hP mo0 hfo_74 rfl 1 (by decide) (hU _ wd_170) (fun _ h9 => h9) rfl dX12_word_12 ?_
        refine lv_iload_n hx hb dX12_word_15 rfl (lv_at hl 1 rfl) ?_
        obtain ⟨g_486, hfo_485, hbg_486⟩ := un_576 (hG _ ma_3) ka_3
        refine tk_ildP hx hb hK hP 0 ma_3 hfo_485 rfl (vp_in_iff.mpr (by constructor <;> omega)) dX12_word_16 ?_
        refine lv_topi (fun x_487 ex_487 => ?_)
        have bx_487 : (0 ≤ x_487.toInt ∧ x_487.toInt ≤ 6) := by have hc9 := cl_I (i := p1) (by omega); rw [ex_487]; exact hbg_486.2.2.2.2.2.2.2.2.2.2.2.1 _ (by omega) (by omega) (by omega)
        refine lv_if_eq (tgt := 29) hx hb dX12_word_17 (by decide) (fun c_488 => ?_) (fun c_488 => ?_)
        · skip
          rw [← Int32.toInt_inj, ti_0] at c_488
          refine lv_aload_n hx hb dX12_word_29 rfl (lv_at hl 0 rfl) ?_
          refine tk_ViP (As := []) (rest := []) (n := 0) hx hb hml hown hU hN hZ (s_X12_sign_k12 l (dC, dI) cI cL cZ cR cG cH Z kd L f_73 hG o0 mo0 ko0) wd_573 wd_574 wd_575 wd_5 wd_576 (by decide +kernel) ⟨Nat.le_of_ble_eq_true rfl, Nat.le_of_ble_eq_true rfl⟩ hK hP hD hS mo0 hfo_74 12 rfl rfl rfl hl.1 rfl (Nat.le_of_ble_eq_true rfl) dX12_word_30 ⟨Nat.le_of_ble_eq_true rfl, Nat.le_of_ble_eq_true rfl⟩ (fun x_489 f_490 H locs hw hP hD hS => ?_)
          obtain ⟨hG, bx_489, hkc_491, hra_492, hfa_493, hpost_494⟩ := hw
          have hfo_496 : f_490 a_3 = .inl (cI, 1560, .inl g_486) := by rw [hkc_491 a_3 (by rw [ka_3]; decide)]; exact hfo_485
          have hfr0 : ∀ b, kd b ≠ 12 → kd b ≠ 576 → f_490 b = f b := fun b q12 q576 => (hkc_491 b q12).trans (hfr0 b q12 q576)
          have hrA12 : ∀ b, kd b = 12 → ∀ j, fldR (f_490 b) j = fldR (f b) j := fun b kb j => (hra_492 b kb j).trans (hrA12 b kb j)
          have hfA12 : ∀ b, kd b = 12 → ∀ j, j ≠ 6 → j ≠ 7 → j ≠ 8 → fldI (f_490 b) j = fldI (f b) j := fun b kb j n6 n7 n8 => (hfa_493 b kb j n6).trans (hfA12 b kb j n6 n7 n8)
          have hT0 : frel kd 576 8 f_490 a_3 := hT0.keep (fun b q => hkc_491 b (by rw [q]; decide))
          obtain ⟨a_498, a_499, a_500, v_501, a_502, v_503, v_504, v_505, v_506, v_507, v_508, v_509, v_510, v_511, v_512, a_513, a_514, a_515, a_516, a_517, a_518, a_519, a_520, v_521, v_522, v_523, v_524, v_525, a_526, v_527, a_528, a_529, v_530, v_531, a_532, v_533, a_534, a_535, v_536, v_537, a_538, a_539, a_540, v_541, a_542, a_543, a_544, a_545, a_546, a_547, a_548, a_549, a_550, v_551, v_552, a_553, hfo_497, ⟨ma_498, ka_498⟩, ⟨ma_499, ka_499⟩, ⟨ma_500, ka_500⟩, bv_501, ⟨ma_502, ka_502⟩, bv_503, bv_504, bv_509, bv_510, bv_511, ⟨ma_513, ka_513⟩, ⟨ma_514, ka_514⟩, ⟨ma_515, ka_515⟩, ⟨ma_516, ka_516⟩, ⟨ma_517, ka_517⟩, ⟨ma_518, ka_518⟩, ⟨ma_519, ka_519⟩, ⟨ma_520, ka_520⟩, bv_521, bv_523, bv_525, ⟨ma_526, ka_526⟩, bv_527, ⟨ma_528, ka_528⟩, ⟨ma_529, ka_529⟩, bv_530, ⟨ma_532, ka_532⟩, bv_533, ⟨ma_534, ka_534⟩, ⟨ma_535, ka_535⟩, bv_536, ⟨ma_538, ka_538⟩, ⟨ma_539, ka_539⟩, ⟨ma_540, ka_540⟩, bv_541, ⟨ma_542, ka_542⟩, ⟨ma_543, ka_543⟩, ⟨ma_544, ka_544⟩, ⟨ma_545, ka_545⟩, ⟨ma_546, ka_546⟩, ⟨ma_547, ka_547⟩, ⟨ma_548, ka_548⟩, ⟨ma_549, ka_549⟩, ⟨ma_550, ka_550⟩, bv_551, ⟨ma_553, ka_553⟩⟩ := un_12 (hG _ mo0) ko0
          have bv_505 : ((-2147483648) ≤ v_505.toInt ∧ v_505.toInt ≤ 2147483647) := ⟨i32_lo _, i32_hi _⟩
          have bv_506 : ((-2147483648) ≤ v_506.toInt ∧ v_506.toInt ≤ 2147483647) := ⟨i32_lo _, i32_hi _⟩
          have bv_507 : ((-2147483648) ≤ v_507.toInt ∧ v_507.toInt ≤ 2147483647) := ⟨i32_lo _, i32_hi _⟩
          have bv_508 : ((-2147483648) ≤ v_508.toInt ∧ v_508.toInt ≤ 2147483647) := ⟨i32_lo _, i32_hi _⟩
          have bv_512 : ((-2147483648) ≤ v_512.toInt ∧ v_512.toInt ≤ 2147483647) := ⟨i32_lo _, i32_hi _⟩
          have bv_522 : ((-2147483648) ≤ v_522.toInt ∧ v_522.toInt ≤ 2147483647) := ⟨i32_lo _, i32_hi _⟩
          have bv_524 : ((-2147483648) ≤ v_524.toInt ∧ v_524.toInt ≤ 2147483647) := ⟨i32_lo _, i32_hi _⟩
          have bv_531 : ((-2147483648) ≤ v_531.toInt ∧ v_531.toInt ≤ 2147483647) := ⟨i32_lo _, i32_hi _⟩
          have bv_537 : ((-2147483648) ≤ v_537.toInt ∧ v_537.toInt ≤ 2147483647) := ⟨i32_lo _, i32_hi _⟩
          have bv_552 : ((-2147483648) ≤ v_552.toInt ∧ v_552.toInt ≤ 2147483647) := ⟨i32_lo _, i32_hi _⟩
          obtain ⟨rfl, rfl, rfl, rfl, rfl, rfl, rfl, rfl, rfl, rfl, rfl, rfl, rfl, rfl, rfl, rfl, rfl, rfl, rfl, rfl, rfl, rfl, rfl, rfl, rfl, rfl, rfl, rfl, rfl, rfl, rfl⟩ := re_12 hfo_1 hfo_497 (hrA12 o0 ko0)
          obtain rfl := ri_12_3 hfo_1 hfo_497 (hfA12 o0 ko0 3 (by decide) (by decide) (by decide))
          obtain rfl := ri_12_5 hfo_1 hfo_497 (hfA12 o0 ko0 5 (by decide) (by decide) (by decide))
          obtain rfl := ri_12_11 hfo_1 hfo_497 (hfA12 o0 ko0 11 (by decide) (by decide) (by decide))
          obtain rfl := ri_12_12 hfo_1 hfo_497 (hfA12 o0 ko0 12 (by decide) (by decide) (by decide))
          obtain rfl := ri_12_13 hfo_1 hfo_497 (hfA12 o0 ko0 13 (by decide) (by decide) (by decide))
          obtain rfl := ri_12_14 hfo_1 hfo_497 (hfA12 o0 ko0 14 (by decide) (by decide) (by decide))
          obtain rfl := ri_12_23 hfo_1 hfo_497 (hfA12 o0 ko0 23 (by decide) (by decide) (by decide))
          obtain rfl := ri_12_25 hfo_1 hfo_497 (hfA12 o0 ko0 25 (by decide) (by decide) (by decide))
          obtain rfl := ri_12_27 hfo_1 hfo_497 (hfA12 o0 ko0 27 (by decide) (by decide) (by decide))
          obtain rfl := ri_12_29 hfo_1 hfo_497 (hfA12 o0 ko0 29 (by decide) (by decide) (by decide))
          obtain rfl := ri_12_32 hfo_1 hfo_497 (hfA12 o0 ko0 32 (by decide) (by decide) (by decide))
          obtain rfl := ri_12_33 hfo_1 hfo_497 (hfA12 o0 ko0 33 (by decide) (by decide) (by decide))
          obtain rfl := ri_12_35 hfo_1 hfo_497 (hfA12 o0 ko0 35 (by decide) (by decide) (by decide))
          obtain rfl := ri_12_38 hfo_1 hfo_497 (hfA12 o0 ko0 38 (by decide) (by decide) (by decide))
          obtain rfl := ri_12_43 hfo_1 hfo_497 (hfA12 o0 ko0 43 (by decide) (by decide) (by decide))
          obtain rfl := ri_12_53 hfo_1 hfo_497 (hfA12 o0 ko0 53 (by decide) (by decide) (by decide))
          have hqhpost_494 := hpost_494 v_81 v_504 (by rw [hfo_74]; rfl) (by rw [hfo_497]; rfl)
          refine lv_istore_n (lv' := [(3, .int x_489), (0, .ref o0), (1, .int p1), (2, .int p2)]) hx hb dX12_word_33 rfl hl (by decide) rfl (fun ls hl => ?_)
          refine lv_iload_n hx hb dX12_word_34 rfl (lv_at hl 0 rfl) ?_
          refine tk_SiP (As := [.int x_489]) (rest := []) (n := 1) hx hb hml hown hU hN hZ (s_X12_isSmall l (dC, dI) cI cL cZ cR cG cH Z kd L f_490 hG x_489) wd_589 wd_590 wd_5 wd_591 (by decide +kernel) ⟨Nat.le_of_ble_eq_true rfl, Nat.le_of_ble_eq_true rfl⟩ hK hP hD hS rfl hl.1 rfl (Nat.le_of_ble_eq_true rfl) dX12_word_35 ⟨Nat.le_of_ble_eq_true rfl, Nat.le_of_ble_eq_true rfl⟩ (fun x_554 f_555 H locs hw hP hD hS => ?_)
          obtain ⟨rfl, bx_554, relx_554⟩ := hw
          refine lv_if_ne (tgt := 51) hx hb dX12_word_38 (by decide) (fun c_557 => ?_) (fun c_557 => ?_)
          · skip
            rw [← Int32.toInt_inj, ti_0] at c_557
            refine lv_aload_n hx hb dX12_word_51 rfl (lv_at hl 1 rfl) ?_
            refine tk_getP (D := (dC, dI)) (ci := 12) (v := .ref a_3) (C := RX12) (T := TX12) (N := 56) hx hb hU inlX12 hown hK hP mo0 hfo_497 rfl 1 (by decide) (hU _ wd_170) (fun _ h9 => h9) rfl dX12_word_52 ?_
            refine lv_iload_n hx hb dX12_word_55 rfl (lv_at hl 0 rfl) ?_
            refine tk_SiP (As := [.ref a_3, .int x_489]) (rest := []) (n := 2) hx hb hml hown hU hN hZ (s_X12_letterIn_a576 l (dC, dI) cI cL cZ cR cG cH Z kd L f_490 hG a_3 ma_3 ka_3 x_489) wd_606 wd_607 wd_5 wd_608 (by decide +kernel) ⟨Nat.le_of_ble_eq_true rfl, Nat.le_of_ble_eq_true rfl⟩ hK hP hD hS rfl hl.1 rfl (Nat.le_of_ble_eq_true rfl) dX12_word_56 ⟨Nat.le_of_ble_eq_true rfl, Nat.le_of_ble_eq_true rfl⟩ (fun x_558 f_559 H locs hw hP hD hS => ?_)
            obtain ⟨rfl, bx_558, hxp_560⟩ := hw
            have hlix_558 := hxp_560 g_486 hfo_496
            refine lv_istore (lv' := [(4, .int x_558), (3, .int x_489), (0, .ref o0), (1, .int p1), (2, .int p2)]) hx hb dX12_word_59 hl (by decide) rfl (fun ls hl => ?_)
            refine lv_iload hx hb dX12_word_61 (lv_at hl 0 rfl) ?_
            refine lv_if_ne (tgt := 76) hx hb dX12_word_63 (by decide) (fun c_562 => ?_) (fun c_562 => ?_)
            · skip
              rw [← Int32.toInt_inj, ti_0] at c_562
              refine lv_aload_n hx hb dX12_word_76 rfl (lv_at hl 2 rfl) ?_
              refine tk_getP (D := (dC, dI)) (ci := 12) (v := .ref a_3) (C := RX12) (T := TX12) (N := 56) hx hb hU inlX12 hown hK hP mo0 hfo_497 rfl 1 (by decide) (hU _ wd_170) (fun _ h9 => h9) rfl dX12_word_77 ?_
              refine lv_iload_n hx hb dX12_word_80 rfl (lv_at hl 3 rfl) ?_
              refine tk_ildP hx hb hK hP 0 ma_3 hfo_496 rfl (vp_in_iff.mpr (by constructor <;> omega)) dX12_word_81 ?_
              refine tk_topi (y := x_487) ex_487.symm ?_
              refine lv_bipush (v := 6) hx hb dX12_word_82 (by decide) ?_
              refine lv_icmp_ne (tgt := 97) hx hb dX12_word_84 (by decide) (fun c_563 => ?_) (fun c_563 => ?_)
              · skip
                rw [← Int32.toInt_inj, ti_6] at c_563
                refine lv_aload_n hx hb dX12_word_97 rfl (lv_at hl 2 rfl) ?_
                refine tk_getP (D := (dC, dI)) (ci := 12) (v := .ref a_3) (C := RX12) (T := TX12) (N := 56) hx hb hU inlX12 hown hK hP mo0 hfo_497 rfl 1 (by decide) (hU _ wd_170) (fun _ h9 => h9) rfl dX12_word_98 ?_
                refine lv_iload_n hx hb dX12_word_101 rfl (lv_at hl 3 rfl) ?_
                refine lv_dup2_11 hx hb dX12_word_102 rfl rfl ?_
                refine tk_ildP hx hb hK hP 0 ma_3 hfo_496 rfl (vp_in_iff.mpr (by constructor <;> omega)) dX12_word_103 ?_
                refine tk_topi (y := x_487) ex_487.symm ?_
                refine lv_iconst (v := 1) hx hb dX12_word_104 (by decide) ?_
                refine lv_iadd hx hb dX12_word_105 ?_
                refine lv_topi (fun x_564 ex_564 => ?_)
                have hx_564 : x_564.toInt = x_487.toInt + 1 := by rw [ex_564, ad_I (by rw [ti_1]; omega) (by rw [ti_1]; omega), ti_1]
                have bx_564 : (1 ≤ x_564.toInt ∧ x_564.toInt ≤ 1) := by constructor <;> omega
                refine tk_istP hx hb hK hP hD hS 0 ma_3 hfo_496 rfl (vp_in_iff.mpr (by constructor <;> omega)) dX12_word_106 (fun H locs hP hD hS => ?_)
                have hc9 := cl_I (i := p1) (by omega)
                obtain ⟨g_565, eqg_565⟩ : ∃ y : Nat → Int32, y = upd g_486 (Int32.toNatClampNeg p1) x_564 := ⟨_, rfl⟩
                rw [← eqg_565] at hP hD
                have hbg_565 : wOK g_565 := by rw [eqg_565]; exact ⟨hbg_486.1.up (fun h1 h2 h3 => by exfalso; omega), hbg_486.2.1.up (fun h1 h2 h3 => by exfalso; omega), hbg_486.2.2.1.up (fun h1 h2 h3 => by exfalso; omega), hbg_486.2.2.2.1.up (fun h1 h2 h3 => by exfalso; omega), hbg_486.2.2.2.2.1.up (fun h1 h2 h3 => by exfalso; omega), hbg_486.2.2.2.2.2.1.up (fun h1 h2 h3 => by exfalso; omega), hbg_486.2.2.2.2.2.2.1.up (fun h1 h2 h3 => by exfalso; omega), hbg_486.2.2.2.2.2.2.2.1.up (fun h1 h2 h3 => by exfalso; omega), hbg_486.2.2.2.2.2.2.2.2.1.up (fun h1 h2 h3 => by exfalso; omega), hbg_486.2.2.2.2.2.2.2.2.2.1.up (fun h1 h2 h3 => by exfalso; omega), hbg_486.2.2.2.2.2.2.2.2.2.2.1.up (fun h1 h2 h3 => by constructor <;> omega), hbg_486.2.2.2.2.2.2.2.2.2.2.2.1.up (fun h1 h2 h3 => by constructor <;> omega), hbg_486.2.2.2.2.2.2.2.2.2.2.2.2.1.up (fun h1 h2 h3 => by exfalso; omega), hbg_486.2.2.2.2.2.2.2.2.2.2.2.2.2.1.up (fun h1 h2 h3 => by exfalso; omega), hbg_486.2.2.2.2.2.2.2.2.2.2.2.2.2.2.1.up (fun h1 h2 h3 => by exfalso; omega), hbg_486.2.2.2.2.2.2.2.2.2.2.2.2.2.2.2.up (fun h1 h2 h3 => by exfalso; omega)⟩
                obtain ⟨f_567, ef_567⟩ : ∃ y : Nat → va_E, y = va_up f_490 a_3 (.inl (cI, 1560, .inl g_565)) := ⟨_, rfl⟩
                have hP : va_P (dC, dI) vwCl (va_pl L f_567) H := by rw [ef_567]; exact hP
                have hD : va_D (fun q => q ∈ L) (va_pl L f_567) := by rw [ef_567]; exact hD
                have hG : GI (okc cI cL cZ cR cG cH L kd) kd L f_567 := by rw [ef_567]; exact hG.set a_3 (mk_576 ka_3 ⟨_, rfl, hbg_565⟩)
                have hfo_568 : f_567 o0 = .inr (12, [.ref a_2, .ref a_3, .ref a_4, .int v_5, .ref a_6, .int v_7, .int v_504, .int v_505, .int v_506, .int v_507, .int v_508, .int v_13, .int v_14, .int v_15, .int v_16, .ref a_17, .ref a_18, .ref a_19, .ref a_20, .ref a_21, .ref a_22, .ref a_23, .ref a_24, .int v_25, .int v_522, .int v_27, .int v_524, .int v_29, .ref a_30, .int v_31, .ref a_32, .ref a_33, .int v_34, .int v_35, .ref a_36, .int v_37, .ref a_38, .ref a_39, .int v_40, .int v_537, .ref a_42, .ref a_43, .ref a_44, .int v_45, .ref a_46, .ref a_47, .ref a_48, .ref a_49, .ref a_50, .ref a_51, .ref a_52, .ref a_53, .ref a_54, .int v_55, .int v_552, .ref a_57]) := by rw [ef_567, up_ne (kd_ne ka_3 ko0 (by decide))]; exact hfo_497
                have hfr0 : ∀ b, kd b ≠ 12 → kd b ≠ 576 → f_567 b = f b := fun b q12 q576 => (congrFun ef_567 b).trans ((up_ne (fun e9 => q576 (by rw [e9]; exact ka_3))).trans (hfr0 b q12 q576))
                have hrA12 : ∀ b, kd b = 12 → ∀ j, fldR (f_567 b) j = fldR (f b) j := fun b kb j => (congrArg (fun x => fldR x j) ((congrFun ef_567 b).trans (up_ne (kd_ne ka_3 kb (by decide))))).trans (hrA12 b kb j)
                have hfA12 : ∀ b, kd b = 12 → ∀ j, j ≠ 6 → j ≠ 7 → j ≠ 8 → fldI (f_567 b) j = fldI (f b) j := fun b kb j n6 n7 n8 => (congrArg (fun x => fldI x j) ((congrFun ef_567 b).trans (up_ne (kd_ne ka_3 kb (by decide))))).trans (hfA12 b kb j n6 n7 n8)
                have hT0 : frel kd 576 8 f_567 a_3 := by rw [ef_567]; exact frel.mk ka_3 up_self (by rw [eqg_565]; exact (hT0.get hfo_496).up (hbg_486.2.1 16 (by decide) (by decide) (by decide)).2 (by omega) (by omega) (by omega) (fun h9 => by exfalso; omega))
                have hfo_569 : f_567 a_3 = .inl (cI, 1560, .inl g_565) := by rw [ef_567]; exact up_self
                have ql_570 : x_564 = g_565 (Int32.toNatClampNeg p1) := by rw [eqg_565, pk_us]
                refine lv_aload_n hx hb dX12_word_107 rfl (lv_at hl 2 rfl) ?_
                refine tk_getP (D := (dC, dI)) (ci := 12) (v := .ref a_3) (C := RX12) (T := TX12) (N := 56) hx hb hU inlX12 hown hK hP mo0 hfo_568 rfl 1 (by decide) (hU _ wd_170) (fun _ h9 => h9) rfl dX12_word_108 ?_
                refine lv_iload_n hx hb dX12_word_111 rfl (lv_at hl 3 rfl) ?_
                refine lv_aload_n hx hb dX12_word_112 rfl (lv_at hl 2 rfl) ?_
                refine tk_getP (D := (dC, dI)) (ci := 12) (v := .ref a_3) (C := RX12) (T := TX12) (N := 56) hx hb hU inlX12 hown hK hP mo0 hfo_568 rfl 1 (by decide) (hU _ wd_170) (fun _ h9 => h9) rfl dX12_word_113 ?_
                refine lv_iload_n hx hb dX12_word_116 rfl (lv_at hl 3 rfl) ?_
                refine tk_ildP hx hb hK hP 0 ma_3 hfo_569 rfl (vp_in_iff.mpr (by constructor <;> omega)) dX12_word_117 ?_
                refine tk_topi (y := x_564) ql_570.symm ?_
                refine lv_iadd hx hb dX12_word_118 ?_
                refine lv_topi (fun x_571 ex_571 => ?_)
                have hx_571 : x_571.toInt = p1.toInt + x_564.toInt := by rw [ex_571, ad_I (by omega) (by omega)]
                have bx_571 : (61 ≤ x_571.toInt ∧ x_571.toInt ≤ 213) := by constructor <;> omega
                refine lv_iload hx hb dX12_word_119 (lv_at hl 0 rfl) ?_
                refine tk_istP hx hb hK hP hD hS 0 ma_3 hfo_569 rfl (vp_in_iff.mpr (by constructor <;> omega)) dX12_word_121 (fun H locs hP hD hS => ?_)
                have hc9 := cl_I (i := x_571) (by omega)
                obtain ⟨g_572, eqg_572⟩ : ∃ y : Nat → Int32, y = upd g_565 (Int32.toNatClampNeg x_571) x_558 := ⟨_, rfl⟩
                rw [← eqg_572] at hP hD
                have hbg_572 : wOK g_572 := by rw [eqg_572]; exact ⟨hbg_565.1.up (fun h1 h2 h3 => by exfalso; omega), hbg_565.2.1.up (fun h1 h2 h3 => by exfalso; omega), hbg_565.2.2.1.up (fun h1 h2 h3 => by exfalso; omega), hbg_565.2.2.2.1.up (fun h1 h2 h3 => by exfalso; omega), hbg_565.2.2.2.2.1.up (fun h1 h2 h3 => by exfalso; omega), hbg_565.2.2.2.2.2.1.up (fun h1 h2 h3 => by exfalso; omega), hbg_565.2.2.2.2.2.2.1.up (fun h1 h2 h3 => by exfalso; omega), hbg_565.2.2.2.2.2.2.2.1.up (fun h1 h2 h3 => by exfalso; omega), hbg_565.2.2.2.2.2.2.2.2.1.up (fun h1 h2 h3 => by exfalso; omega), hbg_565.2.2.2.2.2.2.2.2.2.1.up (fun h1 h2 h3 => by exfalso; omega), hbg_565.2.2.2.2.2.2.2.2.2.2.1.up (fun h1 h2 h3 => by constructor <;> omega), hbg_565.2.2.2.2.2.2.2.2.2.2.2.1.up (fun h1 h2 h3 => by first | (exfalso; omega) | (constructor <;> omega)), hbg_565.2.2.2.2.2.2.2.2.2.2.2.2.1.up (fun h1 h2 h3 => by exfalso; omega), hbg_565.2.2.2.2.2.2.2.2.2.2.2.2.2.1.up (fun h1 h2 h3 => by exfalso; omega), hbg_565.2.2.2.2.2.2.2.2.2.2.2.2.2.2.1.up (fun h1 h2 h3 => by exfalso; omega), hbg_565.2.2.2.2.2.2.2.2.2.2.2.2.2.2.2.up (fun h1 h2 h3 => by exfalso; omega)⟩
                obtain ⟨f_574, ef_574⟩ : ∃ y : Nat → va_E, y = va_up f_567 a_3 (.inl (cI, 1560, .inl g_572)) := ⟨_, rfl⟩
                have hP : va_P (dC, dI) vwCl (va_pl L f_574) H := by rw [ef_574]; exact hP
                have hD : va_D (fun q => q ∈ L) (va_pl L f_574) := by rw [ef_574]; exact hD
                have hG : GI (okc cI cL cZ cR cG cH L kd) kd L f_574 := by rw [ef_574]; exact hG.set a_3 (mk_576 ka_3 ⟨_, rfl, hbg_572⟩)
                have hfo_575 : f_574 o0 = .inr (12, [.ref a_2, .ref a_3, .ref a_4, .int v_5, .ref a_6, .int v_7, .int v_504, .int v_505, .int v_506, .int v_507, .int v_508, .int v_13, .int v_14, .int v_15, .int v_16, .ref a_17, .ref a_18, .ref a_19, .ref a_20, .ref a_21, .ref a_22, .ref a_23, .ref a_24, .int v_25, .int v_522, .int v_27, .int v_524, .int v_29, .ref a_30, .int v_31, .ref a_32, .ref a_33, .int v_34, .int v_35, .ref a_36, .int v_37, .ref a_38, .ref a_39, .int v_40, .int v_537, .ref a_42, .ref a_43, .ref a_44, .int v_45, .ref a_46, .ref a_47, .ref a_48, .ref a_49, .ref a_50, .ref a_51, .ref a_52, .ref a_53, .ref a_54, .int v_55, .int v_552, .ref a_57]) := by rw [ef_574, up_ne (kd_ne ka_3 ko0 (by decide))]; exact hfo_568
                have hfr0 : ∀ b, kd b ≠ 12 → kd b ≠ 576 → f_574 b = f b := fun b q12 q576 => (congrFun ef_574 b).trans ((up_ne (fun e9 => q576 (by rw [e9]; exact ka_3))).trans (hfr0 b q12 q576))
                have hrA12 : ∀ b, kd b = 12 → ∀ j, fldR (f_574 b) j = fldR (f b) j := fun b kb j => (congrArg (fun x => fldR x j) ((congrFun ef_574 b).trans (up_ne (kd_ne ka_3 kb (by decide))))).trans (hrA12 b kb j)
                have hfA12 : ∀ b, kd b = 12 → ∀ j, j ≠ 6 → j ≠ 7 → j ≠ 8 → fldI (f_574 b) j = fldI (f b) j := fun b kb j n6 n7 n8 => (congrArg (fun x => fldI x j) ((congrFun ef_574 b).trans (up_ne (kd_ne ka_3 kb (by decide))))).trans (hfA12 b kb j n6 n7 n8)
                have hT0 : frel kd 576 8 f_574 a_3 := by rw [ef_574]; exact frel.mk ka_3 up_self (by rw [eqg_572]; exact (hT0.get hfo_569).up (hbg_565.2.1 16 (by decide) (by decide) (by decide)).2 (by omega) (by omega) (by omega) (fun h9 => by exfalso; omega))
                have hfo_576 : f_574 a_3 = .inl (cI, 1560, .inl g_572) := by rw [ef_574]; exact up_self
                have ql_577 : x_558 = g_572 (Int32.toNatClampNeg x_571) := by rw [eqg_572, pk_us]
                have hclc_578 : (0 ≤ v_504.toInt ∧ v_504.toInt ≤ 599) := by constructor <;> omega
                refine lv_aload_n hx hb dX12_word_122 rfl (lv_at hl 2 rfl) ?_
                refine lv_dup hx hb dX12_word_123 rfl ?_
                refine tk_getP (D := (dC, dI)) (ci := 12) (v := .int v_504) (C := RX12) (T := TX12) (N := 56) hx hb hU inlX12 hown hK hP mo0 hfo_575 rfl 6 (by decide) (hU _ wd_566) (fun _ h9 => h9) rfl dX12_word_124 ?_
                refine lv_iconst (v := 1) hx hb dX12_word_127 (by decide) ?_
                refine lv_iadd hx hb dX12_word_128 ?_
                refine lv_topi (fun x_579 ex_579 => ?_)
                have hx_579 : x_579.toInt = v_504.toInt + 1 := by rw [ex_579, ad_I (by rw [ti_1]; omega) (by rw [ti_1]; omega), ti_1]
                have bx_579 : (1 ≤ x_579.toInt ∧ x_579.toInt ≤ 600) := by constructor <;> omega
                refine tk_putP (D := (dC, dI)) (ci := 12) (v := .int x_579) (ty := .int) (C := RX12) (T := TX12) (N := 56) hx hb hU inlX12 tyX12 tyX12_ok nmX12 hown hK hP hD hS mo0 hfo_575 rfl 6 (by decide) (hU _ wd_566) (fun _ h9 => h9) rfl (by decide +kernel) rfl rfl (Nat.le_of_ble_eq_true rfl) dX12_word_129 (fun H locs hP hD hS => ?_)
                obtain ⟨f_581, ef_581⟩ : ∃ y : Nat → va_E, y = va_up f_574 o0 (.inr (12, [.ref a_2, .ref a_3, .ref a_4, .int v_5, .ref a_6, .int v_7, .int x_579, .int v_505, .int v_506, .int v_507, .int v_508, .int v_13, .int v_14, .int v_15, .int v_16, .ref a_17, .ref a_18, .ref a_19, .ref a_20, .ref a_21, .ref a_22, .ref a_23, .ref a_24, .int v_25, .int v_522, .int v_27, .int v_524, .int v_29, .ref a_30, .int v_31, .ref a_32, .ref a_33, .int v_34, .int v_35, .ref a_36, .int v_37, .ref a_38, .ref a_39, .int v_40, .int v_537, .ref a_42, .ref a_43, .ref a_44, .int v_45, .ref a_46, .ref a_47, .ref a_48, .ref a_49, .ref a_50, .ref a_51, .ref a_52, .ref a_53, .ref a_54, .int v_55, .int v_552, .ref a_57])) := ⟨_, rfl⟩
                have hP : va_P (dC, dI) vwCl (va_pl L f_581) H := by rw [ef_581]; exact hP
                have hD : va_D (fun q => q ∈ L) (va_pl L f_581) := by rw [ef_581]; exact hD
                have hG : GI (okc cI cL cZ cR cG cH L kd) kd L f_581 := by rw [ef_581]; exact hG.set o0 (mk_12 ko0 ⟨a_2, a_3, a_4, v_5, a_6, v_7, x_579, v_505, v_506, v_507, v_508, v_13, v_14, v_15, v_16, a_17, a_18, a_19, a_20, a_21, a_22, a_23, a_24, v_25, v_522, v_27, v_524, v_29, a_30, v_31, a_32, a_33, v_34, v_35, a_36, v_37, a_38, a_39, v_40, v_537, a_42, a_43, a_44, v_45, a_46, a_47, a_48, a_49, a_50, a_51, a_52, a_53, a_54, v_55, v_552, a_57, rfl, ⟨ma_2, ka_2⟩, ⟨ma_3, ka_3⟩, ⟨ma_4, ka_4⟩, (by constructor <;> omega), ⟨ma_6, ka_6⟩, (by constructor <;> omega), (by constructor <;> omega), (by constructor <;> omega), (by constructor <;> omega), (by constructor <;> omega), ⟨ma_17, ka_17⟩, ⟨ma_18, ka_18⟩, ⟨ma_19, ka_19⟩, ⟨ma_20, ka_20⟩, ⟨ma_21, ka_21⟩, ⟨ma_22, ka_22⟩, ⟨ma_23, ka_23⟩, ⟨ma_24, ka_24⟩, (by constructor <;> omega), (by constructor <;> omega), (by constructor <;> omega), ⟨ma_30, ka_30⟩, (by constructor <;> omega), ⟨ma_32, ka_32⟩, ⟨ma_33, ka_33⟩, (by constructor <;> omega), ⟨ma_36, ka_36⟩, (by constructor <;> omega), ⟨ma_38, ka_38⟩, ⟨ma_39, ka_39⟩, (by constructor <;> omega), ⟨ma_42, ka_42⟩, ⟨ma_43, ka_43⟩, ⟨ma_44, ka_44⟩, (by constructor <;> omega), ⟨ma_46, ka_46⟩, ⟨ma_47, ka_47⟩, ⟨ma_48, ka_48⟩, ⟨ma_49, ka_49⟩, ⟨ma_50, ka_50⟩, ⟨ma_51, ka_51⟩, ⟨ma_52, ka_52⟩, ⟨ma_53, ka_53⟩, ⟨ma_54, ka_54⟩, (by constructor <;> omega), ⟨ma_57, ka_57⟩⟩)
                have hfo_582 : f_581 a_3 = .inl (cI, 1560, .inl g_572) := by rw [ef_581, up_ne (kd_ne ko0 ka_3 (by decide))]; exact hfo_576
                have hfr0 : ∀ b, kd b ≠ 12 → kd b ≠ 576 → f_581 b = f b := fun b q12 q576 => (congrFun ef_581 b).trans ((up_ne (fun e9 => q12 (by rw [e9]; exact ko0))).trans (hfr0 b q12 q576))
                have hrA12 : ∀ b, kd b = 12 → ∀ j, fldR (f_581 b) j = fldR (f b) j := fun b kb j => ((congrArg (fun x => fldR x j) (congrFun ef_581 b)).trans (fra_up (fun j => by rw [hfo_575]; exact fr_set (k := 6) rfl rfl j) j b)).trans (hrA12 b kb j)
                have hfA12 : ∀ b, kd b = 12 → ∀ j, j ≠ 6 → j ≠ 7 → j ≠ 8 → fldI (f_581 b) j = fldI (f b) j := fun b kb j n6 n7 n8 => ((congrArg (fun x => fldI x j) (congrFun ef_581 b)).trans (fia_up (fun h9 => by rw [hfo_575]; exact fi_set (k := 6) rfl h9) n6 b)).trans (hfA12 b kb j n6 n7 n8)
                have hT0 : frel kd 576 8 f_581 a_3 := by rw [ef_581]; exact hT0.keep (fun b q => up_ne (kd_ne ko0 q (by decide)))
                have hfo_583 : f_581 o0 = .inr (12, [.ref a_2, .ref a_3, .ref a_4, .int v_5, .ref a_6, .int v_7, .int x_579, .int v_505, .int v_506, .int v_507, .int v_508, .int v_13, .int v_14, .int v_15, .int v_16, .ref a_17, .ref a_18, .ref a_19, .ref a_20, .ref a_21, .ref a_22, .ref a_23, .ref a_24, .int v_25, .int v_522, .int v_27, .int v_524, .int v_29, .ref a_30, .int v_31, .ref a_32, .ref a_33, .int v_34, .int v_35, .ref a_36, .int v_37, .ref a_38, .ref a_39, .int v_40, .int v_537, .ref a_42, .ref a_43, .ref a_44, .int v_45, .ref a_46, .ref a_47, .ref a_48, .ref a_49, .ref a_50, .ref a_51, .ref a_52, .ref a_53, .ref a_54, .int v_55, .int v_552, .ref a_57]) := by rw [ef_581]; exact up_self
                refine lv_goto (tgt := 7) hx hb dX12_word_132 (by decide) ?_
                exact ih_hloop_71 f_581 hG _ _ hP hS hD hfr0 hrA12 hfA12 hT0 x_579 (by rw [hfo_583]; rfl) (by omega) (by omega) (by omega) ls (lv_sub hl [2, 3, 4] rfl)
              · skip
                rw [← Int32.toInt_inj, ti_6] at c_563
                exfalso
                omega
            · skip
              rw [← Int32.toInt_inj, ti_0] at c_562
              refine lv_aload_n hx hb dX12_word_66 rfl (lv_at hl 2 rfl) ?_
              refine lv_iconst (v := 2) hx hb dX12_word_67 (by decide) ?_
              refine lv_aload_n hx hb dX12_word_68 rfl (lv_at hl 2 rfl) ?_
              refine tk_getP (D := (dC, dI)) (ci := 12) (v := .int v_504) (C := RX12) (T := TX12) (N := 56) hx hb hU inlX12 hown hK hP mo0 hfo_497 rfl 6 (by decide) (hU _ wd_566) (fun _ h9 => h9) rfl dX12_word_69 ?_
              refine tk_ViP (As := [.int 2, .int v_504]) (rest := []) (n := 2) hx hb hml hown hU hN hZ (s_X12_bad_k12 l (dC, dI) cI cL cZ cR cG cH Z kd L f_490 hG o0 mo0 ko0 2 v_504) wd_602 wd_603 wd_604 wd_5 wd_605 (by decide +kernel) ⟨Nat.le_of_ble_eq_true rfl, Nat.le_of_ble_eq_true rfl⟩ hK hP hD hS mo0 hfo_497 12 rfl rfl rfl hl.1 rfl (Nat.le_of_ble_eq_true rfl) dX12_word_72 ⟨Nat.le_of_ble_eq_true rfl, Nat.le_of_ble_eq_true rfl⟩ (fun x_584 f_585 H locs hw hP hD hS => ?_)
              obtain ⟨hG, bx_584, hkc_586, hra_587, hfa_588⟩ := hw
              have hfo_590 : f_585 a_3 = .inl (cI, 1560, .inl g_486) := by rw [hkc_586 a_3 (by rw [ka_3]; decide)]; exact hfo_496
              have hfr0 : ∀ b, kd b ≠ 12 → kd b ≠ 576 → f_585 b = f b := fun b q12 q576 => (hkc_586 b q12).trans (hfr0 b q12 q576)
              have hrA12 : ∀ b, kd b = 12 → ∀ j, fldR (f_585 b) j = fldR (f b) j := fun b kb j => (hra_587 b kb j).trans (hrA12 b kb j)
              have hfA12 : ∀ b, kd b = 12 → ∀ j, j ≠ 6 → j ≠ 7 → j ≠ 8 → fldI (f_585 b) j = fldI (f b) j := fun b kb j n6 n7 n8 => (hfa_588 b kb j n7 n8).trans (hfA12 b kb j n6 n7 n8)
              have hT0 : frel kd 576 8 f_585 a_3 := hT0.keep (fun b q => hkc_586 b (by rw [q]; decide))
              obtain ⟨a_592, a_593, a_594, v_595, a_596, v_597, v_598, v_599, v_600, v_601, v_602, v_603, v_604, v_605, v_606, a_607, a_608, a_609, a_610, a_611, a_612, a_613, a_614, v_615, v_616, v_617, v_618, v_619, a_620, v_621, a_622, a_623, v_624, v_625, a_626, v_627, a_628, a_629, v_630, v_631, a_632, a_633, a_634, v_635, a_636, a_637, a_638, a_639, a_640, a_641, a_642, a_643, a_644, v_645, v_646, a_647, hfo_591, ⟨ma_592, ka_592⟩, ⟨ma_593, ka_593⟩, ⟨ma_594, ka_594⟩, bv_595, ⟨ma_596, ka_596⟩, bv_597, bv_598, bv_603, bv_604, bv_605, ⟨ma_607, ka_607⟩, ⟨ma_608, ka_608⟩, ⟨ma_609, ka_609⟩, ⟨ma_610, ka_610⟩, ⟨ma_611, ka_611⟩, ⟨ma_612, ka_612⟩, ⟨ma_613, ka_613⟩, ⟨ma_614, ka_614⟩, bv_615, bv_617, bv_619, ⟨ma_620, ka_620⟩, bv_621, ⟨ma_622, ka_622⟩, ⟨ma_623, ka_623⟩, bv_624, ⟨ma_626, ka_626⟩, bv_627, ⟨ma_628, ka_628⟩, ⟨ma_629, ka_629⟩, bv_630, ⟨ma_632, ka_632⟩, ⟨ma_633, ka_633⟩, ⟨ma_634, ka_634⟩, bv_635, ⟨ma_636, ka_636⟩, ⟨ma_637, ka_637⟩, ⟨ma_638, ka_638⟩, ⟨ma_639, ka_639⟩, ⟨ma_640, ka_640⟩, ⟨ma_641, ka_641⟩, ⟨ma_642, ka_642⟩, ⟨ma_643, ka_643⟩, ⟨ma_644, ka_644⟩, bv_645, ⟨ma_647, ka_647⟩⟩ := un_12 (hG _ mo0) ko0
              have bv_599 : ((-2147483648) ≤ v_599.toInt ∧ v_599.toInt ≤ 2147483647) := ⟨i32_lo _, i32_hi _⟩
              have bv_600 : ((-2147483648) ≤ v_600.toInt ∧ v_600.toInt ≤ 2147483647) := ⟨i32_lo _, i32_hi _⟩
              have bv_601 : ((-2147483648) ≤ v_601.toInt ∧ v_601.toInt ≤ 2147483647) := ⟨i32_lo _, i32_hi _⟩
              have bv_602 : ((-2147483648) ≤ v_602.toInt ∧ v_602.toInt ≤ 2147483647) := ⟨i32_lo _, i32_hi _⟩
              have bv_606 : ((-2147483648) ≤ v_606.toInt ∧ v_606.toInt ≤ 2147483647) := ⟨i32_lo _, i32_hi _⟩
              have bv_616 : ((-2147483648) ≤ v_616.toInt ∧ v_616.toInt ≤ 2147483647) := ⟨i32_lo _, i32_hi _⟩
              have bv_618 : ((-2147483648) ≤ v_618.toInt ∧ v_618.toInt ≤ 2147483647) := ⟨i32_lo _, i32_hi _⟩
              have bv_625 : ((-2147483648) ≤ v_625.toInt ∧ v_625.toInt ≤ 2147483647) := ⟨i32_lo _, i32_hi _⟩
              have bv_631 : ((-2147483648) ≤ v_631.toInt ∧ v_631.toInt ≤ 2147483647) := ⟨i32_lo _, i32_hi _⟩
              have bv_646 : ((-2147483648) ≤ v_646.toInt ∧ v_646.toInt ≤ 2147483647) := ⟨i32_lo _, i32_hi _⟩
              obtain ⟨rfl, rfl, rfl, rfl, rfl, rfl, rfl, rfl, rfl, rfl, rfl, rfl, rfl, rfl, rfl, rfl, rfl, rfl, rfl, rfl, rfl, rfl, rfl, rfl, rfl, rfl, rfl, rfl, rfl, rfl, rfl⟩ := re_12 hfo_1 hfo_591 (hrA12 o0 ko0)
              obtain rfl := ri_12_3 hfo_1 hfo_591 (hfA12 o0 ko0 3 (by decide) (by decide) (by decide))
              obtain rfl := ri_12_5 hfo_1 hfo_591 (hfA12 o0 ko0 5 (by decide) (by decide) (by decide))
              obtain rfl := ri_12_11 hfo_1 hfo_591 (hfA12 o0 ko0 11 (by decide) (by decide) (by decide))
              obtain rfl := ri_12_12 hfo_1 hfo_591 (hfA12 o0 ko0 12 (by decide) (by decide) (by decide))
              obtain rfl := ri_12_13 hfo_1 hfo_591 (hfA12 o0 ko0 13 (by decide) (by decide) (by decide))
              obtain rfl := ri_12_14 hfo_1 hfo_591 (hfA12 o0 ko0 14 (by decide) (by decide) (by decide))
              obtain rfl := ri_12_23 hfo_1 hfo_591 (hfA12 o0 ko0 23 (by decide) (by decide) (by decide))
              obtain rfl := ri_12_25 hfo_1 hfo_591 (hfA12 o0 ko0 25 (by decide) (by decide) (by decide))
              obtain rfl := ri_12_27 hfo_1 hfo_591 (hfA12 o0 ko0 27 (by decide) (by decide) (by decide))
              obtain rfl := ri_12_29 hfo_1 hfo_591 (hfA12 o0 ko0 29 (by decide) (by decide) (by decide))
              obtain rfl := ri_12_32 hfo_1 hfo_591 (hfA12 o0 ko0 32 (by decide) (by decide) (by decide))
              obtain rfl := ri_12_33 hfo_1 hfo_591 (hfA12 o0 ko0 33 (by decide) (by decide) (by decide))
              obtain rfl := ri_12_35 hfo_1 hfo_591 (hfA12 o0 ko0 35 (by decide) (by decide) (by decide))
              obtain rfl := ri_12_38 hfo_1 hfo_591 (hfA12 o0 ko0 38 (by decide) (by decide) (by decide))
              obtain rfl := ri_12_43 hfo_1 hfo_591 (hfA12 o0 ko0 43 (by decide) (by decide) (by decide))
              obtain rfl := ri_12_53 hfo_1 hfo_591 (hfA12 o0 ko0 53 (by decide) (by decide) (by decide))
              obtain rfl := ri_12_6 hfo_497 hfo_591 (hfa_588 o0 ko0 6 (by decide) (by decide))
              exact W.zret (v := x_584) (ty := .boolean) hx hb hr (zb_n (by constructor <;> omega)) (fun t ht hW => ⟨⟨x_584, f_585, rfl, ⟨hG, (by constructor <;> omega), hfr0, hrA12, hfA12, (by intro w6 z6 e6 d6; rw [hfo_1] at e6; rw [hfo_591] at d6; obtain rfl := Option.some.inj e6; obtain rfl := Option.some.inj d6; omega), (fun d9 h9 => by rw [hfo_591] at h9; obtain rfl := Option.some.inj h9; exact hT0)⟩, by rw [ht]; exact hP, va_K.moved hW.alike hK, pl_in hD⟩, hS.F ht⟩) hS.2.2 dX12_word_75
          · skip
            rw [← Int32.toInt_inj, ti_0] at c_557
            refine lv_aload_n hx hb dX12_word_41 rfl (lv_at hl 1 rfl) ?_
            refine lv_iconst (v := 1) hx hb dX12_word_42 (by decide) ?_
            refine lv_aload_n hx hb dX12_word_43 rfl (lv_at hl 1 rfl) ?_
            refine tk_getP (D := (dC, dI)) (ci := 12) (v := .int v_504) (C := RX12) (T := TX12) (N := 56) hx hb hU inlX12 hown hK hP mo0 hfo_497 rfl 6 (by decide) (hU _ wd_566) (fun _ h9 => h9) rfl dX12_word_44 ?_
            refine tk_ViP (As := [.int 1, .int v_504]) (rest := []) (n := 2) hx hb hml hown hU hN hZ (s_X12_bad_k12 l (dC, dI) cI cL cZ cR cG cH Z kd L f_490 hG o0 mo0 ko0 1 v_504) wd_602 wd_603 wd_604 wd_5 wd_605 (by decide +kernel) ⟨Nat.le_of_ble_eq_true rfl, Nat.le_of_ble_eq_true rfl⟩ hK hP hD hS mo0 hfo_497 12 rfl rfl rfl hl.1 rfl (Nat.le_of_ble_eq_true rfl) dX12_word_47 ⟨Nat.le_of_ble_eq_true rfl, Nat.le_of_ble_eq_true rfl⟩ (fun x_648 f_649 H locs hw hP hD hS => ?_)
            obtain ⟨hG, bx_648, hkc_650, hra_651, hfa_652⟩ := hw
            have hfo_654 : f_649 a_3 = .inl (cI, 1560, .inl g_486) := by rw [hkc_650 a_3 (by rw [ka_3]; decide)]; exact hfo_496
            have hfr0 : ∀ b, kd b ≠ 12 → kd b ≠ 576 → f_649 b = f b := fun b q12 q576 => (hkc_650 b q12).trans (hfr0 b q12 q576)
            have hrA12 : ∀ b, kd b = 12 → ∀ j, fldR (f_649 b) j = fldR (f b) j := fun b kb j => (hra_651 b kb j).trans (hrA12 b kb j)
            have hfA12 : ∀ b, kd b = 12 → ∀ j, j ≠ 6 → j ≠ 7 → j ≠ 8 → fldI (f_649 b) j = fldI (f b) j := fun b kb j n6 n7 n8 => (hfa_652 b kb j n7 n8).trans (hfA12 b kb j n6 n7 n8)
            have hT0 : frel kd 576 8 f_649 a_3 := hT0.keep (fun b q => hkc_650 b (by rw [q]; decide))
            obtain ⟨a_656, a_657, a_658, v_659, a_660, v_661, v_662, v_663, v_664, v_665, v_666, v_667, v_668, v_669, v_670, a_671, a_672, a_673, a_674, a_675, a_676, a_677, a_678, v_679, v_680, v_681, v_682, v_683, a_684, v_685, a_686, a_687, v_688, v_689, a_690, v_691, a_692, a_693, v_694, v_695, a_696, a_697, a_698, v_699, a_700, a_701, a_702, a_703, a_704, a_705, a_706, a_707, a_708, v_709, v_710, a_711, hfo_655, ⟨ma_656, ka_656⟩, ⟨ma_657, ka_657⟩, ⟨ma_658, ka_658⟩, bv_659, ⟨ma_660, ka_660⟩, bv_661, bv_662, bv_667, bv_668, bv_669, ⟨ma_671, ka_671⟩, ⟨ma_672, ka_672⟩, ⟨ma_673, ka_673⟩, ⟨ma_674, ka_674⟩, ⟨ma_675, ka_675⟩, ⟨ma_676, ka_676⟩, ⟨ma_677, ka_677⟩, ⟨ma_678, ka_678⟩, bv_679, bv_681, bv_683, ⟨ma_684, ka_684⟩, bv_685, ⟨ma_686, ka_686⟩, ⟨ma_687, ka_687⟩, bv_688, ⟨ma_690, ka_690⟩, bv_691, ⟨ma_692, ka_692⟩, ⟨ma_693, ka_693⟩, bv_694, ⟨ma_696, ka_696⟩, ⟨ma_697, ka_697⟩, ⟨ma_698, ka_698⟩, bv_699, ⟨ma_700, ka_700⟩, ⟨ma_701, ka_701⟩, ⟨ma_702, ka_702⟩, ⟨ma_703, ka_703⟩, ⟨ma_704, ka_704⟩, ⟨ma_705, ka_705⟩, ⟨ma_706, ka_706⟩, ⟨ma_707, ka_707⟩, ⟨ma_708, ka_708⟩, bv_709, ⟨ma_711, ka_711⟩⟩ := un_12 (hG _ mo0) ko0
            have bv_663 : ((-2147483648) ≤ v_663.toInt ∧ v_663.toInt ≤ 2147483647) := ⟨i32_lo _, i32_hi _⟩
            have bv_664 : ((-2147483648) ≤ v_664.toInt ∧ v_664.toInt ≤ 2147483647) := ⟨i32_lo _, i32_hi _⟩
            have bv_665 : ((-2147483648) ≤ v_665.toInt ∧ v_665.toInt ≤ 2147483647) := ⟨i32_lo _, i32_hi _⟩
            have bv_666 : ((-2147483648) ≤ v_666.toInt ∧ v_666.toInt ≤ 2147483647) := ⟨i32_lo _, i32_hi _⟩
            have bv_670 : ((-2147483648) ≤ v_670.toInt ∧ v_670.toInt ≤ 2147483647) := ⟨i32_lo _, i32_hi _⟩
            have bv_680 : ((-2147483648) ≤ v_680.toInt ∧ v_680.toInt ≤ 2147483647) := ⟨i32_lo _, i32_hi _⟩
            have bv_682 : ((-2147483648) ≤ v_682.toInt ∧ v_682.toInt ≤ 2147483647) := ⟨i32_lo _, i32_hi _⟩
            have bv_689 : ((-2147483648) ≤ v_689.toInt ∧ v_689.toInt ≤ 2147483647) := ⟨i32_lo _, i32_hi _⟩
            have bv_695 : ((-2147483648) ≤ v_695.toInt ∧ v_695.toInt ≤ 2147483647) := ⟨i32_lo _, i32_hi _⟩
            have bv_710 : ((-2147483648) ≤ v_710.toInt ∧ v_710.toInt ≤ 2147483647) := ⟨i32_lo _, i32_hi _⟩
            obtain ⟨rfl, rfl, rfl, rfl, rfl, rfl, rfl, rfl, rfl, rfl, rfl, rfl, rfl, rfl, rfl, rfl, rfl, rfl, rfl, rfl, rfl, rfl, rfl, rfl, rfl, rfl, rfl, rfl, rfl, rfl, rfl⟩ := re_12 hfo_1 hfo_655 (hrA12 o0 ko0)
            obtain rfl := ri_12_3 hfo_1 hfo_655 (hfA12 o0 ko0 3 (by decide) (by decide) (by decide))
            obtain rfl := ri_12_5 hfo_1 hfo_655 (hfA12 o0 ko0 5 (by decide) (by decide) (by decide))
            obtain rfl := ri_12_11 hfo_1 hfo_655 (hfA12 o0 ko0 11 (by decide) (by decide) (by decide))
            obtain rfl := ri_12_12 hfo_1 hfo_655 (hfA12 o0 ko0 12 (by decide) (by decide) (by decide))
            obtain rfl := ri_12_13 hfo_1 hfo_655 (hfA12 o0 ko0 13 (by decide) (by decide) (by decide))
            obtain rfl := ri_12_14 hfo_1 hfo_655 (hfA12 o0 ko0 14 (by decide) (by decide) (by decide))
            obtain rfl := ri_12_23 hfo_1 hfo_655 (hfA12 o0 ko0 23 (by decide) (by decide) (by decide))
            obtain rfl := ri_12_25 hfo_1 hfo_655 (hfA12 o0 ko0 25 (by decide) (by decide) (by decide))
            obtain rfl := ri_12_27 hfo_1 hfo_655 (hfA12 o0 ko0 27 (by decide) (by decide) (by decide))
            obtain rfl := ri_12_29 hfo_1 hfo_655 (hfA12 o0 ko0 29 (by decide) (by decide) (by decide))
            obtain rfl := ri_12_32 hfo_1 hfo_655 (hfA12 o0 ko0 32 (by decide) (by decide) (by decide))
            obtain rfl := ri_12_33 hfo_1 hfo_655 (hfA12 o0 ko0 33 (by decide) (by decide) (by decide))
            obtain rfl := ri_12_35 hfo_1 hfo_655 (hfA12 o0 ko0 35 (by decide) (by decide) (by decide))
            obtain rfl := ri_12_38 hfo_1 hfo_655 (hfA12 o0 ko0 38 (by decide) (by decide) (by decide))
            obtain rfl := ri_12_43 hfo_1 hfo_655 (hfA12 o0 ko0 43 (by decide) (by decide) (by decide))
            obtain rfl := ri_12_53 hfo_1 hfo_655 (hfA12 o0 ko0 53 (by decide) (by decide) (by decide))
            obtain rfl := ri_12_6 hfo_497 hfo_655 (hfa_652 o0 ko0 6 (by decide) (by decide))
            exact W.zret (v := x_648) (ty := .boolean) hx hb hr (zb_n (by constructor <;> omega)) (fun t ht hW => ⟨⟨x_648, f_649, rfl, ⟨hG, (by constructor <;> omega), hfr0, hrA12, hfA12, (by intro w6 z6 e6 d6; rw [hfo_1] at e6; rw [hfo_655] at d6; obtain rfl := Option.some.inj e6; obtain rfl := Option.some.inj d6; omega), (fun d9 h9 => by rw [hfo_655] at h9; obtain rfl := Option.some.inj h9; exact hT0)⟩, by rw [ht]; exact hP, va_K.moved hW.alike hK, pl_in hD⟩, hS.F ht⟩) hS.2.2 dX12_word_50
        · skip
          rw [← Int32.toInt_inj, ti_0] at c_488
          refine lv_aload_n hx hb dX12_word_20 rfl (lv_at hl 0 rfl) ?_
          refine tk_ViP (As := []) (rest := []) (n := 0) hx hb hml hown hU hN hZ (s_X12_sign_k12 l (dC, dI) cI cL cZ cR cG cH Z kd L f_73 hG o0 mo0 ko0) wd_573 wd_574 wd_575 wd_5 wd_576 (by decide +kernel) ⟨Nat.le_of_ble_eq_true rfl, Nat.le_of_ble_eq_true rfl⟩ hK hP hD hS mo0 hfo_74 12 rfl rfl rfl hl.1 rfl (Nat.le_of_ble_eq_true rfl) dX12_word_21 ⟨Nat.le_of_ble_eq_true rfl, Nat.le_of_ble_eq_true rfl⟩ (fun x_712 f_713 H locs hw hP hD hS => ?_)
          obtain ⟨hG, bx_712, hkc_714, hra_715, hfa_716, hpost_717⟩ := hw
          have hfo_719 : f_713 a_3 = .inl (cI, 1560, .inl g_486) := by rw [hkc_714 a_3 (by rw [ka_3]; decide)]; exact hfo_485
          have hfr0 : ∀ b, kd b ≠ 12 → kd b ≠ 576 → f_713 b = f b := fun b q12 q576 => (hkc_714 b q12).trans (hfr0 b q12 q576)
          have hrA12 : ∀ b, kd b = 12 → ∀ j, fldR (f_713 b) j = fldR (f b) j := fun b kb j => (hra_715 b kb j).trans (hrA12 b kb j)
          have hfA12 : ∀ b, kd b = 12 → ∀ j, j ≠ 6 → j ≠ 7 → j ≠ 8 → fldI (f_713 b) j = fldI (f b) j := fun b kb j n6 n7 n8 => (hfa_716 b kb j n6).trans (hfA12 b kb j n6 n7 n8)
          have hT0 : frel kd 576 8 f_713 a_3 := hT0.keep (fun b q => hkc_714 b (by rw [q]; decide))
          obtain ⟨a_721, a_722, a_723, v_724, a_725, v_726, v_727, v_728, v_729, v_730, v_731, v_732, v_733, v_734, v_735, a_736, a_737, a_738, a_739, a_740, a_741, a_742, a_743, v_744, v_745, v_746, v_747, v_748, a_749, v_750, a_751, a_752, v_753, v_754, a_755, v_756, a_757, a_758, v_759, v_760, a_761, a_762, a_763, v_764, a_765, a_766, a_767, a_768, a_769, a_770, a_771, a_772, a_773, v_774, v_775, a_776, hfo_720, ⟨ma_721, ka_721⟩, ⟨ma_722, ka_722⟩, ⟨ma_723, ka_723⟩, bv_724, ⟨ma_725, ka_725⟩, bv_726, bv_727, bv_732, bv_733, bv_734, ⟨ma_736, ka_736⟩, ⟨ma_737, ka_737⟩, ⟨ma_738, ka_738⟩, ⟨ma_739, ka_739⟩, ⟨ma_740, ka_740⟩, ⟨ma_741, ka_741⟩, ⟨ma_742, ka_742⟩, ⟨ma_743, ka_743⟩, bv_744, bv_746, bv_748, ⟨ma_749, ka_749⟩, bv_750, ⟨ma_751, ka_751⟩, ⟨ma_752, ka_752⟩, bv_753, ⟨ma_755, ka_755⟩, bv_756, ⟨ma_757, ka_757⟩, ⟨ma_758, ka_758⟩, bv_759, ⟨ma_761, ka_761⟩, ⟨ma_762, ka_762⟩, ⟨ma_763, ka_763⟩, bv_764, ⟨ma_765, ka_765⟩, ⟨ma_766, ka_766⟩, ⟨ma_767, ka_767⟩, ⟨ma_768, ka_768⟩, ⟨ma_769, ka_769⟩, ⟨ma_770, ka_770⟩, ⟨ma_771, ka_771⟩, ⟨ma_772, ka_772⟩, ⟨ma_773, ka_773⟩, bv_774, ⟨ma_776, ka_776⟩⟩ := un_12 (hG _ mo0) ko0
          have bv_728 : ((-2147483648) ≤ v_728.toInt ∧ v_728.toInt ≤ 2147483647) := ⟨i32_lo _, i32_hi _⟩
          have bv_729 : ((-2147483648) ≤ v_729.toInt ∧ v_729.toInt ≤ 2147483647) := ⟨i32_lo _, i32_hi _⟩
          have bv_730 : ((-2147483648) ≤ v_730.toInt ∧ v_730.toInt ≤ 2147483647) := ⟨i32_lo _, i32_hi _⟩
          have bv_731 : ((-2147483648) ≤ v_731.toInt ∧ v_731.toInt ≤ 2147483647) := ⟨i32_lo _, i32_hi _⟩
          have bv_735 : ((-2147483648) ≤ v_735.toInt ∧ v_735.toInt ≤ 2147483647) := ⟨i32_lo _, i32_hi _⟩
          have bv_745 : ((-2147483648) ≤ v_745.toInt ∧ v_745.toInt ≤ 2147483647) := ⟨i32_lo _, i32_hi _⟩
          have bv_747 : ((-2147483648) ≤ v_747.toInt ∧ v_747.toInt ≤ 2147483647) := ⟨i32_lo _, i32_hi _⟩
          have bv_754 : ((-2147483648) ≤ v_754.toInt ∧ v_754.toInt ≤ 2147483647) := ⟨i32_lo _, i32_hi _⟩
          have bv_760 : ((-2147483648) ≤ v_760.toInt ∧ v_760.toInt ≤ 2147483647) := ⟨i32_lo _, i32_hi _⟩
          have bv_775 : ((-2147483648) ≤ v_775.toInt ∧ v_775.toInt ≤ 2147483647) := ⟨i32_lo _, i32_hi _⟩
          obtain ⟨rfl, rfl, rfl, rfl, rfl, rfl, rfl, rfl, rfl, rfl, rfl, rfl, rfl, rfl, rfl, rfl, rfl, rfl, rfl, rfl, rfl, rfl, rfl, rfl, rfl, rfl, rfl, rfl, rfl, rfl, rfl⟩ := re_12 hfo_1 hfo_720 (hrA12 o0 ko0)
          obtain rfl := ri_12_3 hfo_1 hfo_720 (hfA12 o0 ko0 3 (by decide) (by decide) (by decide))
          obtain rfl := ri_12_5 hfo_1 hfo_720 (hfA12 o0 ko0 5 (by decide) (by decide) (by decide))
          obtain rfl := ri_12_11 hfo_1 hfo_720 (hfA12 o0 ko0 11 (by decide) (by decide) (by decide))
          obtain rfl := ri_12_12 hfo_1 hfo_720 (hfA12 o0 ko0 12 (by decide) (by decide) (by decide))
          obtain rfl := ri_12_13 hfo_1 hfo_720 (hfA12 o0 ko0 13 (by decide) (by decide) (by decide))
          obtain rfl := ri_12_14 hfo_1 hfo_720 (hfA12 o0 ko0 14 (by decide) (by decide) (by decide))
          obtain rfl := ri_12_23 hfo_1 hfo_720 (hfA12 o0 ko0 23 (by decide) (by decide) (by decide))
          obtain rfl := ri_12_25 hfo_1 hfo_720 (hfA12 o0 ko0 25 (by decide) (by decide) (by decide))
          obtain rfl := ri_12_27 hfo_1 hfo_720 (hfA12 o0 ko0 27 (by decide) (by decide) (by decide))
          obtain rfl := ri_12_29 hfo_1 hfo_720 (hfA12 o0 ko0 29 (by decide) (by decide) (by decide))
          obtain rfl := ri_12_32 hfo_1 hfo_720 (hfA12 o0 ko0 32 (by decide) (by decide) (by decide))
          obtain rfl := ri_12_33 hfo_1 hfo_720 (hfA12 o0 ko0 33 (by decide) (by decide) (by decide))
          obtain rfl := ri_12_35 hfo_1 hfo_720 (hfA12 o0 ko0 35 (by decide) (by decide) (by decide))
          obtain rfl := ri_12_38 hfo_1 hfo_720 (hfA12 o0 ko0 38 (by decide) (by decide) (by decide))
          obtain rfl := ri_12_43 hfo_1 hfo_720 (hfA12 o0 ko0 43 (by decide) (by decide) (by decide))
          obtain rfl := ri_12_53 hfo_1 hfo_720 (hfA12 o0 ko0 53 (by decide) (by decide) (by decide))
          have hqhpost_717 := hpost_717 v_81 v_727 (by rw [hfo_74]; rfl) (by rw [hfo_720]; rfl)
          refine lv_bipush (v := 59) hx hb dX12_word_24 (by decide) ?_
          refine lv_icmp_eq (tgt := 135) hx hb dX12_word_26 (by decide) (fun c_777 => ?_) (fun c_777 => ?_)
          · skip
            rw [← Int32.toInt_inj, ti_59] at c_777
            refine lv_iconst (v := 1) hx hb dX12_word_135 (by decide) ?_
            exact W.zret (v := 1) (ty := .boolean) hx hb hr rfl (fun t ht hW => ⟨⟨1, f_713, rfl, ⟨hG, (by decide), hfr0, hrA12, hfA12, (by intro w6 z6 e6 d6; rw [hfo_1] at e6; rw [hfo_720] at d6; obtain rfl := Option.some.inj e6; obtain rfl := Option.some.inj d6; (try rw [ti_1]) <;> omega), (fun d9 h9 => by rw [hfo_720] at h9; obtain rfl := Option.some.inj h9; exact hT0)⟩, by rw [ht]; exact hP, va_K.moved hW.alike hK, pl_in hD⟩, hS.F ht⟩) hS.2.2 dX12_word_136
          · skip
            rw [← Int32.toInt_inj, ti_59] at c_777
            refine lv_aload_n hx hb dX12_word_29 rfl (lv_at hl 0 rfl) ?_
            refine tk_ViP (As := []) (rest := []) (n := 0) hx hb hml hown hU hN hZ (s_X12_sign_k12 l (dC, dI) cI cL cZ cR cG cH Z kd L f_713 hG o0 mo0 ko0) wd_573 wd_574 wd_575 wd_5 wd_576 (by decide +kernel) ⟨Nat.le_of_ble_eq_true rfl, Nat.le_of_ble_eq_true rfl⟩ hK hP hD hS mo0 hfo_720 12 rfl rfl rfl hl.1 rfl (Nat.le_of_ble_eq_true rfl) dX12_word_30 ⟨Nat.le_of_ble_eq_true rfl, Nat.le_of_ble_eq_true rfl⟩ (fun x_778 f_779 H locs hw hP hD hS => ?_)
            obtain ⟨hG, bx_778, hkc_780, hra_781, hfa_782, hpost_783⟩ := hw
            have hfo_785 : f_779 a_3 = .inl (cI, 1560, .inl g_486) := by rw [hkc_780 a_3 (by rw [ka_3]; decide)]; exact hfo_719
            have hfr0 : ∀ b, kd b ≠ 12 → kd b ≠ 576 → f_779 b = f b := fun b q12 q576 => (hkc_780 b q12).trans (hfr0 b q12 q576)
            have hrA12 : ∀ b, kd b = 12 → ∀ j, fldR (f_779 b) j = fldR (f b) j := fun b kb j => (hra_781 b kb j).trans (hrA12 b kb j)
            have hfA12 : ∀ b, kd b = 12 → ∀ j, j ≠ 6 → j ≠ 7 → j ≠ 8 → fldI (f_779 b) j = fldI (f b) j := fun b kb j n6 n7 n8 => (hfa_782 b kb j n6).trans (hfA12 b kb j n6 n7 n8)
            have hT0 : frel kd 576 8 f_779 a_3 := hT0.keep (fun b q => hkc_780 b (by rw [q]; decide))
            obtain ⟨a_787, a_788, a_789, v_790, a_791, v_792, v_793, v_794, v_795, v_796, v_797, v_798, v_799, v_800, v_801, a_802, a_803, a_804, a_805, a_806, a_807, a_808, a_809, v_810, v_811, v_812, v_813, v_814, a_815, v_816, a_817, a_818, v_819, v_820, a_821, v_822, a_823, a_824, v_825, v_826, a_827, a_828, a_829, v_830, a_831, a_832, a_833, a_834, a_835, a_836, a_837, a_838, a_839, v_840, v_841, a_842, hfo_786, ⟨ma_787, ka_787⟩, ⟨ma_788, ka_788⟩, ⟨ma_789, ka_789⟩, bv_790, ⟨ma_791, ka_791⟩, bv_792, bv_793, bv_798, bv_799, bv_800, ⟨ma_802, ka_802⟩, ⟨ma_803, ka_803⟩, ⟨ma_804, ka_804⟩, ⟨ma_805, ka_805⟩, ⟨ma_806, ka_806⟩, ⟨ma_807, ka_807⟩, ⟨ma_808, ka_808⟩, ⟨ma_809, ka_809⟩, bv_810, bv_812, bv_814, ⟨ma_815, ka_815⟩, bv_816, ⟨ma_817, ka_817⟩, ⟨ma_818, ka_818⟩, bv_819, ⟨ma_821, ka_821⟩, bv_822, ⟨ma_823, ka_823⟩, ⟨ma_824, ka_824⟩, bv_825, ⟨ma_827, ka_827⟩, ⟨ma_828, ka_828⟩, ⟨ma_829, ka_829⟩, bv_830, ⟨ma_831, ka_831⟩, ⟨ma_832, ka_832⟩, ⟨ma_833, ka_833⟩, ⟨ma_834, ka_834⟩, ⟨ma_835, ka_835⟩, ⟨ma_836, ka_836⟩, ⟨ma_837, ka_837⟩, ⟨ma_838, ka_838⟩, ⟨ma_839, ka_839⟩, bv_840, ⟨ma_842, ka_842⟩⟩ := un_12 (hG _ mo0) ko0
            have bv_794 : ((-2147483648) ≤ v_794.toInt ∧ v_794.toInt ≤ 2147483647) := ⟨i32_lo _, i32_hi _⟩
            have bv_795 : ((-2147483648) ≤ v_795.toInt ∧ v_795.toInt ≤ 2147483647) := ⟨i32_lo _, i32_hi _⟩
            have bv_796 : ((-2147483648) ≤ v_796.toInt ∧ v_796.toInt ≤ 2147483647) := ⟨i32_lo _, i32_hi _⟩
            have bv_797 : ((-2147483648) ≤ v_797.toInt ∧ v_797.toInt ≤ 2147483647) := ⟨i32_lo _, i32_hi _⟩
            have bv_801 : ((-2147483648) ≤ v_801.toInt ∧ v_801.toInt ≤ 2147483647) := ⟨i32_lo _, i32_hi _⟩
            have bv_811 : ((-2147483648) ≤ v_811.toInt ∧ v_811.toInt ≤ 2147483647) := ⟨i32_lo _, i32_hi _⟩
            have bv_813 : ((-2147483648) ≤ v_813.toInt ∧ v_813.toInt ≤ 2147483647) := ⟨i32_lo _, i32_hi _⟩
            have bv_820 : ((-2147483648) ≤ v_820.toInt ∧ v_820.toInt ≤ 2147483647) := ⟨i32_lo _, i32_hi _⟩
            have bv_826 : ((-2147483648) ≤ v_826.toInt ∧ v_826.toInt ≤ 2147483647) := ⟨i32_lo _, i32_hi _⟩
            have bv_841 : ((-2147483648) ≤ v_841.toInt ∧ v_841.toInt ≤ 2147483647) := ⟨i32_lo _, i32_hi _⟩
            obtain ⟨rfl, rfl, rfl, rfl, rfl, rfl, rfl, rfl, rfl, rfl, rfl, rfl, rfl, rfl, rfl, rfl, rfl, rfl, rfl, rfl, rfl, rfl, rfl, rfl, rfl, rfl, rfl, rfl, rfl, rfl, rfl⟩ := re_12 hfo_1 hfo_786 (hrA12 o0 ko0)
            obtain rfl := ri_12_3 hfo_1 hfo_786 (hfA12 o0 ko0 3 (by decide) (by decide) (by decide))
            obtain rfl := ri_12_5 hfo_1 hfo_786 (hfA12 o0 ko0 5 (by decide) (by decide) (by decide))
            obtain rfl := ri_12_11 hfo_1 hfo_786 (hfA12 o0 ko0 11 (by decide) (by decide) (by decide))
            obtain rfl := ri_12_12 hfo_1 hfo_786 (hfA12 o0 ko0 12 (by decide) (by decide) (by decide))
            obtain rfl := ri_12_13 hfo_1 hfo_786 (hfA12 o0 ko0 13 (by decide) (by decide) (by decide))
            obtain rfl := ri_12_14 hfo_1 hfo_786 (hfA12 o0 ko0 14 (by decide) (by decide) (by decide))
            obtain rfl := ri_12_23 hfo_1 hfo_786 (hfA12 o0 ko0 23 (by decide) (by decide) (by decide))
            obtain rfl := ri_12_25 hfo_1 hfo_786 (hfA12 o0 ko0 25 (by decide) (by decide) (by decide))
            obtain rfl := ri_12_27 hfo_1 hfo_786 (hfA12 o0 ko0 27 (by decide) (by decide) (by decide))
            obtain rfl := ri_12_29 hfo_1 hfo_786 (hfA12 o0 ko0 29 (by decide) (by decide) (by decide))
            obtain rfl := ri_12_32 hfo_1 hfo_786 (hfA12 o0 ko0 32 (by decide) (by decide) (by decide))
            obtain rfl := ri_12_33 hfo_1 hfo_786 (hfA12 o0 ko0 33 (by decide) (by decide) (by decide))
            obtain rfl := ri_12_35 hfo_1 hfo_786 (hfA12 o0 ko0 35 (by decide) (by decide) (by decide))
            obtain rfl := ri_12_38 hfo_1 hfo_786 (hfA12 o0 ko0 38 (by decide) (by decide) (by decide))
            obtain rfl := ri_12_43 hfo_1 hfo_786 (hfA12 o0 ko0 43 (by decide) (by decide) (by decide))
            obtain rfl := ri_12_53 hfo_1 hfo_786 (hfA12 o0 ko0 53 (by decide) (by decide) (by decide))
            have hqhpost_783 := hpost_783 v_727 v_793 (by rw [hfo_720]; rfl) (by rw [hfo_786]; rfl)
            refine lv_istore_n (lv' := [(3, .int x_778), (0, .ref o0), (1, .int p1), (2, .int p2)]) hx hb dX12_word_33 rfl hl (by decide) rfl (fun ls hl => ?_)
            refine lv_iload_n hx hb dX12_word_34 rfl (lv_at hl 0 rfl) ?_
            refine tk_SiP (As := [.int x_778]) (rest := []) (n := 1) hx hb hml hown hU hN hZ (s_X12_isSmall l (dC, dI) cI cL cZ cR cG cH Z kd L f_779 hG x_778) wd_589 wd_590 wd_5 wd_591 (by decide +kernel) ⟨Nat.le_of_ble_eq_true rfl, Nat.le_of_ble_eq_true rfl⟩ hK hP hD hS rfl hl.1 rfl (Nat.le_of_ble_eq_true rfl) dX12_word_35 ⟨Nat.le_of_ble_eq_true rfl, Nat.le_of_ble_eq_true rfl⟩ (fun x_843 f_844 H locs hw hP hD hS => ?_)
            obtain ⟨rfl, bx_843, relx_843⟩ := hw
            refine lv_if_ne (tgt := 51) hx hb dX12_word_38 (by decide) (fun c_846 => ?_) (fun c_846 => ?_)
            · skip
              rw [← Int32.toInt_inj, ti_0] at c_846
              refine lv_aload_n hx hb dX12_word_51 rfl (lv_at hl 1 rfl) ?_
              refine tk_getP (D := (dC, dI)) (ci := 12) (v := .ref a_3) (C := RX12) (T := TX12) (N := 56) hx hb hU inlX12 hown hK hP mo0 hfo_786 rfl 1 (by decide) (hU _ wd_170) (fun _ h9 => h9) rfl dX12_word_52 ?_
              refine lv_iload_n hx hb dX12_word_55 rfl (lv_at hl 0 rfl) ?_
              refine tk_SiP (As := [.ref a_3, .int x_778]) (rest := []) (n := 2) hx hb hml hown hU hN hZ (s_X12_letterIn_a576 l (dC, dI) cI cL cZ cR cG cH Z kd L f_779 hG a_3 ma_3 ka_3 x_778) wd_606 wd_607 wd_5 wd_608 (by decide +kernel) ⟨Nat.le_of_ble_eq_true rfl, Nat.le_of_ble_eq_true rfl⟩ hK hP hD hS rfl hl.1 rfl (Nat.le_of_ble_eq_true rfl) dX12_word_56 ⟨Nat.le_of_ble_eq_true rfl, Nat.le_of_ble_eq_true rfl⟩ (fun x_847 f_848 H locs hw hP hD hS => ?_)
              obtain ⟨rfl, bx_847, hxp_849⟩ := hw
              have hlix_847 := hxp_849 g_486 hfo_785
              refine lv_istore (lv' := [(4, .int x_847), (3, .int x_778), (0, .ref o0), (1, .int p1), (2, .int p2)]) hx hb dX12_word_59 hl (by decide) rfl (fun ls hl => ?_)
              refine lv_iload hx hb dX12_word_61 (lv_at hl 0 rfl) ?_
              refine lv_if_ne (tgt := 76) hx hb dX12_word_63 (by decide) (fun c_851 => ?_) (fun c_851 => ?_)
              · skip
                rw [← Int32.toInt_inj, ti_0] at c_851
                refine lv_aload_n hx hb dX12_word_76 rfl (lv_at hl 2 rfl) ?_
                refine tk_getP (D := (dC, dI)) (ci := 12) (v := .ref a_3) (C := RX12) (T := TX12) (N := 56) hx hb hU inlX12 hown hK hP mo0 hfo_786 rfl 1 (by decide) (hU _ wd_170) (fun _ h9 => h9) rfl dX12_word_77 ?_
                refine lv_iload_n hx hb dX12_word_80 rfl (lv_at hl 3 rfl) ?_
                refine tk_ildP hx hb hK hP 0 ma_3 hfo_785 rfl (vp_in_iff.mpr (by constructor <;> omega)) dX12_word_81 ?_
                refine tk_topi (y := x_487) ex_487.symm ?_
                refine lv_bipush (v := 6) hx hb dX12_word_82 (by decide) ?_
                refine lv_icmp_ne (tgt := 97) hx hb dX12_word_84 (by decide) (fun c_852 => ?_) (fun c_852 => ?_)
                · skip
                  rw [← Int32.toInt_inj, ti_6] at c_852
                  refine lv_aload_n hx hb dX12_word_97 rfl (lv_at hl 2 rfl) ?_
                  refine tk_getP (D := (dC, dI)) (ci := 12) (v := .ref a_3) (C := RX12) (T := TX12) (N := 56) hx hb hU inlX12 hown hK hP mo0 hfo_786 rfl 1 (by decide) (hU _ wd_170) (fun _ h9 => h9) rfl dX12_word_98 ?_
                  refine lv_iload_n hx hb dX12_word_101 rfl (lv_at hl 3 rfl) ?_
                  refine lv_dup2_11 hx hb dX12_word_102 rfl rfl ?_
                  refine tk_ildP hx hb hK hP 0 ma_3 hfo_785 rfl (vp_in_iff.mpr (by constructor <;> omega)) dX12_word_103 ?_
                  refine tk_topi (y := x_487) ex_487.symm ?_
                  refine lv_iconst (v := 1) hx hb dX12_word_104 (by decide) ?_
                  refine lv_iadd hx hb dX12_word_105 ?_
                  refine lv_topi (fun x_853 ex_853 => ?_)
                  have hx_853 : x_853.toInt = x_487.toInt + 1 := by rw [ex_853, ad_I (by rw [ti_1]; omega) (by rw [ti_1]; omega), ti_1]
                  have bx_853 : (2 ≤ x_853.toInt ∧ x_853.toInt ≤ 6) := by constructor <;> omega
                  refine tk_istP hx hb hK hP hD hS 0 ma_3 hfo_785 rfl (vp_in_iff.mpr (by constructor <;> omega)) dX12_word_106 (fun H locs hP hD hS => ?_)
                  have hc9 := cl_I (i := p1) (by omega)
                  obtain ⟨g_854, eqg_854⟩ : ∃ y : Nat → Int32, y = upd g_486 (Int32.toNatClampNeg p1) x_853 := ⟨_, rfl⟩
                  rw [← eqg_854] at hP hD
                  have hbg_854 : wOK g_854 := by rw [eqg_854]; exact ⟨hbg_486.1.up (fun h1 h2 h3 => by exfalso; omega), hbg_486.2.1.up (fun h1 h2 h3 => by exfalso; omega), hbg_486.2.2.1.up (fun h1 h2 h3 => by exfalso; omega), hbg_486.2.2.2.1.up (fun h1 h2 h3 => by exfalso; omega), hbg_486.2.2.2.2.1.up (fun h1 h2 h3 => by exfalso; omega), hbg_486.2.2.2.2.2.1.up (fun h1 h2 h3 => by exfalso; omega), hbg_486.2.2.2.2.2.2.1.up (fun h1 h2 h3 => by exfalso; omega), hbg_486.2.2.2.2.2.2.2.1.up (fun h1 h2 h3 => by exfalso; omega), hbg_486.2.2.2.2.2.2.2.2.1.up (fun h1 h2 h3 => by exfalso; omega), hbg_486.2.2.2.2.2.2.2.2.2.1.up (fun h1 h2 h3 => by exfalso; omega), hbg_486.2.2.2.2.2.2.2.2.2.2.1.up (fun h1 h2 h3 => by constructor <;> omega), hbg_486.2.2.2.2.2.2.2.2.2.2.2.1.up (fun h1 h2 h3 => by constructor <;> omega), hbg_486.2.2.2.2.2.2.2.2.2.2.2.2.1.up (fun h1 h2 h3 => by exfalso; omega), hbg_486.2.2.2.2.2.2.2.2.2.2.2.2.2.1.up (fun h1 h2 h3 => by exfalso; omega), hbg_486.2.2.2.2.2.2.2.2.2.2.2.2.2.2.1.up (fun h1 h2 h3 => by exfalso; omega), hbg_486.2.2.2.2.2.2.2.2.2.2.2.2.2.2.2.up (fun h1 h2 h3 => by exfalso; omega)⟩
                  obtain ⟨f_856, ef_856⟩ : ∃ y : Nat → va_E, y = va_up f_779 a_3 (.inl (cI, 1560, .inl g_854)) := ⟨_, rfl⟩
                  have hP : va_P (dC, dI) vwCl (va_pl L f_856) H := by rw [ef_856]; exact hP
                  have hD : va_D (fun q => q ∈ L) (va_pl L f_856) := by rw [ef_856]; exact hD
                  have hG : GI (okc cI cL cZ cR cG cH L kd) kd L f_856 := by rw [ef_856]; exact hG.set a_3 (mk_576 ka_3 ⟨_, rfl, hbg_854⟩)
                  have hfo_857 : f_856 o0 = .inr (12, [.ref a_2, .ref a_3, .ref a_4, .int v_5, .ref a_6, .int v_7, .int v_793, .int v_794, .int v_795, .int v_796, .int v_797, .int v_13, .int v_14, .int v_15, .int v_16, .ref a_17, .ref a_18, .ref a_19, .ref a_20, .ref a_21, .ref a_22, .ref a_23, .ref a_24, .int v_25, .int v_811, .int v_27, .int v_813, .int v_29, .ref a_30, .int v_31, .ref a_32, .ref a_33, .int v_34, .int v_35, .ref a_36, .int v_37, .ref a_38, .ref a_39, .int v_40, .int v_826, .ref a_42, .ref a_43, .ref a_44, .int v_45, .ref a_46, .ref a_47, .ref a_48, .ref a_49, .ref a_50, .ref a_51, .ref a_52, .ref a_53, .ref a_54, .int v_55, .int v_841, .ref a_57]) := by rw [ef_856, up_ne (kd_ne ka_3 ko0 (by decide))]; exact hfo_786
                  have hfr0 : ∀ b, kd b ≠ 12 → kd b ≠ 576 → f_856 b = f b := fun b q12 q576 => (congrFun ef_856 b).trans ((up_ne (fun e9 => q576 (by rw [e9]; exact ka_3))).trans (hfr0 b q12 q576))
                  have hrA12 : ∀ b, kd b = 12 → ∀ j, fldR (f_856 b) j = fldR (f b) j := fun b kb j => (congrArg (fun x => fldR x j) ((congrFun ef_856 b).trans (up_ne (kd_ne ka_3 kb (by decide))))).trans (hrA12 b kb j)
                  have hfA12 : ∀ b, kd b = 12 → ∀ j, j ≠ 6 → j ≠ 7 → j ≠ 8 → fldI (f_856 b) j = fldI (f b) j := fun b kb j n6 n7 n8 => (congrArg (fun x => fldI x j) ((congrFun ef_856 b).trans (up_ne (kd_ne ka_3 kb (by decide))))).trans (hfA12 b kb j n6 n7 n8)
                  have hT0 : frel kd 576 8 f_856 a_3 := by rw [ef_856]; exact frel.mk ka_3 up_self (by rw [eqg_854]; exact (hT0.get hfo_785).up (hbg_486.2.1 16 (by decide) (by decide) (by decide)).2 (by omega) (by omega) (by omega) (fun h9 => by exfalso; omega))
                  have hfo_858 : f_856 a_3 = .inl (cI, 1560, .inl g_854) := by rw [ef_856]; exact up_self
                  have ql_859 : x_853 = g_854 (Int32.toNatClampNeg p1) := by rw [eqg_854, pk_us]
                  refine lv_aload_n hx hb dX12_word_107 rfl (lv_at hl 2 rfl) ?_
                  refine tk_getP (D := (dC, dI)) (ci := 12) (v := .ref a_3) (C := RX12) (T := TX12) (N := 56) hx hb hU inlX12 hown hK hP mo0 hfo_857 rfl 1 (by decide) (hU _ wd_170) (fun _ h9 => h9) rfl dX12_word_108 ?_
                  refine lv_iload_n hx hb dX12_word_111 rfl (lv_at hl 3 rfl) ?_
                  refine lv_aload_n hx hb dX12_word_112 rfl (lv_at hl 2 rfl) ?_
                  refine tk_getP (D := (dC, dI)) (ci := 12) (v := .ref a_3) (C := RX12) (T := TX12) (N := 56) hx hb hU inlX12 hown hK hP mo0 hfo_857 rfl 1 (by decide) (hU _ wd_170) (fun _ h9 => h9) rfl dX12_word_113 ?_
                  refine lv_iload_n hx hb dX12_word_116 rfl (lv_at hl 3 rfl) ?_
                  refine tk_ildP hx hb hK hP 0 ma_3 hfo_858 rfl (vp_in_iff.mpr (by constructor <;> omega)) dX12_word_117 ?_
                  refine tk_topi (y := x_853) ql_859.symm ?_
                  refine lv_iadd hx hb dX12_word_118 ?_
                  refine lv_topi (fun x_860 ex_860 => ?_)
                  have hx_860 : x_860.toInt = p1.toInt + x_853.toInt := by rw [ex_860, ad_I (by omega) (by omega)]
                  have bx_860 : (62 ≤ x_860.toInt ∧ x_860.toInt ≤ 218) := by constructor <;> omega
                  refine lv_iload hx hb dX12_word_119 (lv_at hl 0 rfl) ?_
                  refine tk_istP hx hb hK hP hD hS 0 ma_3 hfo_858 rfl (vp_in_iff.mpr (by constructor <;> omega)) dX12_word_121 (fun H locs hP hD hS => ?_)
                  have hc9 := cl_I (i := x_860) (by omega)
                  obtain ⟨g_861, eqg_861⟩ : ∃ y : Nat → Int32, y = upd g_854 (Int32.toNatClampNeg x_860) x_847 := ⟨_, rfl⟩
                  rw [← eqg_861] at hP hD
                  have hbg_861 : wOK g_861 := by rw [eqg_861]; exact ⟨hbg_854.1.up (fun h1 h2 h3 => by exfalso; omega), hbg_854.2.1.up (fun h1 h2 h3 => by exfalso; omega), hbg_854.2.2.1.up (fun h1 h2 h3 => by exfalso; omega), hbg_854.2.2.2.1.up (fun h1 h2 h3 => by exfalso; omega), hbg_854.2.2.2.2.1.up (fun h1 h2 h3 => by exfalso; omega), hbg_854.2.2.2.2.2.1.up (fun h1 h2 h3 => by exfalso; omega), hbg_854.2.2.2.2.2.2.1.up (fun h1 h2 h3 => by exfalso; omega), hbg_854.2.2.2.2.2.2.2.1.up (fun h1 h2 h3 => by exfalso; omega), hbg_854.2.2.2.2.2.2.2.2.1.up (fun h1 h2 h3 => by exfalso; omega), hbg_854.2.2.2.2.2.2.2.2.2.1.up (fun h1 h2 h3 => by exfalso; omega), hbg_854.2.2.2.2.2.2.2.2.2.2.1.up (fun h1 h2 h3 => by constructor <;> omega), hbg_854.2.2.2.2.2.2.2.2.2.2.2.1.up (fun h1 h2 h3 => by first | (exfalso; omega) | (constructor <;> omega)), hbg_854.2.2.2.2.2.2.2.2.2.2.2.2.1.up (fun h1 h2 h3 => by exfalso; omega), hbg_854.2.2.2.2.2.2.2.2.2.2.2.2.2.1.up (fun h1 h2 h3 => by exfalso; omega), hbg_854.2.2.2.2.2.2.2.2.2.2.2.2.2.2.1.up (fun h1 h2 h3 => by exfalso; omega), hbg_854.2.2.2.2.2.2.2.2.2.2.2.2.2.2.2.up (fun h1 h2 h3 => by exfalso; omega)⟩
                  obtain ⟨f_863, ef_863⟩ : ∃ y : Nat → va_E, y = va_up f_856 a_3 (.inl (cI, 1560, .inl g_861)) := ⟨_, rfl⟩
                  have hP : va_P (dC, dI) vwCl (va_pl L f_863) H := by rw [ef_863]; exact hP
                  have hD : va_D (fun q => q ∈ L) (va_pl L f_863) := by rw [ef_863]; exact hD
                  have hG : GI (okc cI cL cZ cR cG cH L kd) kd L f_863 := by rw [ef_863]; exact hG.set a_3 (mk_576 ka_3 ⟨_, rfl, hbg_861⟩)
                  have hfo_864 : f_863 o0 = .inr (12, [.ref a_2, .ref a_3, .ref a_4, .int v_5, .ref a_6, .int v_7, .int v_793, .int v_794, .int v_795, .int v_796, .int v_797, .int v_13, .int v_14, .int v_15, .int v_16, .ref a_17, .ref a_18, .ref a_19, .ref a_20, .ref a_21, .ref a_22, .ref a_23, .ref a_24, .int v_25, .int v_811, .int v_27, .int v_813, .int v_29, .ref a_30, .int v_31, .ref a_32, .ref a_33, .int v_34, .int v_35, .ref a_36, .int v_37, .ref a_38, .ref a_39, .int v_40, .int v_826, .ref a_42, .ref a_43, .ref a_44, .int v_45, .ref a_46, .ref a_47, .ref a_48, .ref a_49, .ref a_50, .ref a_51, .ref a_52, .ref a_53, .ref a_54, .int v_55, .int v_841, .ref a_57]) := by rw [ef_863, up_ne (kd_ne ka_3 ko0 (by decide))]; exact hfo_857
                  have hfr0 : ∀ b, kd b ≠ 12 → kd b ≠ 576 → f_863 b = f b := fun b q12 q576 => (congrFun ef_863 b).trans ((up_ne (fun e9 => q576 (by rw [e9]; exact ka_3))).trans (hfr0 b q12 q576))
                  have hrA12 : ∀ b, kd b = 12 → ∀ j, fldR (f_863 b) j = fldR (f b) j := fun b kb j => (congrArg (fun x => fldR x j) ((congrFun ef_863 b).trans (up_ne (kd_ne ka_3 kb (by decide))))).trans (hrA12 b kb j)
                  have hfA12 : ∀ b, kd b = 12 → ∀ j, j ≠ 6 → j ≠ 7 → j ≠ 8 → fldI (f_863 b) j = fldI (f b) j := fun b kb j n6 n7 n8 => (congrArg (fun x => fldI x j) ((congrFun ef_863 b).trans (up_ne (kd_ne ka_3 kb (by decide))))).trans (hfA12 b kb j n6 n7 n8)
                  have hT0 : frel kd 576 8 f_863 a_3 := by rw [ef_863]; exact frel.mk ka_3 up_self (by rw [eqg_861]; exact (hT0.get hfo_858).up (hbg_854.2.1 16 (by decide) (by decide) (by decide)).2 (by omega) (by omega) (by omega) (fun h9 => by exfalso; omega))
                  have hfo_865 : f_863 a_3 = .inl (cI, 1560, .inl g_861) := by rw [ef_863]; exact up_self
                  have ql_866 : x_847 = g_861 (Int32.toNatClampNeg x_860) := by rw [eqg_861, pk_us]
                  have hclc_867 : (0 ≤ v_793.toInt ∧ v_793.toInt ≤ 599) := by constructor <;> omega
                  refine lv_aload_n hx hb dX12_word_122 rfl (lv_at hl 2 rfl) ?_
                  refine lv_dup hx hb dX12_word_123 rfl ?_
                  refine tk_getP (D := (dC, dI)) (ci := 12) (v := .int v_793) (C := RX12) (T := TX12) (N := 56) hx hb hU inlX12 hown hK hP mo0 hfo_864 rfl 6 (by decide) (hU _ wd_566) (fun _ h9 => h9) rfl dX12_word_124 ?_
                  refine lv_iconst (v := 1) hx hb dX12_word_127 (by decide) ?_
                  refine lv_iadd hx hb dX12_word_128 ?_
                  refine lv_topi (fun x_868 ex_868 => ?_)
                  have hx_868 : x_868.toInt = v_793.toInt + 1 := by rw [ex_868, ad_I (by rw [ti_1]; omega) (by rw [ti_1]; omega), ti_1]
                  have bx_868 : (1 ≤ x_868.toInt ∧ x_868.toInt ≤ 600) := by constructor <;> omega
                  refine tk_putP (D := (dC, dI)) (ci := 12) (v := .int x_868) (ty := .int) (C := RX12) (T := TX12) (N := 56) hx hb hU inlX12 tyX12 tyX12_ok nmX12 hown hK hP hD hS mo0 hfo_864 rfl 6 (by decide) (hU _ wd_566) (fun _ h9 => h9) rfl (by decide +kernel) rfl rfl (Nat.le_of_ble_eq_true rfl) dX12_word_129 (fun H locs hP hD hS => ?_)
                  obtain ⟨f_870, ef_870⟩ : ∃ y : Nat → va_E, y = va_up f_863 o0 (.inr (12, [.ref a_2, .ref a_3, .ref a_4, .int v_5, .ref a_6, .int v_7, .int x_868, .int v_794, .int v_795, .int v_796, .int v_797, .int v_13, .int v_14, .int v_15, .int v_16, .ref a_17, .ref a_18, .ref a_19, .ref a_20, .ref a_21, .ref a_22, .ref a_23, .ref a_24, .int v_25, .int v_811, .int v_27, .int v_813, .int v_29, .ref a_30, .int v_31, .ref a_32, .ref a_33, .int v_34, .int v_35, .ref a_36, .int v_37, .ref a_38, .ref a_39, .int v_40, .int v_826, .ref a_42, .ref a_43, .ref a_44, .int v_45, .ref a_46, .ref a_47, .ref a_48, .ref a_49, .ref a_50, .ref a_51, .ref a_52, .ref a_53, .ref a_54, .int v_55, .int v_841, .ref a_57])) := ⟨_, rfl⟩
                  have hP : va_P (dC, dI) vwCl (va_pl L f_870) H := by rw [ef_870]; exact hP
                  have hD : va_D (fun q => q ∈ L) (va_pl L f_870) := by rw [ef_870]; exact hD
                  have hG : GI (okc cI cL cZ cR cG cH L kd) kd L f_870 := by rw [ef_870]; exact hG.set o0 (mk_12 ko0 ⟨a_2, a_3, a_4, v_5, a_6, v_7, x_868, v_794, v_795, v_796, v_797, v_13, v_14, v_15, v_16, a_17, a_18, a_19, a_20, a_21, a_22, a_23, a_24, v_25, v_811, v_27, v_813, v_29, a_30, v_31, a_32, a_33, v_34, v_35, a_36, v_37, a_38, a_39, v_40, v_826, a_42, a_43, a_44, v_45, a_46, a_47, a_48, a_49, a_50, a_51, a_52, a_53, a_54, v_55, v_841, a_57, rfl, ⟨ma_2, ka_2⟩, ⟨ma_3, ka_3⟩, ⟨ma_4, ka_4⟩, (by constructor <;> omega), ⟨ma_6, ka_6⟩, (by constructor <;> omega), (by constructor <;> omega), (by constructor <;> omega), (by constructor <;> omega), (by constructor <;> omega), ⟨ma_17, ka_17⟩, ⟨ma_18, ka_18⟩, ⟨ma_19, ka_19⟩, ⟨ma_20, ka_20⟩, ⟨ma_21, ka_21⟩, ⟨ma_22, ka_22⟩, ⟨ma_23, ka_23⟩, ⟨ma_24, ka_24⟩, (by constructor <;> omega), (by constructor <;> omega), (by constructor <;> omega), ⟨ma_30, ka_30⟩, (by constructor <;> omega), ⟨ma_32, ka_32⟩, ⟨ma_33, ka_33⟩, (by constructor <;> omega), ⟨ma_36, ka_36⟩, (by constructor <;> omega), ⟨ma_38, ka_38⟩, ⟨ma_39, ka_39⟩, (by constructor <;> omega), ⟨ma_42, ka_42⟩, ⟨ma_43, ka_43⟩, ⟨ma_44, ka_44⟩, (by constructor <;> omega), ⟨ma_46, ka_46⟩, ⟨ma_47, ka_47⟩, ⟨ma_48, ka_48⟩, ⟨ma_49, ka_49⟩, ⟨ma_50, ka_50⟩, ⟨ma_51, ka_51⟩, ⟨ma_52, ka_52⟩, ⟨ma_53, ka_53⟩, ⟨ma_54, ka_54⟩, (by constructor <;> omega), ⟨ma_57, ka_57⟩⟩)
                  have hfo_871 : f_870 a_3 = .inl (cI, 1560, .inl g_861) := by rw [ef_870, up_ne (kd_ne ko0 ka_3 (by decide))]; exact hfo_865
                  have hfr0 : ∀ b, kd b ≠ 12 → kd b ≠ 576 → f_870 b = f b := fun b q12 q576 => (congrFun ef_870 b).trans ((up_ne (fun e9 => q12 (by rw [e9]; exact ko0))).trans (hfr0 b q12 q576))
                  have hrA12 : ∀ b, kd b = 12 → ∀ j, fldR (f_870 b) j = fldR (f b) j := fun b kb j => ((congrArg (fun x => fldR x j) (congrFun ef_870 b)).trans (fra_up (fun j => by rw [hfo_864]; exact fr_set (k := 6) rfl rfl j) j b)).trans (hrA12 b kb j)
                  have hfA12 : ∀ b, kd b = 12 → ∀ j, j ≠ 6 → j ≠ 7 → j ≠ 8 → fldI (f_870 b) j = fldI (f b) j := fun b kb j n6 n7 n8 => ((congrArg (fun x => fldI x j) (congrFun ef_870 b)).trans (fia_up (fun h9 => by rw [hfo_864]; exact fi_set (k := 6) rfl h9) n6 b)).trans (hfA12 b kb j n6 n7 n8)
                  have hT0 : frel kd 576 8 f_870 a_3 := by rw [ef_870]; exact hT0.keep (fun b q => up_ne (kd_ne ko0 q (by decide)))
                  have hfo_872 : f_870 o0 = .inr (12, [.ref a_2, .ref a_3, .ref a_4, .int v_5, .ref a_6, .int v_7, .int x_868, .int v_794, .int v_795, .int v_796, .int v_797, .int v_13, .int v_14, .int v_15, .int v_16, .ref a_17, .ref a_18, .ref a_19, .ref a_20, .ref a_21, .ref a_22, .ref a_23, .ref a_24, .int v_25, .int v_811, .int v_27, .int v_813, .int v_29, .ref a_30, .int v_31, .ref a_32, .ref a_33, .int v_34, .int v_35, .ref a_36, .int v_37, .ref a_38, .ref a_39, .int v_40, .int v_826, .ref a_42, .ref a_43, .ref a_44, .int v_45, .ref a_46, .ref a_47, .ref a_48, .ref a_49, .ref a_50, .ref a_51, .ref a_52, .ref a_53, .ref a_54, .int v_55, .int v_841, .ref a_57]) := by rw [ef_870]; exact up_self
                  refine lv_goto (tgt := 7) hx hb dX12_word_132 (by decide) ?_
                  exact ih_hloop_71 f_870 hG _ _ hP hS hD hfr0 hrA12 hfA12 hT0 x_868 (by rw [hfo_872]; rfl) (by omega) (by omega) (by omega) ls (lv_sub hl [2, 3, 4] rfl)
                · skip
                  rw [← Int32.toInt_inj, ti_6] at c_852
                  refine lv_aload_n hx hb dX12_word_87 rfl (lv_at hl 2 rfl) ?_
                  refine lv_iconst (v := 3) hx hb dX12_word_88 (by decide) ?_
                  refine lv_aload_n hx hb dX12_word_89 rfl (lv_at hl 2 rfl) ?_
                  refine tk_getP (D := (dC, dI)) (ci := 12) (v := .int v_793) (C := RX12) (T := TX12) (N := 56) hx hb hU inlX12 hown hK hP mo0 hfo_786 rfl 6 (by decide) (hU _ wd_566) (fun _ h9 => h9) rfl dX12_word_90 ?_
                  refine tk_ViP (As := [.int 3, .int v_793]) (rest := []) (n := 2) hx hb hml hown hU hN hZ (s_X12_bad_k12 l (dC, dI) cI cL cZ cR cG cH Z kd L f_779 hG o0 mo0 ko0 3 v_793) wd_602 wd_603 wd_604 wd_5 wd_605 (by decide +kernel) ⟨Nat.le_of_ble_eq_true rfl, Nat.le_of_ble_eq_true rfl⟩ hK hP hD hS mo0 hfo_786 12 rfl rfl rfl hl.1 rfl (Nat.le_of_ble_eq_true rfl) dX12_word_93 ⟨Nat.le_of_ble_eq_true rfl, Nat.le_of_ble_eq_true rfl⟩ (fun x_873 f_874 H locs hw hP hD hS => ?_)
                  obtain ⟨hG, bx_873, hkc_875, hra_876, hfa_877⟩ := hw
                  have hfo_879 : f_874 a_3 = .inl (cI, 1560, .inl g_486) := by rw [hkc_875 a_3 (by rw [ka_3]; decide)]; exact hfo_785
                  have hfr0 : ∀ b, kd b ≠ 12 → kd b ≠ 576 → f_874 b = f b := fun b q12 q576 => (hkc_875 b q12).trans (hfr0 b q12 q576)
                  have hrA12 : ∀ b, kd b = 12 → ∀ j, fldR (f_874 b) j = fldR (f b) j := fun b kb j => (hra_876 b kb j).trans (hrA12 b kb j)
                  have hfA12 : ∀ b, kd b = 12 → ∀ j, j ≠ 6 → j ≠ 7 → j ≠ 8 → fldI (f_874 b) j = fldI (f b) j := fun b kb j n6 n7 n8 => (hfa_877 b kb j n7 n8).trans (hfA12 b kb j n6 n7 n8)
                  have hT0 : frel kd 576 8 f_874 a_3 := hT0.keep (fun b q => hkc_875 b (by rw [q]; decide))
                  obtain ⟨a_881, a_882, a_883, v_884, a_885, v_886, v_887, v_888, v_889, v_890, v_891, v_892, v_893, v_894, v_895, a_896, a_897, a_898, a_899, a_900, a_901, a_902, a_903, v_904, v_905, v_906, v_907, v_908, a_909, v_910, a_911, a_912, v_913, v_914, a_915, v_916, a_917, a_918, v_919, v_920, a_921, a_922, a_923, v_924, a_925, a_926, a_927, a_928, a_929, a_930, a_931, a_932, a_933, v_934, v_935, a_936, hfo_880, ⟨ma_881, ka_881⟩, ⟨ma_882, ka_882⟩, ⟨ma_883, ka_883⟩, bv_884, ⟨ma_885, ka_885⟩, bv_886, bv_887, bv_892, bv_893, bv_894, ⟨ma_896, ka_896⟩, ⟨ma_897, ka_897⟩, ⟨ma_898, ka_898⟩, ⟨ma_899, ka_899⟩, ⟨ma_900, ka_900⟩, ⟨ma_901, ka_901⟩, ⟨ma_902, ka_902⟩, ⟨ma_903, ka_903⟩, bv_904, bv_906, bv_908, ⟨ma_909, ka_909⟩, bv_910, ⟨ma_911, ka_911⟩, ⟨ma_912, ka_912⟩, bv_913, ⟨ma_915, ka_915⟩, bv_916, ⟨ma_917, ka_917⟩, ⟨ma_918, ka_918⟩, bv_919, ⟨ma_921, ka_921⟩, ⟨ma_922, ka_922⟩, ⟨ma_923, ka_923⟩, bv_924, ⟨ma_925, ka_925⟩, ⟨ma_926, ka_926⟩, ⟨ma_927, ka_927⟩, ⟨ma_928, ka_928⟩, ⟨ma_929, ka_929⟩, ⟨ma_930, ka_930⟩, ⟨ma_931, ka_931⟩, ⟨ma_932, ka_932⟩, ⟨ma_933, ka_933⟩, bv_934, ⟨ma_936, ka_936⟩⟩ := un_12 (hG _ mo0) ko0
                  have bv_888 : ((-2147483648) ≤ v_888.toInt ∧ v_888.toInt ≤ 2147483647) := ⟨i32_lo _, i32_hi _⟩
                  have bv_889 : ((-2147483648) ≤ v_889.toInt ∧ v_889.toInt ≤ 2147483647) := ⟨i32_lo _, i32_hi _⟩
                  have bv_890 : ((-2147483648) ≤ v_890.toInt ∧ v_890.toInt ≤ 2147483647) := ⟨i32_lo _, i32_hi _⟩
                  have bv_891 : ((-2147483648) ≤ v_891.toInt ∧ v_891.toInt ≤ 2147483647) := ⟨i32_lo _, i32_hi _⟩
                  have bv_895 : ((-2147483648) ≤ v_895.toInt ∧ v_895.toInt ≤ 2147483647) := ⟨i32_lo _, i32_hi _⟩
                  have bv_905 : ((-2147483648) ≤ v_905.toInt ∧ v_905.toInt ≤ 2147483647) := ⟨i32_lo _, i32_hi _⟩
                  have bv_907 : ((-2147483648) ≤ v_907.toInt ∧ v_907.toInt ≤ 2147483647) := ⟨i32_lo _, i32_hi _⟩
                  have bv_914 : ((-2147483648) ≤ v_914.toInt ∧ v_914.toInt ≤ 2147483647) := ⟨i32_lo _, i32_hi _⟩
                  have bv_920 : ((-2147483648) ≤ v_920.toInt ∧ v_920.toInt ≤ 2147483647) := ⟨i32_lo _, i32_hi _⟩
                  have bv_935 : ((-2147483648) ≤ v_935.toInt ∧ v_935.toInt ≤ 2147483647) := ⟨i32_lo _, i32_hi _⟩
                  obtain ⟨rfl, rfl, rfl, rfl, rfl, rfl, rfl, rfl, rfl, rfl, rfl, rfl, rfl, rfl, rfl, rfl, rfl, rfl, rfl, rfl, rfl, rfl, rfl, rfl, rfl, rfl, rfl, rfl, rfl, rfl, rfl⟩ := re_12 hfo_1 hfo_880 (hrA12 o0 ko0)
                  obtain rfl := ri_12_3 hfo_1 hfo_880 (hfA12 o0 ko0 3 (by decide) (by decide) (by decide))
                  obtain rfl := ri_12_5 hfo_1 hfo_880 (hfA12 o0 ko0 5 (by decide) (by decide) (by decide))
                  obtain rfl := ri_12_11 hfo_1 hfo_880 (hfA12 o0 ko0 11 (by decide) (by decide) (by decide))
                  obtain rfl := ri_12_12 hfo_1 hfo_880 (hfA12 o0 ko0 12 (by decide) (by decide) (by decide))
                  obtain rfl := ri_12_13 hfo_1 hfo_880 (hfA12 o0 ko0 13 (by decide) (by decide) (by decide))
                  obtain rfl := ri_12_14 hfo_1 hfo_880 (hfA12 o0 ko0 14 (by decide) (by decide) (by decide))
                  obtain rfl := ri_12_23 hfo_1 hfo_880 (hfA12 o0 ko0 23 (by decide) (by decide) (by decide))
                  obtain rfl := ri_12_25 hfo_1 hfo_880 (hfA12 o0 ko0 25 (by decide) (by decide) (by decide))
                  obtain rfl := ri_12_27 hfo_1 hfo_880 (hfA12 o0 ko0 27 (by decide) (by decide) (by decide))
                  obtain rfl := ri_12_29 hfo_1 hfo_880 (hfA12 o0 ko0 29 (by decide) (by decide) (by decide))
                  obtain rfl := ri_12_32 hfo_1 hfo_880 (hfA12 o0 ko0 32 (by decide) (by decide) (by decide))
                  obtain rfl := ri_12_33 hfo_1 hfo_880 (hfA12 o0 ko0 33 (by decide) (by decide) (by decide))
                  obtain rfl := ri_12_35 hfo_1 hfo_880 (hfA12 o0 ko0 35 (by decide) (by decide) (by decide))
                  obtain rfl := ri_12_38 hfo_1 hfo_880 (hfA12 o0 ko0 38 (by decide) (by decide) (by decide))
                  obtain rfl := ri_12_43 hfo_1 hfo_880 (hfA12 o0 ko0 43 (by decide) (by decide) (by decide))
                  obtain rfl := ri_12_53 hfo_1 hfo_880 (hfA12 o0 ko0 53 (by decide) (by decide) (by decide))
                  obtain rfl := ri_12_6 hfo_786 hfo_880 (hfa_877 o0 ko0 6 (by decide) (by decide))
                  exact W.zret (v := x_873) (ty := .boolean) hx hb hr (zb_n (by constructor <;> omega)) (fun t ht hW => ⟨⟨x_873, f_874, rfl, ⟨hG, (by constructor <;> omega), hfr0, hrA12, hfA12, (by intro w6 z6 e6 d6; rw [hfo_1] at e6; rw [hfo_880] at d6; obtain rfl := Option.some.inj e6; obtain rfl := Option.some.inj d6; omega), (fun d9 h9 => by rw [hfo_880] at h9; obtain rfl := Option.some.inj h9; exact hT0)⟩, by rw [ht]; exact hP, va_K.moved hW.alike hK, pl_in hD⟩, hS.F ht⟩) hS.2.2 dX12_word_96
              · skip
                rw [← Int32.toInt_inj, ti_0] at c_851
                refine lv_aload_n hx hb dX12_word_66 rfl (lv_at hl 2 rfl) ?_
                refine lv_iconst (v := 2) hx hb dX12_word_67 (by decide) ?_
                refine lv_aload_n hx hb dX12_word_68 rfl (lv_at hl 2 rfl) ?_
                refine tk_getP (D := (dC, dI)) (ci := 12) (v := .int v_793) (C := RX12) (T := TX12) (N := 56) hx hb hU inlX12 hown hK hP mo0 hfo_786 rfl 6 (by decide) (hU _ wd_566) (fun _ h9 => h9) rfl dX12_word_69 ?_
                refine tk_ViP (As := [.int 2, .int v_793]) (rest := []) (n := 2) hx hb hml hown hU hN hZ (s_X12_bad_k12 l (dC, dI) cI cL cZ cR cG cH Z kd L f_779 hG o0 mo0 ko0 2 v_793) wd_602 wd_603 wd_604 wd_5 wd_605 (by decide +kernel) ⟨Nat.le_of_ble_eq_true rfl, Nat.le_of_ble_eq_true rfl⟩ hK hP hD hS mo0 hfo_786 12 rfl rfl rfl hl.1 rfl (Nat.le_of_ble_eq_true rfl) dX12_word_72 ⟨Nat.le_of_ble_eq_true rfl, Nat.le_of_ble_eq_true rfl⟩ (fun x_937 f_938 H locs hw hP hD hS => ?_)
                obtain ⟨hG, bx_937, hkc_939, hra_940, hfa_941⟩ := hw
                have hfo_943 : f_938 a_3 = .inl (cI, 1560, .inl g_486) := by rw [hkc_939 a_3 (by rw [ka_3]; decide)]; exact hfo_785
                have hfr0 : ∀ b, kd b ≠ 12 → kd b ≠ 576 → f_938 b = f b := fun b q12 q576 => (hkc_939 b q12).trans (hfr0 b q12 q576)
                have hrA12 : ∀ b, kd b = 12 → ∀ j, fldR (f_938 b) j = fldR (f b) j := fun b kb j => (hra_940 b kb j).trans (hrA12 b kb j)
                have hfA12 : ∀ b, kd b = 12 → ∀ j, j ≠ 6 → j ≠ 7 → j ≠ 8 → fldI (f_938 b) j = fldI (f b) j := fun b kb j n6 n7 n8 => (hfa_941 b kb j n7 n8).trans (hfA12 b kb j n6 n7 n8)
                have hT0 : frel kd 576 8 f_938 a_3 := hT0.keep (fun b q => hkc_939 b (by rw [q]; decide))
                obtain ⟨a_945, a_946, a_947, v_948, a_949, v_950, v_951, v_952, v_953, v_954, v_955, v_956, v_957, v_958, v_959, a_960, a_961, a_962, a_963, a_964, a_965, a_966, a_967, v_968, v_969, v_970, v_971, v_972, a_973, v_974, a_975, a_976, v_977, v_978, a_979, v_980, a_981, a_982, v_983, v_984, a_985, a_986, a_987, v_988, a_989, a_990, a_991, a_992, a_993, a_994, a_995, a_996, a_997, v_998, v_999, a_1000, hfo_944, ⟨ma_945, ka_945⟩, ⟨ma_946, ka_946⟩, ⟨ma_947, ka_947⟩, bv_948, ⟨ma_949, ka_949⟩, bv_950, bv_951, bv_956, bv_957, bv_958, ⟨ma_960, ka_960⟩, ⟨ma_961, ka_961⟩, ⟨ma_962, ka_962⟩, ⟨ma_963, ka_963⟩, ⟨ma_964, ka_964⟩, ⟨ma_965, ka_965⟩, ⟨ma_966, ka_966⟩, ⟨ma_967, ka_967⟩, bv_968, bv_970, bv_972, ⟨ma_973, ka_973⟩, bv_974, ⟨ma_975, ka_975⟩, ⟨ma_976, ka_976⟩, bv_977, ⟨ma_979, ka_979⟩, bv_980, ⟨ma_981, ka_981⟩, ⟨ma_982, ka_982⟩, bv_983, ⟨ma_985, ka_985⟩, ⟨ma_986, ka_986⟩, ⟨ma_987, ka_987⟩, bv_988, ⟨ma_989, ka_989⟩, ⟨ma_990, ka_990⟩, ⟨ma_991, ka_991⟩, ⟨ma_992, ka_992⟩, ⟨ma_993, ka_993⟩, ⟨ma_994, ka_994⟩, ⟨ma_995, ka_995⟩, ⟨ma_996, ka_996⟩, ⟨ma_997, ka_997⟩, bv_998, ⟨ma_1000, ka_1000⟩⟩ := un_12 (hG _ mo0) ko0
                have bv_952 : ((-2147483648) ≤ v_952.toInt ∧ v_952.toInt ≤ 2147483647) := ⟨i32_lo _, i32_hi _⟩
                have bv_953 : ((-2147483648) ≤ v_953.toInt ∧ v_953.toInt ≤ 2147483647) := ⟨i32_lo _, i32_hi _⟩
                have bv_954 : ((-2147483648) ≤ v_954.toInt ∧ v_954.toInt ≤ 2147483647) := ⟨i32_lo _, i32_hi _⟩
                have bv_955 : ((-2147483648) ≤ v_955.toInt ∧ v_955.toInt ≤ 2147483647) := ⟨i32_lo _, i32_hi _⟩
                have bv_959 : ((-2147483648) ≤ v_959.toInt ∧ v_959.toInt ≤ 2147483647) := ⟨i32_lo _, i32_hi _⟩
                have bv_969 : ((-2147483648) ≤ v_969.toInt ∧ v_969.toInt ≤ 2147483647) := ⟨i32_lo _, i32_hi _⟩
                have bv_971 : ((-2147483648) ≤ v_971.toInt ∧ v_971.toInt ≤ 2147483647) := ⟨i32_lo _, i32_hi _⟩
                have bv_978 : ((-2147483648) ≤ v_978.toInt ∧ v_978.toInt ≤ 2147483647) := ⟨i32_lo _, i32_hi _⟩
                have bv_984 : ((-2147483648) ≤ v_984.toInt ∧ v_984.toInt ≤ 2147483647) := ⟨i32_lo _, i32_hi _⟩
                have bv_999 : ((-2147483648) ≤ v_999.toInt ∧ v_999.toInt ≤ 2147483647) := ⟨i32_lo _, i32_hi _⟩
                obtain ⟨rfl, rfl, rfl, rfl, rfl, rfl, rfl, rfl, rfl, rfl, rfl, rfl, rfl, rfl, rfl, rfl, rfl, rfl, rfl, rfl, rfl, rfl, rfl, rfl, rfl, rfl, rfl, rfl, rfl, rfl, rfl⟩ := re_12 hfo_1 hfo_944 (hrA12 o0 ko0)
                obtain rfl := ri_12_3 hfo_1 hfo_944 (hfA12 o0 ko0 3 (by decide) (by decide) (by decide))
                obtain rfl := ri_12_5 hfo_1 hfo_944 (hfA12 o0 ko0 5 (by decide) (by decide) (by decide))
                obtain rfl := ri_12_11 hfo_1 hfo_944 (hfA12 o0 ko0 11 (by decide) (by decide) (by decide))
                obtain rfl := ri_12_12 hfo_1 hfo_944 (hfA12 o0 ko0 12 (by decide) (by decide) (by decide))
                obtain rfl := ri_12_13 hfo_1 hfo_944 (hfA12 o0 ko0 13 (by decide) (by decide) (by decide))
                obtain rfl := ri_12_14 hfo_1 hfo_944 (hfA12 o0 ko0 14 (by decide) (by decide) (by decide))
                obtain rfl := ri_12_23 hfo_1 hfo_944 (hfA12 o0 ko0 23 (by decide) (by decide) (by decide))
                obtain rfl := ri_12_25 hfo_1 hfo_944 (hfA12 o0 ko0 25 (by decide) (by decide) (by decide))
                obtain rfl := ri_12_27 hfo_1 hfo_944 (hfA12 o0 ko0 27 (by decide) (by decide) (by decide))
                obtain rfl := ri_12_29 hfo_1 hfo_944 (hfA12 o0 ko0 29 (by decide) (by decide) (by decide))
                obtain rfl := ri_12_32 hfo_1 hfo_944 (hfA12 o0 ko0 32 (by decide) (by decide) (by decide))
                obtain rfl := ri_12_33 hfo_1 hfo_944 (hfA12 o0 ko0 33 (by decide) (by decide) (by decide))
                obtain rfl := ri_12_35 hfo_1 hfo_944 (hfA12 o0 ko0 35 (by decide) (by decide) (by decide))
                obtain rfl := ri_12_38 hfo_1 hfo_944 (hfA12 o0 ko0 38 (by decide) (by decide) (by decide))
                obtain rfl := ri_12_43 hfo_1 hfo_944 (hfA12 o0 ko0 43 (by decide) (by decide) (by decide))
                obtain rfl := ri_12_53 hfo_1 hfo_944 (hfA12 o0 ko0 53 (by decide) (by decide) (by decide))
                obtain rfl := ri_12_6 hfo_786 hfo_944 (hfa_941 o0 ko0 6 (by decide) (by decide))
                exact W.zret (v := x_937) (ty := .boolean) hx hb hr (zb_n (by constructor <;> omega)) (fun t ht hW => ⟨⟨x_937, f_938, rfl, ⟨hG, (by constructor <;> omega), hfr0, hrA12, hfA12, (by intro w6 z6 e6 d6; rw [hfo_1] at e6; rw [hfo_944] at d6; obtain rfl := Option.some.inj e6; obtain rfl := Option.some.inj d6; omega), (fun d9 h9 => by rw [hfo_944] at h9; obtain rfl := Option.some.inj h9; exact hT0)⟩, by rw [ht]; exact hP, va_K.moved hW.alike hK, pl_in hD⟩, hS.F ht⟩) hS.2.2 dX12_word_75
            · skip
              rw [← Int32.toInt_inj, ti_0] at c_846
              refine lv_aload_n hx hb dX12_word_41 rfl (lv_at hl 1 rfl) ?_
              refine lv_iconst (v := 1) hx hb dX12_word_42 (by decide) ?_
              refine lv_aload_n hx hb dX12_word_43 rfl (lv_at hl 1 rfl) ?_
              refine tk_getP (D := (dC, dI)) (ci := 12) (v := .int v_793) (C := RX12) (T := TX12) (N := 56) hx hb hU inlX12 hown hK hP mo0 hfo_786 rfl 6 (by decide) (hU _ wd_566) (fun _ h9 => h9) rfl dX12_word_44 ?_
              refine tk_ViP (As := [.int 1, .int v_793]) (rest := []) (n := 2) hx hb hml hown hU hN hZ (s_X12_bad_k12 l (dC, dI) cI cL cZ cR cG cH Z kd L f_779 hG o0 mo0 ko0 1 v_793) wd_602 wd_603 wd_604 wd_5 wd_605 (by decide +kernel) ⟨Nat.le_of_ble_eq_true rfl, Nat.le_of_ble_eq_true rfl⟩ hK hP hD hS mo0 hfo_786 12 rfl rfl rfl hl.1 rfl (Nat.le_of_ble_eq_true rfl) dX12_word_47 ⟨Nat.le_of_ble_eq_true rfl, Nat.le_of_ble_eq_true rfl⟩ (fun x_1001 f_1002 H locs hw hP hD hS => ?_)
              obtain ⟨hG, bx_1001, hkc_1003, hra_1004, hfa_1005⟩ := hw
              have hfo_1007 : f_1002 a_3 = .inl (cI, 1560, .inl g_486) := by rw [hkc_1003 a_3 (by rw [ka_3]; decide)]; exact hfo_785
              have hfr0 : ∀ b, kd b ≠ 12 → kd b ≠ 576 → f_1002 b = f b := fun b q12 q576 => (hkc_1003 b q12).trans (hfr0 b q12 q576)
              have hrA12 : ∀ b, kd b = 12 → ∀ j, fldR (f_1002 b) j = fldR (f b) j := fun b kb j => (hra_1004 b kb j).trans (hrA12 b kb j)
              have hfA12 : ∀ b, kd b = 12 → ∀ j, j ≠ 6 → j ≠ 7 → j ≠ 8 → fldI (f_1002 b) j = fldI (f b) j := fun b kb j n6 n7 n8 => (hfa_1005 b kb j n7 n8).trans (hfA12 b kb j n6 n7 n8)
              have hT0 : frel kd 576 8 f_1002 a_3 := hT0.keep (fun b q => hkc_1003 b (by rw [q]; decide))
              obtain ⟨a_1009, a_1010, a_1011, v_1012, a_1013, v_1014, v_1015, v_1016, v_1017, v_1018, v_1019, v_1020, v_1021, v_1022, v_1023, a_1024, a_1025, a_1026, a_1027, a_1028, a_1029, a_1030, a_1031, v_1032, v_1033, v_1034, v_1035, v_1036, a_1037, v_1038, a_1039, a_1040, v_1041, v_1042, a_1043, v_1044, a_1045, a_1046, v_1047, v_1048, a_1049, a_1050, a_1051, v_1052, a_1053, a_1054, a_1055, a_1056, a_1057, a_1058, a_1059, a_1060, a_1061, v_1062, v_1063, a_1064, hfo_1008, ⟨ma_1009, ka_1009⟩, ⟨ma_1010, ka_1010⟩, ⟨ma_1011, ka_1011⟩, bv_1012, ⟨ma_1013, ka_1013⟩, bv_1014, bv_1015, bv_1020, bv_1021, bv_1022, ⟨ma_1024, ka_1024⟩, ⟨ma_1025, ka_1025⟩, ⟨ma_1026, ka_1026⟩, ⟨ma_1027, ka_1027⟩, ⟨ma_1028, ka_1028⟩, ⟨ma_1029, ka_1029⟩, ⟨ma_1030, ka_1030⟩, ⟨ma_1031, ka_1031⟩, bv_1032, bv_1034, bv_1036, ⟨ma_1037, ka_1037⟩, bv_1038, ⟨ma_1039, ka_1039⟩, ⟨ma_1040, ka_1040⟩, bv_1041, ⟨ma_1043, ka_1043⟩, bv_1044, ⟨ma_1045, ka_1045⟩, ⟨ma_1046, ka_1046⟩, bv_1047, ⟨ma_1049, ka_1049⟩, ⟨ma_1050, ka_1050⟩, ⟨ma_1051, ka_1051⟩, bv_1052, ⟨ma_1053, ka_1053⟩, ⟨ma_1054, ka_1054⟩, ⟨ma_1055, ka_1055⟩, ⟨ma_1056, ka_1056⟩, ⟨ma_1057, ka_1057⟩, ⟨ma_1058, ka_1058⟩, ⟨ma_1059, ka_1059⟩, ⟨ma_1060, ka_1060⟩, ⟨ma_1061, ka_1061⟩, bv_1062, ⟨ma_1064, ka_1064⟩⟩ := un_12 (hG _ mo0) ko0
              have bv_1016 : ((-2147483648) ≤ v_1016.toInt ∧ v_1016.toInt ≤ 2147483647) := ⟨i32_lo _, i32_hi _⟩
              have bv_1017 : ((-2147483648) ≤ v_1017.toInt ∧ v_1017.toInt ≤ 2147483647) := ⟨i32_lo _, i32_hi _⟩
              have bv_1018 : ((-2147483648) ≤ v_1018.toInt ∧ v_1018.toInt ≤ 2147483647) := ⟨i32_lo _, i32_hi _⟩
              have bv_1019 : ((-2147483648) ≤ v_1019.toInt ∧ v_1019.toInt ≤ 2147483647) := ⟨i32_lo _, i32_hi _⟩
              have bv_1023 : ((-2147483648) ≤ v_1023.toInt ∧ v_1023.toInt ≤ 2147483647) := ⟨i32_lo _, i32_hi _⟩
              have bv_1033 : ((-2147483648) ≤ v_1033.toInt ∧ v_1033.toInt ≤ 2147483647) := ⟨i32_lo _, i32_hi _⟩
              have bv_1035 : ((-2147483648) ≤ v_1035.toInt ∧ v_1035.toInt ≤ 2147483647) := ⟨i32_lo _, i32_hi _⟩
              have bv_1042 : ((-2147483648) ≤ v_1042.toInt ∧ v_1042.toInt ≤ 2147483647) := ⟨i32_lo _, i32_hi _⟩
              have bv_1048 : ((-2147483648) ≤ v_1048.toInt ∧ v_1048.toInt ≤ 2147483647) := ⟨i32_lo _, i32_hi _⟩
              have bv_1063 : ((-2147483648) ≤ v_1063.toInt ∧ v_1063.toInt ≤ 2147483647) := ⟨i32_lo _, i32_hi _⟩
              obtain ⟨rfl, rfl, rfl, rfl, rfl, rfl, rfl, rfl, rfl, rfl, rfl, rfl, rfl, rfl, rfl, rfl, rfl, rfl, rfl, rfl, rfl, rfl, rfl, rfl, rfl, rfl, rfl, rfl, rfl, rfl, rfl⟩ := re_12 hfo_1 hfo_1008 (hrA12 o0 ko0)
              obtain rfl := ri_12_3 hfo_1 hfo_1008 (hfA12 o0 ko0 3 (by decide) (by decide) (by decide))
              obtain rfl := ri_12_5 hfo_1 hfo_1008 (hfA12 o0 ko0 5 (by decide) (by decide) (by decide))
              obtain rfl := ri_12_11 hfo_1 hfo_1008 (hfA12 o0 ko0 11 (by decide) (by decide) (by decide))
              obtain rfl := ri_12_12 hfo_1 hfo_1008 (hfA12 o0 ko0 12 (by decide) (by decide) (by decide))
              obtain rfl := ri_12_13 hfo_1 hfo_1008 (hfA12 o0 ko0 13 (by decide) (by decide) (by decide))
              obtain rfl := ri_12_14 hfo_1 hfo_1008 (hfA12 o0 ko0 14 (by decide) (by decide) (by decide))
              obtain rfl := ri_12_23 hfo_1 hfo_1008 (hfA12 o0 ko0 23 (by decide) (by decide) (by decide))
              obtain rfl := ri_12_25 hfo_1 hfo_1008 (hfA12 o0 ko0 25 (by decide) (by decide) (by decide))
              obtain rfl := ri_12_27 hfo_1 hfo_1008 (hfA12 o0 ko0 27 (by decide) (by decide) (by decide))
              obtain rfl := ri_12_29 hfo_1 hfo_1008 (hfA12 o0 ko0 29 (by decide) (by decide) (by decide))
              obtain rfl := ri_12_32 hfo_1 hfo_1008 (hfA12 o0 ko0 32 (by decide) (by decide) (by decide))
              obtain rfl := ri_12_33 hfo_1 hfo_1008 (hfA12 o0 ko0 33 (by decide) (by decide) (by decide))
              obtain rfl := ri_12_35 hfo_1 hfo_1008 (hfA12 o0 ko0 35 (by decide) (by decide) (by decide))
              obtain rfl := ri_12_38 hfo_1 hfo_1008 (hfA12 o0 ko0 38 (by decide) (by decide) (by decide))
              obtain rfl := ri_12_43 hfo_1 hfo_1008 (hfA12 o0 ko0 43 (by decide) (by decide) (by decide))
              obtain rfl := ri_12_53 hfo_1 hfo_1008 (hfA12 o0 ko0 53 (by decide) (by decide) (by decide))
              obtain rfl := ri_12_6 hfo_786 hfo_1008 (hfa_1005 o0 ko0 6 (by decide) (by decide))
              exact W.zret (v := x_1001) (ty := .boolean) hx hb hr (zb_n (by constructor <;> omega)) (fun t ht hW => ⟨⟨x_1001, f_1002, rfl, ⟨hG, (by constructor <;> omega), hfr0, hrA12, hfA12, (by intro w6 z6 e6 d6; rw [hfo_1] at e6; rw [hfo_1008] at d6; obtain rfl := Option.some.inj e6; obtain rfl := Option.some.inj d6; omega), (fun d9 h9 => by rw [hfo_1008] at h9; obtain rfl := Option.some.inj h9; exact hT0)⟩, by rw [ht]; exact hP, va_K.moved hW.alike hK, pl_in hD⟩, hS.F ht⟩) hS.2.2 dX12_word_50
  exact hloop_71 601 f_62 hG _ _ hP hS hD hfr0 hrA12 hfA12 hT0 v_8 (by rw [hfo_63]; rfl) (by omega) (by omega) (by omega) ls hl
