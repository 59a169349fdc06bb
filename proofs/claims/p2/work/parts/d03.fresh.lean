def lawI (kd : Nat → Nat) (f : Nat → va_E) (o1 o2 : Nat) : Prop := (∀ d9, fldR (f o1) 3 = some d9 → trel kd 7 508 510 515 4 f d9) ∧ (∀ d9, fldR (f o1) 6 = some d9 → trel kd 107 549 551 556 104 f d9) ∧ (∀ r9 d9, fldR (f o1) 2 = some r9 → fldR (f r9) 3 = some d9 → drel kd 1 521 522 f d9) ∧ (urel kd 5 3 6 7 f o1) ∧ (urel kd 7 6 106 107 f o1) ∧ (alrel kd f o1) ∧ (srel kd 592 f o2) ∧ (∀ z9, fldI (f o2) 29 = some z9 → z9.toInt ≤ 200) ∧ (∀ y9 z9, fldI (f o1) 1 = some y9 → fldI (f o2) 5 = some z9 → y9.toInt = z9.toInt) ∧ (∀ y9 z9, fldI (f o1) 8 = some y9 → fldI (f o2) 3 = some z9 → y9.toInt = z9.toInt)
theorem ln_I {n : Nat} (h : n ≤ 384) : (Int32.ofNat n).toInt = (n : Int) := Int32.toInt_ofNat_of_lt (by omega)
theorem fr_t7 {cI cL cZ cR cG cH : ClassId} {L : List Nat} {f : Nat → va_E} {kd : Nat → Nat} (hB : bg cI cL cZ cR cG cH L f kd) {d : Nat} (md : d ∈ L) (kd_ : kd d = 7) : trel kd 7 508 510 515 4 f d := by
  obtain ⟨x0, x1, x2, x3, x4, x5, x6, x7, x8, x9, x10, x11, x12, x13, x14, x15, hf, ⟨mx0, kx0⟩, _, ⟨mx2, kx2⟩, ⟨mx3, kx3⟩, ⟨mx4, kx4⟩, ⟨mx5, kx5⟩, _, ⟨mx7, kx7⟩, ⟨mx8, kx8⟩, ⟨mx9, kx9⟩, ⟨mx10, kx10⟩, ⟨mx11, kx11⟩, _, ⟨mx13, kx13⟩, ⟨mx14, kx14⟩, ⟨mx15, kx15⟩⟩ := un_7 (hB _ md).1 kd_
  obtain ⟨z1, z6, z12⟩ := (hB _ md).2.1 (Or.inl kd_)
  obtain ⟨gs, hs, _⟩ := un_508 (hB _ mx0).1 kx0
  obtain ⟨gp, hp, _⟩ := un_510 (hB _ mx3).1 kx3
  obtain ⟨gr, hr, _⟩ := un_515 (hB _ mx11).1 kx11
  have zs := (hB _ mx0).2.2.2.2.2.2 (Or.inl kx0) gs (by rw [hs]; rfl)
  exact ⟨0, 0, 0, x0, x3, x11, gs, gp, gr, ⟨kd_, kx0, kx3, kx11⟩, ⟨z1, z6, z12, by rw [hf]; rfl, by rw [hf]; rfl, by rw [hf]; rfl⟩, ⟨by rw [hs]; rfl, by rw [hp]; rfl, by rw [hr]; rfl⟩, by decide, fun j _ => by rw [zs j]; decide, fun i h1 h2 => by exfalso; rw [show (0 : Int32).toInt = 0 from rfl] at h2; omega, fun k h2 => by exfalso; rw [show (0 : Int32).toInt = 0 from rfl] at h2; omega⟩
theorem fr_t107 {cI cL cZ cR cG cH : ClassId} {L : List Nat} {f : Nat → va_E} {kd : Nat → Nat} (hB : bg cI cL cZ cR cG cH L f kd) {d : Nat} (md : d ∈ L) (kd_ : kd d = 107) : trel kd 107 549 551 556 104 f d := by
  obtain ⟨x0, x1, x2, x3, x4, x5, x6, x7, x8, x9, x10, x11, x12, x13, x14, x15, hf, ⟨mx0, kx0⟩, _, ⟨mx2, kx2⟩, ⟨mx3, kx3⟩, ⟨mx4, kx4⟩, ⟨mx5, kx5⟩, _, ⟨mx7, kx7⟩, ⟨mx8, kx8⟩, ⟨mx9, kx9⟩, ⟨mx10, kx10⟩, ⟨mx11, kx11⟩, _, ⟨mx13, kx13⟩, ⟨mx14, kx14⟩, ⟨mx15, kx15⟩⟩ := un_107 (hB _ md).1 kd_
  obtain ⟨z1, z6, z12⟩ := (hB _ md).2.1 (Or.inr (Or.inl kd_))
  obtain ⟨gs, hs, _⟩ := un_549 (hB _ mx0).1 kx0
  obtain ⟨gp, hp, _⟩ := un_551 (hB _ mx3).1 kx3
  obtain ⟨gr, hr, _⟩ := un_556 (hB _ mx11).1 kx11
  have zs := (hB _ mx0).2.2.2.2.2.2 (Or.inr (Or.inl kx0)) gs (by rw [hs]; rfl)
  exact ⟨0, 0, 0, x0, x3, x11, gs, gp, gr, ⟨kd_, kx0, kx3, kx11⟩, ⟨z1, z6, z12, by rw [hf]; rfl, by rw [hf]; rfl, by rw [hf]; rfl⟩, ⟨by rw [hs]; rfl, by rw [hp]; rfl, by rw [hr]; rfl⟩, by decide, fun j _ => by rw [zs j]; decide, fun i h1 h2 => by exfalso; rw [show (0 : Int32).toInt = 0 from rfl] at h2; omega, fun k h2 => by exfalso; rw [show (0 : Int32).toInt = 0 from rfl] at h2; omega⟩
theorem fr_d {cI cL cZ cR cG cH : ClassId} {L : List Nat} {f : Nat → va_E} {kd : Nat → Nat} (hB : bg cI cL cZ cR cG cH L f kd) {d : Nat} (md : d ∈ L) (kd_ : kd d = 1) : drel kd 1 521 522 f d := by
  obtain ⟨x0, x1, x2, x3, x4, x5, hf, ⟨mx0, kx0⟩, ⟨mx1, kx1⟩, ⟨mx2, kx2⟩, _, _, _⟩ := un_1 (hB _ md).1 kd_
  have z5 := (hB _ md).2.2.2.1 kd_
  obtain ⟨g, hg, _⟩ := un_521 (hB _ mx0).1 kx0
  obtain ⟨p, hp⟩ := un_522 (hB _ mx1).1 kx1
  have zs := (hB _ mx0).2.2.2.2.2.2 (Or.inr (Or.inr kx0)) g (by rw [hg]; rfl)
  exact ⟨0, x0, x1, g, p, ⟨kd_, kx0, kx1⟩, ⟨z5, by rw [hf]; rfl, by rw [hf]; rfl⟩, ⟨by rw [hg]; rfl, by rw [hp]; rfl⟩, fun j _ => Or.inl (by rw [zs j]; rfl)⟩
set_option maxHeartbeats 1000000 in
theorem lawI_fresh {cI cL cZ cR cG cH : ClassId} {L : List Nat} {f : Nat → va_E} {kd : Nat → Nat} (hB : bg cI cL cZ cR cG cH L f kd) {o1 o2 : Nat} (mo1 : o1 ∈ L) (ko1 : kd o1 = 11) (mo2 : o2 ∈ L) (ko2 : kd o2 = 12) {rr tt : Nat} (hr1 : fldR (f o1) 2 = some rr) (hr2 : fldR (f o1) 3 = some tt) (hr3 : fldR (f rr) 0 = some tt) : lawI kd f o1 o2 := by
  obtain ⟨x0, x1, x2, x3, x4, x5, x6, x7, x8, x9, x10, x11, x12, x13, x14, x15, x16, x17, x18, hf1, ⟨mx0, kx0⟩, _, ⟨mx2, kx2⟩, ⟨mx3, kx3⟩, ⟨mx4, kx4⟩, ⟨mx5, kx5⟩, ⟨mx6, kx6⟩, ⟨mx7, kx7⟩, _, ⟨mx9, kx9⟩, ⟨mx10, kx10⟩, ⟨mx11, kx11⟩, _, ⟨mx14, kx14⟩, _, ⟨mx16, kx16⟩, ⟨mx17, kx17⟩⟩ := un_11 (hB _ mo1).1 ko1
  obtain ⟨y0, y1, y2, y3, y4, y5, y6, y7, y8, y9, y10, y11, y12, y13, y14, y15, y16, y17, y18, y19, y20, y21, y22, y23, y24, y25, y26, y27, y28, y29, y30, y31, y32, y33, y34, y35, y36, y37, y38, y39, y40, y41, y42, y43, y44, y45, y46, y47, y48, y49, y50, y51, y52, y53, y54, y55, hf2, ⟨my0, ky0⟩, ⟨my1, ky1⟩, ⟨my2, ky2⟩, _, ⟨my4, ky4⟩, _, _, _, _, _, ⟨my15, ky15⟩, ⟨my16, ky16⟩, ⟨my17, ky17⟩, ⟨my18, ky18⟩, ⟨my19, ky19⟩, ⟨my20, ky20⟩, ⟨my21, ky21⟩, ⟨my22, ky22⟩, _, _, _, ⟨my28, ky28⟩, _, ⟨my30, ky30⟩, ⟨my31, ky31⟩, _, ⟨my34, ky34⟩, _, ⟨my36, ky36⟩, ⟨my37, ky37⟩, _, ⟨my40, ky40⟩, ⟨my41, ky41⟩, ⟨my42, ky42⟩, _, ⟨my44, ky44⟩, ⟨my45, ky45⟩, ⟨my46, ky46⟩, ⟨my47, ky47⟩, ⟨my48, ky48⟩, ⟨my49, ky49⟩, ⟨my50, ky50⟩, ⟨my51, ky51⟩, ⟨my52, ky52⟩, _, ⟨my55, ky55⟩⟩ := un_12 (hB _ mo2).1 ko2
  obtain ⟨z1, z8⟩ := (hB _ mo1).2.2.2.2.1 ko1
  obtain ⟨w3, w5, w29, w32⟩ := (hB _ mo2).2.2.2.2.2.1 ko2
  rw [hf1] at hr1 hr2
  obtain rfl := Option.some.inj hr1
  obtain rfl := Option.some.inj hr2
  obtain ⟨u0, u1, u2, u3, u4, u5, u6, u7, u8, u9, u10, u11, u12, u13, u14, u15, u16, u17, hf3, ⟨mu0, ku0⟩, ⟨mu1, ku1⟩, ⟨mu2, ku2⟩, ⟨mu3, ku3⟩, ⟨mu4, ku4⟩, _, _, _, ⟨mu12, ku12⟩, ⟨mu13, ku13⟩, ⟨mu14, ku14⟩, _, ⟨mu16, ku16⟩, ⟨mu17, ku17⟩⟩ := un_3 (hB _ mx2).1 kx2
  have a1 := fr_t7 hB mx3 kx3
  have a2 := fr_t107 hB mx6 kx6
  have a3 := fr_d hB mu3 ku3
  obtain ⟨c1, e1⟩ : ∃ c : Int32, fldI (f x3) 12 = some c := ⟨0, ((hB _ mx3).2.1 (Or.inl kx3)).2.2⟩
  have b1 : urel kd 5 3 6 7 f o1 := ⟨x5, x3, 0, 0, ⟨ko1, kx5, kx3⟩, ⟨by rw [hf1]; rfl, by rw [hf1]; rfl⟩, ⟨(hB _ mx5).2.2.1 (Or.inl kx5), ((hB _ mx3).2.1 (Or.inl kx3)).2.2⟩, by decide, by decide⟩
  have b2 : urel kd 7 6 106 107 f o1 := ⟨x7, x6, 0, 0, ⟨ko1, kx7, kx6⟩, ⟨by rw [hf1]; rfl, by rw [hf1]; rfl⟩, ⟨(hB _ mx7).2.2.1 (Or.inr kx7), ((hB _ mx6).2.1 (Or.inr (Or.inl kx6))).2.2⟩, by decide, by decide⟩
  have b3 : alrel kd f o1 := ⟨x2, x3, ⟨ko1, kx2⟩, by rw [hf1]; rfl, by rw [hf1]; rfl, hr3⟩
  obtain ⟨gS, hgS, _⟩ := un_592 (hB _ my30).1 ky30
  have b4 : srel kd 592 f o2 := ⟨y30, gS, 0, y33, ⟨ko2, ky30⟩, by rw [hf2]; rfl, by rw [hgS]; rfl, ⟨w32, by rw [hf2]; rfl⟩, by rw [show (0 : Int32).toInt = 0 from rfl]; omega⟩
  exact ⟨(fun d9 h9 => by rw [hf1] at h9; obtain rfl := Option.some.inj h9; exact a1), (fun d9 h9 => by rw [hf1] at h9; obtain rfl := Option.some.inj h9; exact a2), (fun r9 d9 h8 h9 => by rw [hf1] at h8; obtain rfl := Option.some.inj h8; rw [hf3] at h9; obtain rfl := Option.some.inj h9; exact a3), b1, b2, b3, b4, (fun z9 h9 => by rw [w29] at h9; obtain rfl := Option.some.inj h9; decide), (fun y9 z9 h8 h9 => by rw [z1] at h8; obtain rfl := Option.some.inj h8; rw [w5] at h9; obtain rfl := Option.some.inj h9; rfl), (fun y9 z9 h8 h9 => by rw [z8] at h8; obtain rfl := Option.some.inj h8; rw [w3] at h9; obtain rfl := Option.some.inj h9; rfl)⟩
