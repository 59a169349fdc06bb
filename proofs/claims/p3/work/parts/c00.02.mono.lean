theorem mo_0 {L L1 : List Nat} {kd kd1 : Nat → Nat} (h : ∀ r, r ∈ L1 → r ∈ L ∧ kd r = kd1 r) {e : va_E} (hk : ok_0 L1 kd1 e) : ok_0 L kd e := by
  obtain ⟨r0, r1, r2, v3, r4, r5, r6, v7, r8, v9, v10, he, ⟨m0, k0⟩, ⟨m1, k1⟩, ⟨m2, k2⟩, b3, ⟨m4, k4⟩, ⟨m5, k5⟩, ⟨m6, k6⟩, ⟨m8, k8⟩⟩ := hk
  exact ⟨r0, r1, r2, v3, r4, r5, r6, v7, r8, v9, v10, he, ⟨(h _ m0).1, (h _ m0).2.trans k0⟩, ⟨(h _ m1).1, (h _ m1).2.trans k1⟩, ⟨(h _ m2).1, (h _ m2).2.trans k2⟩, b3, ⟨(h _ m4).1, (h _ m4).2.trans k4⟩, ⟨(h _ m5).1, (h _ m5).2.trans k5⟩, ⟨(h _ m6).1, (h _ m6).2.trans k6⟩, ⟨(h _ m8).1, (h _ m8).2.trans k8⟩⟩
theorem mo_1 {L L1 : List Nat} {kd kd1 : Nat → Nat} (h : ∀ r, r ∈ L1 → r ∈ L ∧ kd r = kd1 r) {e : va_E} (hk : ok_1 L1 kd1 e) : ok_1 L kd e := by
  obtain ⟨r0, r1, r2, v3, v4, v5, he, ⟨m0, k0⟩, ⟨m1, k1⟩, ⟨m2, k2⟩, b3, b4, b5⟩ := hk
  exact ⟨r0, r1, r2, v3, v4, v5, he, ⟨(h _ m0).1, (h _ m0).2.trans k0⟩, ⟨(h _ m1).1, (h _ m1).2.trans k1⟩, ⟨(h _ m2).1, (h _ m2).2.trans k2⟩, b3, b4, b5⟩
theorem mo_2 {L L1 : List Nat} {kd kd1 : Nat → Nat} (h : ∀ r, r ∈ L1 → r ∈ L ∧ kd r = kd1 r) {e : va_E} (hk : ok_2 L1 kd1 e) : ok_2 L kd e := by
  obtain ⟨r0, v1, v2, r3, v4, v5, v6, v7, v8, v9, he, ⟨m0, k0⟩, ⟨m3, k3⟩, b4, b5, b6, b7, b8⟩ := hk
  exact ⟨r0, v1, v2, r3, v4, v5, v6, v7, v8, v9, he, ⟨(h _ m0).1, (h _ m0).2.trans k0⟩, ⟨(h _ m3).1, (h _ m3).2.trans k3⟩, b4, b5, b6, b7, b8⟩
theorem mo_3 {L L1 : List Nat} {kd kd1 : Nat → Nat} (h : ∀ r, r ∈ L1 → r ∈ L ∧ kd r = kd1 r) {e : va_E} (hk : ok_3 L1 kd1 e) : ok_3 L kd e := by
  obtain ⟨r0, r1, r2, r3, r4, v5, v6, v7, v8, v9, v10, v11, r12, r13, r14, v15, r16, r17, he, ⟨m0, k0⟩, ⟨m1, k1⟩, ⟨m2, k2⟩, ⟨m3, k3⟩, ⟨m4, k4⟩, b5, b6, b7, ⟨m12, k12⟩, ⟨m13, k13⟩, ⟨m14, k14⟩, b15, ⟨m16, k16⟩, ⟨m17, k17⟩⟩ := hk
  exact ⟨r0, r1, r2, r3, r4, v5, v6, v7, v8, v9, v10, v11, r12, r13, r14, v15, r16, r17, he, ⟨(h _ m0).1, (h _ m0).2.trans k0⟩, ⟨(h _ m1).1, (h _ m1).2.trans k1⟩, ⟨(h _ m2).1, (h _ m2).2.trans k2⟩, ⟨(h _ m3).1, (h _ m3).2.trans k3⟩, ⟨(h _ m4).1, (h _ m4).2.trans k4⟩, b5, b6, b7, ⟨(h _ m12).1, (h _ m12).2.trans k12⟩, ⟨(h _ m13).1, (h _ m13).2.trans k13⟩, ⟨(h _ m14).1, (h _ m14).2.trans k14⟩, b15, ⟨(h _ m16).1, (h _ m16).2.trans k16⟩, ⟨(h _ m17).1, (h _ m17).2.trans k17⟩⟩
theorem mo_4 {L L1 : List Nat} {kd kd1 : Nat → Nat} (h : ∀ r, r ∈ L1 → r ∈ L ∧ kd r = kd1 r) {e : va_E} (hk : ok_4 L1 kd1 e) : ok_4 L kd e := by
  obtain ⟨v0, v1, v2, v3, r4, r5, r6, r7, v8, v9, v10, he, b0, b1, b2, b3, ⟨m4, k4⟩, ⟨m5, k5⟩, ⟨m6, k6⟩, ⟨m7, k7⟩⟩ := hk
  exact ⟨v0, v1, v2, v3, r4, r5, r6, r7, v8, v9, v10, he, b0, b1, b2, b3, ⟨(h _ m4).1, (h _ m4).2.trans k4⟩, ⟨(h _ m5).1, (h _ m5).2.trans k5⟩, ⟨(h _ m6).1, (h _ m6).2.trans k6⟩, ⟨(h _ m7).1, (h _ m7).2.trans k7⟩⟩
theorem mo_5 {L L1 : List Nat} {kd kd1 : Nat → Nat} (h : ∀ r, r ∈ L1 → r ∈ L ∧ kd r = kd1 r) {e : va_E} (hk : ok_5 L1 kd1 e) : ok_5 L kd e := by
  obtain ⟨r0, r1, r2, v3, v4, v5, he, ⟨m0, k0⟩, ⟨m1, k1⟩, ⟨m2, k2⟩⟩ := hk
  exact ⟨r0, r1, r2, v3, v4, v5, he, ⟨(h _ m0).1, (h _ m0).2.trans k0⟩, ⟨(h _ m1).1, (h _ m1).2.trans k1⟩, ⟨(h _ m2).1, (h _ m2).2.trans k2⟩⟩
theorem mo_6 {L L1 : List Nat} {kd kd1 : Nat → Nat} (h : ∀ r, r ∈ L1 → r ∈ L ∧ kd r = kd1 r) {e : va_E} (hk : ok_6 L1 kd1 e) : ok_6 L kd e := by
  obtain ⟨v0, v1, r2, r3, r4, v5, r6, r7, r8, he, b1, ⟨m2, k2⟩, ⟨m3, k3⟩, ⟨m4, k4⟩, ⟨m6, k6⟩, ⟨m7, k7⟩, ⟨m8, k8⟩⟩ := hk
  exact ⟨v0, v1, r2, r3, r4, v5, r6, r7, r8, he, b1, ⟨(h _ m2).1, (h _ m2).2.trans k2⟩, ⟨(h _ m3).1, (h _ m3).2.trans k3⟩, ⟨(h _ m4).1, (h _ m4).2.trans k4⟩, ⟨(h _ m6).1, (h _ m6).2.trans k6⟩, ⟨(h _ m7).1, (h _ m7).2.trans k7⟩, ⟨(h _ m8).1, (h _ m8).2.trans k8⟩⟩
theorem mo_7 {L L1 : List Nat} {kd kd1 : Nat → Nat} (h : ∀ r, r ∈ L1 → r ∈ L ∧ kd r = kd1 r) {e : va_E} (hk : ok_7 L1 kd1 e) : ok_7 L kd e := by
  obtain ⟨r0, v1, r2, r3, r4, r5, v6, r7, r8, r9, r10, r11, v12, r13, r14, r15, he, ⟨m0, k0⟩, b1, ⟨m2, k2⟩, ⟨m3, k3⟩, ⟨m4, k4⟩, ⟨m5, k5⟩, b6, ⟨m7, k7⟩, ⟨m8, k8⟩, ⟨m9, k9⟩, ⟨m10, k10⟩, ⟨m11, k11⟩, b12, ⟨m13, k13⟩, ⟨m14, k14⟩, ⟨m15, k15⟩⟩ := hk
  exact ⟨r0, v1, r2, r3, r4, r5, v6, r7, r8, r9, r10, r11, v12, r13, r14, r15, he, ⟨(h _ m0).1, (h _ m0).2.trans k0⟩, b1, ⟨(h _ m2).1, (h _ m2).2.trans k2⟩, ⟨(h _ m3).1, (h _ m3).2.trans k3⟩, ⟨(h _ m4).1, (h _ m4).2.trans k4⟩, ⟨(h _ m5).1, (h _ m5).2.trans k5⟩, b6, ⟨(h _ m7).1, (h _ m7).2.trans k7⟩, ⟨(h _ m8).1, (h _ m8).2.trans k8⟩, ⟨(h _ m9).1, (h _ m9).2.trans k9⟩, ⟨(h _ m10).1, (h _ m10).2.trans k10⟩, ⟨(h _ m11).1, (h _ m11).2.trans k11⟩, b12, ⟨(h _ m13).1, (h _ m13).2.trans k13⟩, ⟨(h _ m14).1, (h _ m14).2.trans k14⟩, ⟨(h _ m15).1, (h _ m15).2.trans k15⟩⟩
theorem mo_8 {L L1 : List Nat} {kd kd1 : Nat → Nat} (h : ∀ r, r ∈ L1 → r ∈ L ∧ kd r = kd1 r) {e : va_E} (hk : ok_8 L1 kd1 e) : ok_8 L kd e := by
  obtain ⟨r0, r1, r2, r3, r4, he, ⟨m0, k0⟩, ⟨m1, k1⟩, ⟨m2, k2⟩, ⟨m3, k3⟩, ⟨m4, k4⟩⟩ := hk
  exact ⟨r0, r1, r2, r3, r4, he, ⟨(h _ m0).1, (h _ m0).2.trans k0⟩, ⟨(h _ m1).1, (h _ m1).2.trans k1⟩, ⟨(h _ m2).1, (h _ m2).2.trans k2⟩, ⟨(h _ m3).1, (h _ m3).2.trans k3⟩, ⟨(h _ m4).1, (h _ m4).2.trans k4⟩⟩
theorem mo_9 {L L1 : List Nat} {kd kd1 : Nat → Nat} (h : ∀ r, r ∈ L1 → r ∈ L ∧ kd r = kd1 r) {e : va_E} (hk : ok_9 L1 kd1 e) : ok_9 L kd e := by
  obtain ⟨r0, r1, v2, he, ⟨m0, k0⟩, ⟨m1, k1⟩, b2⟩ := hk
  exact ⟨r0, r1, v2, he, ⟨(h _ m0).1, (h _ m0).2.trans k0⟩, ⟨(h _ m1).1, (h _ m1).2.trans k1⟩, b2⟩
theorem mo_10 {L L1 : List Nat} {kd kd1 : Nat → Nat} (h : ∀ r, r ∈ L1 → r ∈ L ∧ kd r = kd1 r) {e : va_E} (hk : ok_10 L1 kd1 e) : ok_10 L kd e := by
  obtain ⟨r0, v1, v2, he, ⟨m0, k0⟩, b1, b2⟩ := hk
  exact ⟨r0, v1, v2, he, ⟨(h _ m0).1, (h _ m0).2.trans k0⟩, b1, b2⟩
theorem mo_11 {L L1 : List Nat} {kd kd1 : Nat → Nat} (h : ∀ r, r ∈ L1 → r ∈ L ∧ kd r = kd1 r) {e : va_E} (hk : ok_11 L1 kd1 e) : ok_11 L kd e := by
  obtain ⟨r0, v1, r2, r3, r4, r5, r6, r7, v8, r9, r10, r11, v12, v13, r14, v15, r16, r17, v18, he, ⟨m0, k0⟩, b1, ⟨m2, k2⟩, ⟨m3, k3⟩, ⟨m4, k4⟩, ⟨m5, k5⟩, ⟨m6, k6⟩, ⟨m7, k7⟩, b8, ⟨m9, k9⟩, ⟨m10, k10⟩, ⟨m11, k11⟩, b12, ⟨m14, k14⟩, b15, ⟨m16, k16⟩, ⟨m17, k17⟩⟩ := hk
  exact ⟨r0, v1, r2, r3, r4, r5, r6, r7, v8, r9, r10, r11, v12, v13, r14, v15, r16, r17, v18, he, ⟨(h _ m0).1, (h _ m0).2.trans k0⟩, b1, ⟨(h _ m2).1, (h _ m2).2.trans k2⟩, ⟨(h _ m3).1, (h _ m3).2.trans k3⟩, ⟨(h _ m4).1, (h _ m4).2.trans k4⟩, ⟨(h _ m5).1, (h _ m5).2.trans k5⟩, ⟨(h _ m6).1, (h _ m6).2.trans k6⟩, ⟨(h _ m7).1, (h _ m7).2.trans k7⟩, b8, ⟨(h _ m9).1, (h _ m9).2.trans k9⟩, ⟨(h _ m10).1, (h _ m10).2.trans k10⟩, ⟨(h _ m11).1, (h _ m11).2.trans k11⟩, b12, ⟨(h _ m14).1, (h _ m14).2.trans k14⟩, b15, ⟨(h _ m16).1, (h _ m16).2.trans k16⟩, ⟨(h _ m17).1, (h _ m17).2.trans k17⟩⟩
theorem mo_12 {L L1 : List Nat} {kd kd1 : Nat → Nat} (h : ∀ r, r ∈ L1 → r ∈ L ∧ kd r = kd1 r) {e : va_E} (hk : ok_12 L1 kd1 e) : ok_12 L kd e := by
  obtain ⟨r0, r1, r2, v3, r4, v5, v6, v7, v8, v9, v10, v11, v12, v13, v14, r15, r16, r17, r18, r19, r20, r21, r22, v23, v24, v25, v26, v27, r28, v29, r30, r31, v32, v33, r34, v35, r36, r37, v38, v39, r40, r41, r42, v43, r44, r45, r46, r47, r48, r49, r50, r51, r52, v53, v54, r55, he, ⟨m0, k0⟩, ⟨m1, k1⟩, ⟨m2, k2⟩, b3, ⟨m4, k4⟩, b5, b6, b11, b12, b13, ⟨m15, k15⟩, ⟨m16, k16⟩, ⟨m17, k17⟩, ⟨m18, k18⟩, ⟨m19, k19⟩, ⟨m20, k20⟩, ⟨m21, k21⟩, ⟨m22, k22⟩, b23, b25, b27, ⟨m28, k28⟩, b29, ⟨m30, k30⟩, ⟨m31, k31⟩, b32, ⟨m34, k34⟩, b35, ⟨m36, k36⟩, ⟨m37, k37⟩, b38, ⟨m40, k40⟩, ⟨m41, k41⟩, ⟨m42, k42⟩, b43, ⟨m44, k44⟩, ⟨m45, k45⟩, ⟨m46, k46⟩, ⟨m47, k47⟩, ⟨m48, k48⟩, ⟨m49, k49⟩, ⟨m50, k50⟩, ⟨m51, k51⟩, ⟨m52, k52⟩, b53, ⟨m55, k55⟩⟩ := hk
  exact ⟨r0, r1, r2, v3, r4, v5, v6, v7, v8, v9, v10, v11, v12, v13, v14, r15, r16, r17, r18, r19, r20, r21, r22, v23, v24, v25, v26, v27, r28, v29, r30, r31, v32, v33, r34, v35, r36, r37, v38, v39, r40, r41, r42, v43, r44, r45, r46, r47, r48, r49, r50, r51, r52, v53, v54, r55, he, ⟨(h _ m0).1, (h _ m0).2.trans k0⟩, ⟨(h _ m1).1, (h _ m1).2.trans k1⟩, ⟨(h _ m2).1, (h _ m2).2.trans k2⟩, b3, ⟨(h _ m4).1, (h _ m4).2.trans k4⟩, b5, b6, b11, b12, b13, ⟨(h _ m15).1, (h _ m15).2.trans k15⟩, ⟨(h _ m16).1, (h _ m16).2.trans k16⟩, ⟨(h _ m17).1, (h _ m17).2.trans k17⟩, ⟨(h _ m18).1, (h _ m18).2.trans k18⟩, ⟨(h _ m19).1, (h _ m19).2.trans k19⟩, ⟨(h _ m20).1, (h _ m20).2.trans k20⟩, ⟨(h _ m21).1, (h _ m21).2.trans k21⟩, ⟨(h _ m22).1, (h _ m22).2.trans k22⟩, b23, b25, b27, ⟨(h _ m28).1, (h _ m28).2.trans k28⟩, b29, ⟨(h _ m30).1, (h _ m30).2.trans k30⟩, ⟨(h _ m31).1, (h _ m31).2.trans k31⟩, b32, ⟨(h _ m34).1, (h _ m34).2.trans k34⟩, b35, ⟨(h _ m36).1, (h _ m36).2.trans k36⟩, ⟨(h _ m37).1, (h _ m37).2.trans k37⟩, b38, ⟨(h _ m40).1, (h _ m40).2.trans k40⟩, ⟨(h _ m41).1, (h _ m41).2.trans k41⟩, ⟨(h _ m42).1, (h _ m42).2.trans k42⟩, b43, ⟨(h _ m44).1, (h _ m44).2.trans k44⟩, ⟨(h _ m45).1, (h _ m45).2.trans k45⟩, ⟨(h _ m46).1, (h _ m46).2.trans k46⟩, ⟨(h _ m47).1, (h _ m47).2.trans k47⟩, ⟨(h _ m48).1, (h _ m48).2.trans k48⟩, ⟨(h _ m49).1, (h _ m49).2.trans k49⟩, ⟨(h _ m50).1, (h _ m50).2.trans k50⟩, ⟨(h _ m51).1, (h _ m51).2.trans k51⟩, ⟨(h _ m52).1, (h _ m52).2.trans k52⟩, b53, ⟨(h _ m55).1, (h _ m55).2.trans k55⟩⟩
theorem mo_13 {L L1 : List Nat} {kd kd1 : Nat → Nat} (h : ∀ r, r ∈ L1 → r ∈ L ∧ kd r = kd1 r) {e : va_E} (hk : ok_13 L1 kd1 e) : ok_13 L kd e := by
  obtain ⟨r0, r1, v2, he, ⟨m0, k0⟩, ⟨m1, k1⟩, b2⟩ := hk
  exact ⟨r0, r1, v2, he, ⟨(h _ m0).1, (h _ m0).2.trans k0⟩, ⟨(h _ m1).1, (h _ m1).2.trans k1⟩, b2⟩
theorem mo_104 {L L1 : List Nat} {kd kd1 : Nat → Nat} (h : ∀ r, r ∈ L1 → r ∈ L ∧ kd r = kd1 r) {e : va_E} (hk : ok_104 L1 kd1 e) : ok_104 L kd e := by
  obtain ⟨v0, v1, v2, v3, r4, r5, r6, r7, v8, v9, v10, he, b0, b1, b2, b3, ⟨m4, k4⟩, ⟨m5, k5⟩, ⟨m6, k6⟩, ⟨m7, k7⟩⟩ := hk
  exact ⟨v0, v1, v2, v3, r4, r5, r6, r7, v8, v9, v10, he, b0, b1, b2, b3, ⟨(h _ m4).1, (h _ m4).2.trans k4⟩, ⟨(h _ m5).1, (h _ m5).2.trans k5⟩, ⟨(h _ m6).1, (h _ m6).2.trans k6⟩, ⟨(h _ m7).1, (h _ m7).2.trans k7⟩⟩
theorem mo_105 {L L1 : List Nat} {kd kd1 : Nat → Nat} (h : ∀ r, r ∈ L1 → r ∈ L ∧ kd r = kd1 r) {e : va_E} (hk : ok_105 L1 kd1 e) : ok_105 L kd e := by
  obtain ⟨r0, r1, r2, v3, v4, v5, he, ⟨m0, k0⟩, ⟨m1, k1⟩, ⟨m2, k2⟩⟩ := hk
  exact ⟨r0, r1, r2, v3, v4, v5, he, ⟨(h _ m0).1, (h _ m0).2.trans k0⟩, ⟨(h _ m1).1, (h _ m1).2.trans k1⟩, ⟨(h _ m2).1, (h _ m2).2.trans k2⟩⟩
theorem mo_106 {L L1 : List Nat} {kd kd1 : Nat → Nat} (h : ∀ r, r ∈ L1 → r ∈ L ∧ kd r = kd1 r) {e : va_E} (hk : ok_106 L1 kd1 e) : ok_106 L kd e := by
  obtain ⟨v0, v1, r2, r3, r4, v5, r6, r7, r8, he, b1, ⟨m2, k2⟩, ⟨m3, k3⟩, ⟨m4, k4⟩, ⟨m6, k6⟩, ⟨m7, k7⟩, ⟨m8, k8⟩⟩ := hk
  exact ⟨v0, v1, r2, r3, r4, v5, r6, r7, r8, he, b1, ⟨(h _ m2).1, (h _ m2).2.trans k2⟩, ⟨(h _ m3).1, (h _ m3).2.trans k3⟩, ⟨(h _ m4).1, (h _ m4).2.trans k4⟩, ⟨(h _ m6).1, (h _ m6).2.trans k6⟩, ⟨(h _ m7).1, (h _ m7).2.trans k7⟩, ⟨(h _ m8).1, (h _ m8).2.trans k8⟩⟩
theorem mo_107 {L L1 : List Nat} {kd kd1 : Nat → Nat} (h : ∀ r, r ∈ L1 → r ∈ L ∧ kd r = kd1 r) {e : va_E} (hk : ok_107 L1 kd1 e) : ok_107 L kd e := by
  obtain ⟨r0, v1, r2, r3, r4, r5, v6, r7, r8, r9, r10, r11, v12, r13, r14, r15, he, ⟨m0, k0⟩, b1, ⟨m2, k2⟩, ⟨m3, k3⟩, ⟨m4, k4⟩, ⟨m5, k5⟩, b6, ⟨m7, k7⟩, ⟨m8, k8⟩, ⟨m9, k9⟩, ⟨m10, k10⟩, ⟨m11, k11⟩, b12, ⟨m13, k13⟩, ⟨m14, k14⟩, ⟨m15, k15⟩⟩ := hk
  exact ⟨r0, v1, r2, r3, r4, r5, v6, r7, r8, r9, r10, r11, v12, r13, r14, r15, he, ⟨(h _ m0).1, (h _ m0).2.trans k0⟩, b1, ⟨(h _ m2).1, (h _ m2).2.trans k2⟩, ⟨(h _ m3).1, (h _ m3).2.trans k3⟩, ⟨(h _ m4).1, (h _ m4).2.trans k4⟩, ⟨(h _ m5).1, (h _ m5).2.trans k5⟩, b6, ⟨(h _ m7).1, (h _ m7).2.trans k7⟩, ⟨(h _ m8).1, (h _ m8).2.trans k8⟩, ⟨(h _ m9).1, (h _ m9).2.trans k9⟩, ⟨(h _ m10).1, (h _ m10).2.trans k10⟩, ⟨(h _ m11).1, (h _ m11).2.trans k11⟩, b12, ⟨(h _ m13).1, (h _ m13).2.trans k13⟩, ⟨(h _ m14).1, (h _ m14).2.trans k14⟩, ⟨(h _ m15).1, (h _ m15).2.trans k15⟩⟩
theorem mo_109 {L L1 : List Nat} {kd kd1 : Nat → Nat} (h : ∀ r, r ∈ L1 → r ∈ L ∧ kd r = kd1 r) {e : va_E} (hk : ok_109 L1 kd1 e) : ok_109 L kd e := by
  obtain ⟨r0, r1, v2, he, ⟨m0, k0⟩, ⟨m1, k1⟩, b2⟩ := hk
  exact ⟨r0, r1, v2, he, ⟨(h _ m0).1, (h _ m0).2.trans k0⟩, ⟨(h _ m1).1, (h _ m1).2.trans k1⟩, b2⟩
theorem mo_113 {L L1 : List Nat} {kd kd1 : Nat → Nat} (h : ∀ r, r ∈ L1 → r ∈ L ∧ kd r = kd1 r) {e : va_E} (hk : ok_113 L1 kd1 e) : ok_113 L kd e := by
  obtain ⟨r0, r1, v2, he, ⟨m0, k0⟩, ⟨m1, k1⟩, b2⟩ := hk
  exact ⟨r0, r1, v2, he, ⟨(h _ m0).1, (h _ m0).2.trans k0⟩, ⟨(h _ m1).1, (h _ m1).2.trans k1⟩, b2⟩
theorem mo_204 {L L1 : List Nat} {kd kd1 : Nat → Nat} (h : ∀ r, r ∈ L1 → r ∈ L ∧ kd r = kd1 r) {e : va_E} (hk : ok_204 L1 kd1 e) : ok_204 L kd e := by
  obtain ⟨v0, v1, v2, v3, r4, r5, r6, r7, v8, v9, v10, he, b0, b1, b2, b3, ⟨m4, k4⟩, ⟨m5, k5⟩, ⟨m6, k6⟩, ⟨m7, k7⟩⟩ := hk
  exact ⟨v0, v1, v2, v3, r4, r5, r6, r7, v8, v9, v10, he, b0, b1, b2, b3, ⟨(h _ m4).1, (h _ m4).2.trans k4⟩, ⟨(h _ m5).1, (h _ m5).2.trans k5⟩, ⟨(h _ m6).1, (h _ m6).2.trans k6⟩, ⟨(h _ m7).1, (h _ m7).2.trans k7⟩⟩
theorem mo_205 {L L1 : List Nat} {kd kd1 : Nat → Nat} (h : ∀ r, r ∈ L1 → r ∈ L ∧ kd r = kd1 r) {e : va_E} (hk : ok_205 L1 kd1 e) : ok_205 L kd e := by
  obtain ⟨r0, r1, r2, v3, v4, v5, he, ⟨m0, k0⟩, ⟨m1, k1⟩, ⟨m2, k2⟩⟩ := hk
  exact ⟨r0, r1, r2, v3, v4, v5, he, ⟨(h _ m0).1, (h _ m0).2.trans k0⟩, ⟨(h _ m1).1, (h _ m1).2.trans k1⟩, ⟨(h _ m2).1, (h _ m2).2.trans k2⟩⟩
theorem mo_207 {L L1 : List Nat} {kd kd1 : Nat → Nat} (h : ∀ r, r ∈ L1 → r ∈ L ∧ kd r = kd1 r) {e : va_E} (hk : ok_207 L1 kd1 e) : ok_207 L kd e := by
  obtain ⟨r0, v1, r2, r3, r4, r5, v6, r7, r8, r9, r10, r11, v12, r13, r14, r15, he, ⟨m0, k0⟩, b1, ⟨m2, k2⟩, ⟨m3, k3⟩, ⟨m4, k4⟩, ⟨m5, k5⟩, b6, ⟨m7, k7⟩, ⟨m8, k8⟩, ⟨m9, k9⟩, ⟨m10, k10⟩, ⟨m11, k11⟩, b12, ⟨m13, k13⟩, ⟨m14, k14⟩, ⟨m15, k15⟩⟩ := hk
  exact ⟨r0, v1, r2, r3, r4, r5, v6, r7, r8, r9, r10, r11, v12, r13, r14, r15, he, ⟨(h _ m0).1, (h _ m0).2.trans k0⟩, b1, ⟨(h _ m2).1, (h _ m2).2.trans k2⟩, ⟨(h _ m3).1, (h _ m3).2.trans k3⟩, ⟨(h _ m4).1, (h _ m4).2.trans k4⟩, ⟨(h _ m5).1, (h _ m5).2.trans k5⟩, b6, ⟨(h _ m7).1, (h _ m7).2.trans k7⟩, ⟨(h _ m8).1, (h _ m8).2.trans k8⟩, ⟨(h _ m9).1, (h _ m9).2.trans k9⟩, ⟨(h _ m10).1, (h _ m10).2.trans k10⟩, ⟨(h _ m11).1, (h _ m11).2.trans k11⟩, b12, ⟨(h _ m13).1, (h _ m13).2.trans k13⟩, ⟨(h _ m14).1, (h _ m14).2.trans k14⟩, ⟨(h _ m15).1, (h _ m15).2.trans k15⟩⟩
theorem mo_209 {L L1 : List Nat} {kd kd1 : Nat → Nat} (h : ∀ r, r ∈ L1 → r ∈ L ∧ kd r = kd1 r) {e : va_E} (hk : ok_209 L1 kd1 e) : ok_209 L kd e := by
  obtain ⟨r0, r1, v2, he, ⟨m0, k0⟩, ⟨m1, k1⟩, b2⟩ := hk
  exact ⟨r0, r1, v2, he, ⟨(h _ m0).1, (h _ m0).2.trans k0⟩, ⟨(h _ m1).1, (h _ m1).2.trans k1⟩, b2⟩
theorem mo_213 {L L1 : List Nat} {kd kd1 : Nat → Nat} (h : ∀ r, r ∈ L1 → r ∈ L ∧ kd r = kd1 r) {e : va_E} (hk : ok_213 L1 kd1 e) : ok_213 L kd e := by
  obtain ⟨r0, r1, v2, he, ⟨m0, k0⟩, ⟨m1, k1⟩, b2⟩ := hk
  exact ⟨r0, r1, v2, he, ⟨(h _ m0).1, (h _ m0).2.trans k0⟩, ⟨(h _ m1).1, (h _ m1).2.trans k1⟩, b2⟩
theorem mo_515 {cA : ClassId} {L L1 : List Nat} {kd kd1 : Nat → Nat} (h : ∀ r, r ∈ L1 → r ∈ L ∧ kd r = kd1 r) {e : va_E} (hk : ok_515 cA L1 kd1 e) : ok_515 cA L kd e := by
  obtain ⟨g, he, hg⟩ := hk
  refine ⟨g, he, fun j hj => ?_⟩
  obtain ⟨b, h1, h2, h3⟩ := hg j hj
  exact ⟨b, h1, (h _ h2).1, (h _ h2).2.trans h3⟩
theorem mo_556 {cA : ClassId} {L L1 : List Nat} {kd kd1 : Nat → Nat} (h : ∀ r, r ∈ L1 → r ∈ L ∧ kd r = kd1 r) {e : va_E} (hk : ok_556 cA L1 kd1 e) : ok_556 cA L kd e := by
  obtain ⟨g, he, hg⟩ := hk
  refine ⟨g, he, fun j hj => ?_⟩
  obtain ⟨b, h1, h2, h3⟩ := hg j hj
  exact ⟨b, h1, (h _ h2).1, (h _ h2).2.trans h3⟩
theorem mo_573 {cA : ClassId} {L L1 : List Nat} {kd kd1 : Nat → Nat} (h : ∀ r, r ∈ L1 → r ∈ L ∧ kd r = kd1 r) {e : va_E} (hk : ok_573 cA L1 kd1 e) : ok_573 cA L kd e := by
  obtain ⟨g, he, hg⟩ := hk
  refine ⟨g, he, fun j hj => ?_⟩
  obtain ⟨b, h1, h2, h3⟩ := hg j hj
  exact ⟨b, h1, (h _ h2).1, (h _ h2).2.trans h3⟩
theorem mo_580 {cA : ClassId} {L L1 : List Nat} {kd kd1 : Nat → Nat} (h : ∀ r, r ∈ L1 → r ∈ L ∧ kd r = kd1 r) {e : va_E} (hk : ok_580 cA L1 kd1 e) : ok_580 cA L kd e := by
  obtain ⟨g, he, hg⟩ := hk
  refine ⟨g, he, fun j hj => ?_⟩
  obtain ⟨b, h1, h2, h3⟩ := hg j hj
  exact ⟨b, h1, (h _ h2).1, (h _ h2).2.trans h3⟩
theorem mo_582 {cA : ClassId} {L L1 : List Nat} {kd kd1 : Nat → Nat} (h : ∀ r, r ∈ L1 → r ∈ L ∧ kd r = kd1 r) {e : va_E} (hk : ok_582 cA L1 kd1 e) : ok_582 cA L kd e := by
  obtain ⟨g, he, hg⟩ := hk
  refine ⟨g, he, fun j hj => ?_⟩
  obtain ⟨b, h1, h2, h3⟩ := hg j hj
  exact ⟨b, h1, (h _ h2).1, (h _ h2).2.trans h3⟩
theorem mo_584 {cA : ClassId} {L L1 : List Nat} {kd kd1 : Nat → Nat} (h : ∀ r, r ∈ L1 → r ∈ L ∧ kd r = kd1 r) {e : va_E} (hk : ok_584 cA L1 kd1 e) : ok_584 cA L kd e := by
  obtain ⟨g, he, hg⟩ := hk
  refine ⟨g, he, fun j hj => ?_⟩
  obtain ⟨b, h1, h2, h3⟩ := hg j hj
  exact ⟨b, h1, (h _ h2).1, (h _ h2).2.trans h3⟩
theorem mo_586 {cA : ClassId} {L L1 : List Nat} {kd kd1 : Nat → Nat} (h : ∀ r, r ∈ L1 → r ∈ L ∧ kd r = kd1 r) {e : va_E} (hk : ok_586 cA L1 kd1 e) : ok_586 cA L kd e := by
  obtain ⟨g, he, hg⟩ := hk
  refine ⟨g, he, fun j hj => ?_⟩
  obtain ⟨b, h1, h2, h3⟩ := hg j hj
  exact ⟨b, h1, (h _ h2).1, (h _ h2).2.trans h3⟩
theorem mo_605 {cA : ClassId} {L L1 : List Nat} {kd kd1 : Nat → Nat} (h : ∀ r, r ∈ L1 → r ∈ L ∧ kd r = kd1 r) {e : va_E} (hk : ok_605 cA L1 kd1 e) : ok_605 cA L kd e := by
  obtain ⟨g, he, hg⟩ := hk
  refine ⟨g, he, fun j hj => ?_⟩
  obtain ⟨b, h1, h2, h3⟩ := hg j hj
  exact ⟨b, h1, (h _ h2).1, (h _ h2).2.trans h3⟩
def kinds_ : List Nat := [0, 1, 2, 3, 4, 5, 6, 7, 8, 9, 10, 11, 12, 13, 104, 105, 106, 107, 109, 113, 204, 205, 207, 209, 213, 500, 501, 502, 503, 504, 505, 506, 507, 508, 509, 510, 511, 512, 513, 514, 515, 516, 517, 518, 519, 520, 521, 522, 523, 524, 525, 526, 527, 528, 529, 530, 531, 532, 533, 534, 535, 536, 537, 538, 539, 540, 541, 542, 543, 544, 545, 546, 547, 548, 549, 550, 551, 552, 553, 554, 555, 556, 557, 558, 559, 560, 561, 562, 563, 564, 565, 566, 567, 568, 569, 570, 571, 572, 573, 574, 575, 576, 577, 578, 579, 580, 581, 582, 583, 584, 585, 586, 587, 588, 589, 590, 591, 592, 593, 594, 595, 596, 597, 598, 599, 600, 601, 602, 603, 604, 605, 606, 607, 608, 609, 610]
set_option maxHeartbeats 4000000 in
set_option maxRecDepth 100000 in
theorem okc_in {cI cL cZ cR cG cH : ClassId} {L : List Nat} {kd : Nat → Nat} {k : Nat} {e : va_E} (hk : okc cI cL cZ cR cG cH L kd k e) : k ∈ kinds_ := by
  unfold okc at hk
  split at hk
  · decide
  · decide
  · decide
  · decide
  · decide
  · decide
  · decide
  · decide
  · decide
  · decide
  · decide
  · decide
  · decide
  · decide
  · decide
  · decide
  · decide
  · decide
  · decide
  · decide
  · decide
  · decide
  · decide
  · decide
  · decide
  · decide
  · decide
  · decide
  · decide
  · decide
  · decide
  · decide
  · decide
  · decide
  · decide
  · decide
  · decide
  · decide
  · decide
  · decide
  · decide
  · decide
  · decide
  · decide
  · decide
  · decide
  · decide
  · decide
  · decide
  · decide
  · decide
  · decide
  · decide
  · decide
  · decide
  · decide
  · decide
  · decide
  · decide
  · decide
  · decide
  · decide
  · decide
  · decide
  · decide
  · decide
  · decide
  · decide
  · decide
  · decide
  · decide
  · decide
  · decide
  · decide
  · decide
  · decide
  · decide
  · decide
  · decide
  · decide
  · decide
  · decide
  · decide
  · decide
  · decide
  · decide
  · decide
  · decide
  · decide
  · decide
  · decide
  · decide
  · decide
  · decide
  · decide
  · decide
  · decide
  · decide
  · decide
  · decide
  · decide
  · decide
  · decide
  · decide
  · decide
  · decide
  · decide
  · decide
  · decide
  · decide
  · decide
  · decide
  · decide
  · decide
  · decide
  · decide
  · decide
  · decide
  · decide
  · decide
  · decide
  · decide
  · decide
  · decide
  · decide
  · decide
  · decide
  · decide
  · decide
  · decide
  · decide
  · decide
  · decide
  · decide
  · decide
  · decide
  · exact hk.elim
set_option maxHeartbeats 4000000 in
set_option maxRecDepth 100000 in
theorem okc_mono {cI cL cZ cR cG cH : ClassId} {L L1 : List Nat} {kd kd1 : Nat → Nat} (h : ∀ r, r ∈ L1 → r ∈ L ∧ kd r = kd1 r) {e : va_E} {k : Nat} (hk : okc cI cL cZ cR cG cH L1 kd1 k e) : okc cI cL cZ cR cG cH L kd k e := by
  have hin := okc_in hk
  simp only [kinds_, List.mem_cons, List.not_mem_nil, or_false] at hin
  rcases hin with rfl | rfl | rfl | rfl | rfl | rfl | rfl | rfl | rfl | rfl | rfl | rfl | rfl | rfl | rfl | rfl | rfl | rfl | rfl | rfl | rfl | rfl | rfl | rfl | rfl | rfl | rfl | rfl | rfl | rfl | rfl | rfl | rfl | rfl | rfl | rfl | rfl | rfl | rfl | rfl | rfl | rfl | rfl | rfl | rfl | rfl | rfl | rfl | rfl | rfl | rfl | rfl | rfl | rfl | rfl | rfl | rfl | rfl | rfl | rfl | rfl | rfl | rfl | rfl | rfl | rfl | rfl | rfl | rfl | rfl | rfl | rfl | rfl | rfl | rfl | rfl | rfl | rfl | rfl | rfl | rfl | rfl | rfl | rfl | rfl | rfl | rfl | rfl | rfl | rfl | rfl | rfl | rfl | rfl | rfl | rfl | rfl | rfl | rfl | rfl | rfl | rfl | rfl | rfl | rfl | rfl | rfl | rfl | rfl | rfl | rfl | rfl | rfl | rfl | rfl | rfl | rfl | rfl | rfl | rfl | rfl | rfl | rfl | rfl | rfl | rfl | rfl | rfl | rfl | rfl | rfl | rfl | rfl | rfl | rfl | rfl
  · exact mo_0 h hk
  · exact mo_1 h hk
  · exact mo_2 h hk
  · exact mo_3 h hk
  · exact mo_4 h hk
  · exact mo_5 h hk
  · exact mo_6 h hk
  · exact mo_7 h hk
  · exact mo_8 h hk
  · exact mo_9 h hk
  · exact mo_10 h hk
  · exact mo_11 h hk
  · exact mo_12 h hk
  · exact mo_13 h hk
  · exact mo_104 h hk
  · exact mo_105 h hk
  · exact mo_106 h hk
  · exact mo_107 h hk
  · exact mo_109 h hk
  · exact mo_113 h hk
  · exact mo_204 h hk
  · exact mo_205 h hk
  · exact mo_207 h hk
  · exact mo_209 h hk
  · exact mo_213 h hk
  · exact hk
  · exact hk
  · exact hk
  · exact hk
  · exact hk
  · exact hk
  · exact hk
  · exact hk
  · exact hk
  · exact hk
  · exact hk
  · exact hk
  · exact hk
  · exact hk
  · exact hk
  · exact mo_515 h hk
  · exact hk
  · exact hk
  · exact hk
  · exact hk
  · exact hk
  · exact hk
  · exact hk
  · exact hk
  · exact hk
  · exact hk
  · exact hk
  · exact hk
  · exact hk
  · exact hk
  · exact hk
  · exact hk
  · exact hk
  · exact hk
  · exact hk
  · exact hk
  · exact hk
  · exact hk
  · exact hk
  · exact hk
  · exact hk
  · exact hk
  · exact hk
  · exact hk
  · exact hk
  · exact hk
  · exact hk
  · exact hk
  · exact hk
  · exact hk
  · exact hk
  · exact hk
  · exact hk
  · exact hk
  · exact hk
  · exact hk
  · exact mo_556 h hk
  · exact hk
  · exact hk
  · exact hk
  · exact hk
  · exact hk
  · exact hk
  · exact hk
  · exact hk
  · exact hk
  · exact hk
  · exact hk
  · exact hk
  · exact hk
  · exact hk
  · exact hk
  · exact hk
  · exact mo_573 h hk
  · exact hk
  · exact hk
  · exact hk
  · exact hk
  · exact hk
  · exact hk
  · exact mo_580 h hk
  · exact hk
  · exact mo_582 h hk
  · exact hk
  · exact mo_584 h hk
  · exact hk
  · exact mo_586 h hk
  · exact hk
  · exact hk
  · exact hk
  · exact hk
  · exact hk
  · exact hk
  · exact hk
  · exact hk
  · exact hk
  · exact hk
  · exact hk
  · exact hk
  · exact hk
  · exact hk
  · exact hk
  · exact hk
  · exact hk
  · exact hk
  · exact mo_605 h hk
  · exact hk
  · exact hk
  · exact hk
  · exact hk
  · exact hk

def zk (k : Nat) (e : va_E) : Prop := (k = 7 ∨ k = 107 ∨ k = 207 → fldI e 1 = some 0 ∧ fldI e 6 = some 0 ∧ fldI e 12 = some 0) ∧ (k = 6 ∨ k = 106 → fldI e 0 = some 0) ∧ (k = 1 → fldI e 5 = some 0) ∧ (k = 11 → fldI e 1 = some 0 ∧ fldI e 8 = some 0) ∧ (k = 12 → fldI e 3 = some 0 ∧ fldI e 5 = some 0 ∧ fldI e 29 = some 0 ∧ fldI e 32 = some 0) ∧ (k = 508 ∨ k = 549 ∨ k = 521 → ∀ g, arI e = some g → ∀ j, g j = 0)
