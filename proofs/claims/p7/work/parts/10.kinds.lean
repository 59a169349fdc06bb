def ok_20 (cI : ClassId) (e : va_E) : Prop := okI cI 18 (-2147483648) 2147483647 e
def ok_21 (cI : ClassId) (e : va_E) : Prop := okI cI 20 (-2147483648) 2147483647 e
def ok_22 (cI : ClassId) (e : va_E) : Prop := okI cI 20 0 2 e
def ok_23 (cI : ClassId) (e : va_E) : Prop := okI cI 8 (-2147483648) 2147483647 e
def ok_24 (cI : ClassId) (e : va_E) : Prop := okI cI 96 0 8 e
def ok_25 (cI : ClassId) (e : va_E) : Prop := okI cI 12 0 8 e
def ok_26 (cI : ClassId) (e : va_E) : Prop := okI cI 64 0 8 e
def ok_27 (cI : ClassId) (e : va_E) : Prop := okI cI 8 0 8 e
def ok_28 (cI : ClassId) (e : va_E) : Prop := okI cI 26 0 8 e
def ok_29 (cI : ClassId) (e : va_E) : Prop := okI cI 6 (-2147483648) 2147483647 e
def ok_30 (cI : ClassId) (e : va_E) : Prop := okI cI 81 0 20 e
def ok_31 (cI : ClassId) (e : va_E) : Prop := okI cI 20 0 8 e
def ok_32 (cI : ClassId) (e : va_E) : Prop := okI cI 9 0 3 e
def ok_33 (cI : ClassId) (e : va_E) : Prop := okI cI 9 0 3 e
def ok_34 (cI : ClassId) (e : va_E) : Prop := okI cI 36 0 20 e
def ok_35 (cR : ClassId) (L : List Nat) (kd : Nat → Nat) (e : va_E) : Prop := okQ cR L kd 8 4 e
def ok_36 (cI : ClassId) (e : va_E) : Prop := okI cI 8 (-1) 19 e
def ok_37 (cI : ClassId) (e : va_E) : Prop := okI cI 80 (-2147483648) 2147483647 e
def ok_38 (cI : ClassId) (e : va_E) : Prop := okI cI 80 0 10 e
def ok_39 (cI : ClassId) (e : va_E) : Prop := okI cI 800 (-2147483648) 2147483647 e
def ok_40 (cI : ClassId) (e : va_E) : Prop := okI cI 10 0 255 e
def ok_41 (cI : ClassId) (e : va_E) : Prop := okI cI 4096 0 32768 e
def ok_42 (cL : ClassId) (e : va_E) : Prop := okJ cL 32768 e
def ok_43 (cL : ClassId) (e : va_E) : Prop := okJ cL 89 e
def ok_44 (cI : ClassId) (e : va_E) : Prop := okI cI 200 (-2147483648) 2147483647 e
def ok_45 (cI : ClassId) (e : va_E) : Prop := okI cI 9 (-1) 19 e
def ok_46 (cI : ClassId) (e : va_E) : Prop := okI cI 1024 0 387420488 e
def ok_47 (cI : ClassId) (e : va_E) : Prop := okI cI 1024 0 255 e
def ok_48 (cI : ClassId) (e : va_E) : Prop := okI cI 6561 (-2147483648) 2147483647 e
def ok_49 (cI : ClassId) (e : va_E) : Prop := okI cI 256 (-2147483648) 2147483647 e
def ok_50 (cI : ClassId) (e : va_E) : Prop := okI cI 8 0 7 e
def ok_51 (cI : ClassId) (e : va_E) : Prop := okI cI 108 (-2147483648) 2147483647 e
def ok_52 (cI : ClassId) (e : va_E) : Prop := okI cI 12 0 9 e
def ok_53 (cI : ClassId) (e : va_E) : Prop := okI cI 600 (-2147483648) 2147483647 e
def ok_54 (cI : ClassId) (e : va_E) : Prop := okI cI 584 0 72 e
def ok_55 (cI : ClassId) (e : va_E) : Prop := okI cI 5329 0 1 e
def ok_56 (cI : ClassId) (e : va_E) : Prop := okI cI 6 0 7 e
def ok_57 (cI : ClassId) (e : va_E) : Prop := okI cI 511 0 72 e
def ok_58 (cI : ClassId) (e : va_E) : Prop := okI cI 2 0 8 e
def ok_59 (cI : ClassId) (e : va_E) : Prop := okI cI 96 (-2147483648) 2147483647 e
def ok_60 (cI : ClassId) (e : va_E) : Prop := okI cI 16 (-1) 19 e
def ok_0 (L : List Nat) (kd : Nat → Nat) (e : va_E) : Prop := ∃ (r0 : Nat) (r1 : Nat) (r2 : Nat) (v3 : Int32) (r4 : Nat) (r5 : Nat) (r6 : Nat) (v7 : Int32) (r8 : Nat) (v9 : Int32) (v10 : Int32), e = .inr (0, [.ref r0, .ref r1, .ref r2, .int v3, .ref r4, .ref r5, .ref r6, .int v7, .ref r8, .int v9, .int v10]) ∧ (r0 ∈ L ∧ kd r0 = 54) ∧ (r1 ∈ L ∧ kd r1 = 55) ∧ (r2 ∈ L ∧ kd r2 = 56) ∧ (0 ≤ v3.toInt ∧ v3.toInt ≤ 6) ∧ (r4 ∈ L ∧ kd r4 = 56) ∧ (r5 ∈ L ∧ kd r5 = 57) ∧ (r6 ∈ L ∧ kd r6 = 56) ∧ (r8 ∈ L ∧ kd r8 = 58)
def ok_1 (L : List Nat) (kd : Nat → Nat) (e : va_E) : Prop := ∃ (r0 : Nat) (r1 : Nat) (r2 : Nat) (v3 : Int32) (v4 : Int32) (v5 : Int32), e = .inr (1, [.ref r0, .ref r1, .ref r2, .int v3, .int v4, .int v5]) ∧ (r0 ∈ L ∧ kd r0 = 41) ∧ (r1 ∈ L ∧ kd r1 = 42) ∧ (r2 ∈ L ∧ kd r2 = 43) ∧ (0 ≤ v3.toInt ∧ v3.toInt ≤ 89) ∧ (0 ≤ v4.toInt ∧ v4.toInt ≤ 3072) ∧ (0 ≤ v5.toInt ∧ v5.toInt ≤ 32768)
def ok_2 (L : List Nat) (kd : Nat → Nat) (e : va_E) : Prop := ∃ (r0 : Nat) (v1 : Int32) (v2 : Int32) (r3 : Nat) (v4 : Int32) (v5 : Int32) (v6 : Int32) (v7 : Int32) (v8 : Int32) (v9 : Int32), e = .inr (2, [.ref r0, .int v1, .int v2, .ref r3, .int v4, .int v5, .int v6, .int v7, .int v8, .int v9]) ∧ (r0 ∈ L ∧ kd r0 = 7) ∧ (r3 ∈ L ∧ kd r3 = 53) ∧ (0 ≤ v4.toInt ∧ v4.toInt ≤ 600) ∧ (0 ≤ v5.toInt ∧ v5.toInt ≤ 600) ∧ (0 ≤ v6.toInt ∧ v6.toInt ≤ 8) ∧ (0 ≤ v7.toInt ∧ v7.toInt ≤ 8) ∧ (0 ≤ v8.toInt ∧ v8.toInt ≤ 8)
def ok_3 (L : List Nat) (kd : Nat → Nat) (e : va_E) : Prop := ∃ (r0 : Nat) (r1 : Nat) (r2 : Nat) (r3 : Nat) (r4 : Nat) (v5 : Int32) (v6 : Int32) (v7 : Int32) (v8 : Int32) (v9 : Int32) (v10 : Int32) (v11 : Int32) (r12 : Nat) (r13 : Nat) (r14 : Nat) (v15 : Int32) (r16 : Nat) (r17 : Nat), e = .inr (3, [.ref r0, .ref r1, .ref r2, .ref r3, .ref r4, .int v5, .int v6, .int v7, .int v8, .int v9, .int v10, .int v11, .ref r12, .ref r13, .ref r14, .int v15, .ref r16, .ref r17]) ∧ (r0 ∈ L ∧ kd r0 = 7) ∧ (r1 ∈ L ∧ kd r1 = 10) ∧ (r2 ∈ L ∧ kd r2 = 8) ∧ (r3 ∈ L ∧ kd r3 = 1) ∧ (r4 ∈ L ∧ kd r4 = 27) ∧ (0 ≤ v5.toInt ∧ v5.toInt ≤ 8) ∧ (0 ≤ v6.toInt ∧ v6.toInt ≤ 1) ∧ (0 ≤ v7.toInt ∧ v7.toInt ≤ 1) ∧ (r12 ∈ L ∧ kd r12 = 45) ∧ (r13 ∈ L ∧ kd r13 = 46) ∧ (r14 ∈ L ∧ kd r14 = 47) ∧ (0 ≤ v15.toInt ∧ v15.toInt ≤ 1024) ∧ (r16 ∈ L ∧ kd r16 = 48) ∧ (r17 ∈ L ∧ kd r17 = 49)
def ok_4 (L : List Nat) (kd : Nat → Nat) (e : va_E) : Prop := ∃ (v0 : Int32) (v1 : Int32) (v2 : Int32) (v3 : Int32) (r4 : Nat) (r5 : Nat) (r6 : Nat) (r7 : Nat) (v8 : Int32) (v9 : Int32) (v10 : Int32), e = .inr (4, [.int v0, .int v1, .int v2, .int v3, .ref r4, .ref r5, .ref r6, .ref r7, .int v8, .int v9, .int v10]) ∧ (0 ≤ v0.toInt ∧ v0.toInt ≤ 8) ∧ (0 ≤ v1.toInt ∧ v1.toInt ≤ 8) ∧ (0 ≤ v2.toInt ∧ v2.toInt ≤ 3) ∧ (0 ≤ v3.toInt ∧ v3.toInt ≤ 3) ∧ (r4 ∈ L ∧ kd r4 = 5) ∧ (r5 ∈ L ∧ kd r5 = 5) ∧ (r6 ∈ L ∧ kd r6 = 22) ∧ (r7 ∈ L ∧ kd r7 = 23)
def ok_5 (L : List Nat) (kd : Nat → Nat) (e : va_E) : Prop := ∃ (r0 : Nat) (r1 : Nat) (r2 : Nat) (v3 : Int32) (v4 : Int32) (v5 : Int32), e = .inr (5, [.ref r0, .ref r1, .ref r2, .int v3, .int v4, .int v5]) ∧ (r0 ∈ L ∧ kd r0 = 20) ∧ (r1 ∈ L ∧ kd r1 = 20) ∧ (r2 ∈ L ∧ kd r2 = 21)
def ok_6 (L : List Nat) (kd : Nat → Nat) (e : va_E) : Prop := ∃ (v0 : Int32) (v1 : Int32) (r2 : Nat) (r3 : Nat) (r4 : Nat) (v5 : Int32) (r6 : Nat) (r7 : Nat) (r8 : Nat), e = .inr (6, [.int v0, .int v1, .ref r2, .ref r3, .ref r4, .int v5, .ref r6, .ref r7, .ref r8]) ∧ (0 ≤ v1.toInt ∧ v1.toInt ≤ 1) ∧ (r2 ∈ L ∧ kd r2 = 50) ∧ (r3 ∈ L ∧ kd r3 = 9) ∧ (r4 ∈ L ∧ kd r4 = 9) ∧ (r6 ∈ L ∧ kd r6 = 51) ∧ (r7 ∈ L ∧ kd r7 = 52) ∧ (r8 ∈ L ∧ kd r8 = 27)
def ok_7 (L : List Nat) (kd : Nat → Nat) (e : va_E) : Prop := ∃ (r0 : Nat) (v1 : Int32) (r2 : Nat) (r3 : Nat) (r4 : Nat) (r5 : Nat) (v6 : Int32) (r7 : Nat) (r8 : Nat) (r9 : Nat) (r10 : Nat) (r11 : Nat) (v12 : Int32) (r13 : Nat) (r14 : Nat) (r15 : Nat), e = .inr (7, [.ref r0, .int v1, .ref r2, .ref r3, .ref r4, .ref r5, .int v6, .ref r7, .ref r8, .ref r9, .ref r10, .ref r11, .int v12, .ref r13, .ref r14, .ref r15]) ∧ (r0 ∈ L ∧ kd r0 = 28) ∧ (0 ≤ v1.toInt ∧ v1.toInt ≤ 8) ∧ (r2 ∈ L ∧ kd r2 = 29) ∧ (r3 ∈ L ∧ kd r3 = 30) ∧ (r4 ∈ L ∧ kd r4 = 31) ∧ (r5 ∈ L ∧ kd r5 = 31) ∧ (0 ≤ v6.toInt ∧ v6.toInt ≤ 20) ∧ (r7 ∈ L ∧ kd r7 = 32) ∧ (r8 ∈ L ∧ kd r8 = 33) ∧ (r9 ∈ L ∧ kd r9 = 34) ∧ (r10 ∈ L ∧ kd r10 = 34) ∧ (r11 ∈ L ∧ kd r11 = 35) ∧ (0 ≤ v12.toInt ∧ v12.toInt ≤ 8) ∧ (r13 ∈ L ∧ kd r13 = 9) ∧ (r14 ∈ L ∧ kd r14 = 13) ∧ (r15 ∈ L ∧ kd r15 = 36)
def ok_8 (L : List Nat) (kd : Nat → Nat) (e : va_E) : Prop := ∃ (r0 : Nat) (r1 : Nat) (r2 : Nat) (r3 : Nat) (r4 : Nat), e = .inr (8, [.ref r0, .ref r1, .ref r2, .ref r3, .ref r4]) ∧ (r0 ∈ L ∧ kd r0 = 37) ∧ (r1 ∈ L ∧ kd r1 = 37) ∧ (r2 ∈ L ∧ kd r2 = 38) ∧ (r3 ∈ L ∧ kd r3 = 39) ∧ (r4 ∈ L ∧ kd r4 = 40)
def ok_9 (L : List Nat) (kd : Nat → Nat) (e : va_E) : Prop := ∃ (r0 : Nat) (r1 : Nat) (v2 : Int32), e = .inr (9, [.ref r0, .ref r1, .int v2]) ∧ (r0 ∈ L ∧ kd r0 = 24) ∧ (r1 ∈ L ∧ kd r1 = 25) ∧ (0 ≤ v2.toInt ∧ v2.toInt ≤ 12)
def ok_10 (L : List Nat) (kd : Nat → Nat) (e : va_E) : Prop := ∃ (r0 : Nat) (v1 : Int32) (v2 : Int32), e = .inr (10, [.ref r0, .int v1, .int v2]) ∧ (r0 ∈ L ∧ kd r0 = 44) ∧ (0 ≤ v1.toInt ∧ v1.toInt ≤ 200) ∧ (0 ≤ v2.toInt ∧ v2.toInt ≤ 1)
def ok_11 (L : List Nat) (kd : Nat → Nat) (e : va_E) : Prop := ∃ (r0 : Nat) (v1 : Int32) (r2 : Nat) (r3 : Nat) (r4 : Nat) (r5 : Nat) (r6 : Nat) (r7 : Nat) (v8 : Int32) (r9 : Nat) (r10 : Nat) (r11 : Nat) (v12 : Int32) (v13 : Int32) (r14 : Nat) (v15 : Int32) (r16 : Nat) (r17 : Nat) (v18 : Int32), e = .inr (11, [.ref r0, .int v1, .ref r2, .ref r3, .ref r4, .ref r5, .ref r6, .ref r7, .int v8, .ref r9, .ref r10, .ref r11, .int v12, .int v13, .ref r14, .int v15, .ref r16, .ref r17, .int v18]) ∧ (r0 ∈ L ∧ kd r0 = 53) ∧ (0 ≤ v1.toInt ∧ v1.toInt ≤ 600) ∧ (r2 ∈ L ∧ kd r2 = 3) ∧ (r3 ∈ L ∧ kd r3 = 7) ∧ (r4 ∈ L ∧ kd r4 = 10) ∧ (r5 ∈ L ∧ kd r5 = 6) ∧ (r6 ∈ L ∧ kd r6 = 7) ∧ (r7 ∈ L ∧ kd r7 = 6) ∧ (0 ≤ v8.toInt ∧ v8.toInt ≤ 1) ∧ (r9 ∈ L ∧ kd r9 = 2) ∧ (r10 ∈ L ∧ kd r10 = 0) ∧ (r11 ∈ L ∧ kd r11 = 59) ∧ (0 ≤ v12.toInt ∧ v12.toInt ≤ 96) ∧ (r14 ∈ L ∧ kd r14 = 27) ∧ (0 ≤ v15.toInt ∧ v15.toInt ≤ 8) ∧ (r16 ∈ L ∧ kd r16 = 60) ∧ (r17 ∈ L ∧ kd r17 = 25)
def ok_13 (L : List Nat) (kd : Nat → Nat) (e : va_E) : Prop := ∃ (r0 : Nat) (r1 : Nat) (v2 : Int32), e = .inr (9, [.ref r0, .ref r1, .int v2]) ∧ (r0 ∈ L ∧ kd r0 = 26) ∧ (r1 ∈ L ∧ kd r1 = 27) ∧ (0 ≤ v2.toInt ∧ v2.toInt ≤ 8)
def okc (cI cL cZ cR : ClassId) (L : List Nat) (kd : Nat → Nat) (k : Nat) (e : va_E) : Prop := match k with
  | 0 => ok_0 L kd e
  | 1 => ok_1 L kd e
  | 2 => ok_2 L kd e
  | 3 => ok_3 L kd e
  | 4 => ok_4 L kd e
  | 5 => ok_5 L kd e
  | 6 => ok_6 L kd e
  | 7 => ok_7 L kd e
  | 8 => ok_8 L kd e
  | 9 => ok_9 L kd e
  | 10 => ok_10 L kd e
  | 11 => ok_11 L kd e
  | 13 => ok_13 L kd e
  | 20 => ok_20 cI e
  | 21 => ok_21 cI e
  | 22 => ok_22 cI e
  | 23 => ok_23 cI e
  | 24 => ok_24 cI e
  | 25 => ok_25 cI e
  | 26 => ok_26 cI e
  | 27 => ok_27 cI e
  | 28 => ok_28 cI e
  | 29 => ok_29 cI e
  | 30 => ok_30 cI e
  | 31 => ok_31 cI e
  | 32 => ok_32 cI e
  | 33 => ok_33 cI e
  | 34 => ok_34 cI e
  | 35 => ok_35 cR L kd e
  | 36 => ok_36 cI e
  | 37 => ok_37 cI e
  | 38 => ok_38 cI e
  | 39 => ok_39 cI e
  | 40 => ok_40 cI e
  | 41 => ok_41 cI e
  | 42 => ok_42 cL e
  | 43 => ok_43 cL e
  | 44 => ok_44 cI e
  | 45 => ok_45 cI e
  | 46 => ok_46 cI e
  | 47 => ok_47 cI e
  | 48 => ok_48 cI e
  | 49 => ok_49 cI e
  | 50 => ok_50 cI e
  | 51 => ok_51 cI e
  | 52 => ok_52 cI e
  | 53 => ok_53 cI e
  | 54 => ok_54 cI e
  | 55 => ok_55 cI e
  | 56 => ok_56 cI e
  | 57 => ok_57 cI e
  | 58 => ok_58 cI e
  | 59 => ok_59 cI e
  | 60 => ok_60 cI e
  | _ => False
theorem un_0 {cI cL cZ cR : ClassId} {L : List Nat} {kd : Nat → Nat} {a : Nat} {e : va_E} (h : okc cI cL cZ cR L kd (kd a) e) (k : kd a = 0) : ok_0 L kd e := by rw [k] at h; exact h
theorem mk_0 {cI cL cZ cR : ClassId} {L : List Nat} {kd : Nat → Nat} {a : Nat} {e : va_E} (k : kd a = 0) (h : ok_0 L kd e) : okc cI cL cZ cR L kd (kd a) e := by rw [k]; exact h
theorem un_1 {cI cL cZ cR : ClassId} {L : List Nat} {kd : Nat → Nat} {a : Nat} {e : va_E} (h : okc cI cL cZ cR L kd (kd a) e) (k : kd a = 1) : ok_1 L kd e := by rw [k] at h; exact h
theorem mk_1 {cI cL cZ cR : ClassId} {L : List Nat} {kd : Nat → Nat} {a : Nat} {e : va_E} (k : kd a = 1) (h : ok_1 L kd e) : okc cI cL cZ cR L kd (kd a) e := by rw [k]; exact h
theorem un_2 {cI cL cZ cR : ClassId} {L : List Nat} {kd : Nat → Nat} {a : Nat} {e : va_E} (h : okc cI cL cZ cR L kd (kd a) e) (k : kd a = 2) : ok_2 L kd e := by rw [k] at h; exact h
theorem mk_2 {cI cL cZ cR : ClassId} {L : List Nat} {kd : Nat → Nat} {a : Nat} {e : va_E} (k : kd a = 2) (h : ok_2 L kd e) : okc cI cL cZ cR L kd (kd a) e := by rw [k]; exact h
theorem un_3 {cI cL cZ cR : ClassId} {L : List Nat} {kd : Nat → Nat} {a : Nat} {e : va_E} (h : okc cI cL cZ cR L kd (kd a) e) (k : kd a = 3) : ok_3 L kd e := by rw [k] at h; exact h
theorem mk_3 {cI cL cZ cR : ClassId} {L : List Nat} {kd : Nat → Nat} {a : Nat} {e : va_E} (k : kd a = 3) (h : ok_3 L kd e) : okc cI cL cZ cR L kd (kd a) e := by rw [k]; exact h
theorem un_4 {cI cL cZ cR : ClassId} {L : List Nat} {kd : Nat → Nat} {a : Nat} {e : va_E} (h : okc cI cL cZ cR L kd (kd a) e) (k : kd a = 4) : ok_4 L kd e := by rw [k] at h; exact h
theorem mk_4 {cI cL cZ cR : ClassId} {L : List Nat} {kd : Nat → Nat} {a : Nat} {e : va_E} (k : kd a = 4) (h : ok_4 L kd e) : okc cI cL cZ cR L kd (kd a) e := by rw [k]; exact h
theorem un_5 {cI cL cZ cR : ClassId} {L : List Nat} {kd : Nat → Nat} {a : Nat} {e : va_E} (h : okc cI cL cZ cR L kd (kd a) e) (k : kd a = 5) : ok_5 L kd e := by rw [k] at h; exact h
theorem mk_5 {cI cL cZ cR : ClassId} {L : List Nat} {kd : Nat → Nat} {a : Nat} {e : va_E} (k : kd a = 5) (h : ok_5 L kd e) : okc cI cL cZ cR L kd (kd a) e := by rw [k]; exact h
theorem un_6 {cI cL cZ cR : ClassId} {L : List Nat} {kd : Nat → Nat} {a : Nat} {e : va_E} (h : okc cI cL cZ cR L kd (kd a) e) (k : kd a = 6) : ok_6 L kd e := by rw [k] at h; exact h
theorem mk_6 {cI cL cZ cR : ClassId} {L : List Nat} {kd : Nat → Nat} {a : Nat} {e : va_E} (k : kd a = 6) (h : ok_6 L kd e) : okc cI cL cZ cR L kd (kd a) e := by rw [k]; exact h
theorem un_7 {cI cL cZ cR : ClassId} {L : List Nat} {kd : Nat → Nat} {a : Nat} {e : va_E} (h : okc cI cL cZ cR L kd (kd a) e) (k : kd a = 7) : ok_7 L kd e := by rw [k] at h; exact h
theorem mk_7 {cI cL cZ cR : ClassId} {L : List Nat} {kd : Nat → Nat} {a : Nat} {e : va_E} (k : kd a = 7) (h : ok_7 L kd e) : okc cI cL cZ cR L kd (kd a) e := by rw [k]; exact h
theorem un_8 {cI cL cZ cR : ClassId} {L : List Nat} {kd : Nat → Nat} {a : Nat} {e : va_E} (h : okc cI cL cZ cR L kd (kd a) e) (k : kd a = 8) : ok_8 L kd e := by rw [k] at h; exact h
theorem mk_8 {cI cL cZ cR : ClassId} {L : List Nat} {kd : Nat → Nat} {a : Nat} {e : va_E} (k : kd a = 8) (h : ok_8 L kd e) : okc cI cL cZ cR L kd (kd a) e := by rw [k]; exact h
theorem un_9 {cI cL cZ cR : ClassId} {L : List Nat} {kd : Nat → Nat} {a : Nat} {e : va_E} (h : okc cI cL cZ cR L kd (kd a) e) (k : kd a = 9) : ok_9 L kd e := by rw [k] at h; exact h
theorem mk_9 {cI cL cZ cR : ClassId} {L : List Nat} {kd : Nat → Nat} {a : Nat} {e : va_E} (k : kd a = 9) (h : ok_9 L kd e) : okc cI cL cZ cR L kd (kd a) e := by rw [k]; exact h
theorem un_10 {cI cL cZ cR : ClassId} {L : List Nat} {kd : Nat → Nat} {a : Nat} {e : va_E} (h : okc cI cL cZ cR L kd (kd a) e) (k : kd a = 10) : ok_10 L kd e := by rw [k] at h; exact h
theorem mk_10 {cI cL cZ cR : ClassId} {L : List Nat} {kd : Nat → Nat} {a : Nat} {e : va_E} (k : kd a = 10) (h : ok_10 L kd e) : okc cI cL cZ cR L kd (kd a) e := by rw [k]; exact h
theorem un_11 {cI cL cZ cR : ClassId} {L : List Nat} {kd : Nat → Nat} {a : Nat} {e : va_E} (h : okc cI cL cZ cR L kd (kd a) e) (k : kd a = 11) : ok_11 L kd e := by rw [k] at h; exact h
theorem mk_11 {cI cL cZ cR : ClassId} {L : List Nat} {kd : Nat → Nat} {a : Nat} {e : va_E} (k : kd a = 11) (h : ok_11 L kd e) : okc cI cL cZ cR L kd (kd a) e := by rw [k]; exact h
theorem un_13 {cI cL cZ cR : ClassId} {L : List Nat} {kd : Nat → Nat} {a : Nat} {e : va_E} (h : okc cI cL cZ cR L kd (kd a) e) (k : kd a = 13) : ok_13 L kd e := by rw [k] at h; exact h
theorem mk_13 {cI cL cZ cR : ClassId} {L : List Nat} {kd : Nat → Nat} {a : Nat} {e : va_E} (k : kd a = 13) (h : ok_13 L kd e) : okc cI cL cZ cR L kd (kd a) e := by rw [k]; exact h
theorem un_20 {cI cL cZ cR : ClassId} {L : List Nat} {kd : Nat → Nat} {a : Nat} {e : va_E} (h : okc cI cL cZ cR L kd (kd a) e) (k : kd a = 20) : ok_20 cI e := by rw [k] at h; exact h
theorem mk_20 {cI cL cZ cR : ClassId} {L : List Nat} {kd : Nat → Nat} {a : Nat} {e : va_E} (k : kd a = 20) (h : ok_20 cI e) : okc cI cL cZ cR L kd (kd a) e := by rw [k]; exact h
theorem un_21 {cI cL cZ cR : ClassId} {L : List Nat} {kd : Nat → Nat} {a : Nat} {e : va_E} (h : okc cI cL cZ cR L kd (kd a) e) (k : kd a = 21) : ok_21 cI e := by rw [k] at h; exact h
theorem mk_21 {cI cL cZ cR : ClassId} {L : List Nat} {kd : Nat → Nat} {a : Nat} {e : va_E} (k : kd a = 21) (h : ok_21 cI e) : okc cI cL cZ cR L kd (kd a) e := by rw [k]; exact h
theorem un_22 {cI cL cZ cR : ClassId} {L : List Nat} {kd : Nat → Nat} {a : Nat} {e : va_E} (h : okc cI cL cZ cR L kd (kd a) e) (k : kd a = 22) : ok_22 cI e := by rw [k] at h; exact h
theorem mk_22 {cI cL cZ cR : ClassId} {L : List Nat} {kd : Nat → Nat} {a : Nat} {e : va_E} (k : kd a = 22) (h : ok_22 cI e) : okc cI cL cZ cR L kd (kd a) e := by rw [k]; exact h
theorem un_23 {cI cL cZ cR : ClassId} {L : List Nat} {kd : Nat → Nat} {a : Nat} {e : va_E} (h : okc cI cL cZ cR L kd (kd a) e) (k : kd a = 23) : ok_23 cI e := by rw [k] at h; exact h
theorem mk_23 {cI cL cZ cR : ClassId} {L : List Nat} {kd : Nat → Nat} {a : Nat} {e : va_E} (k : kd a = 23) (h : ok_23 cI e) : okc cI cL cZ cR L kd (kd a) e := by rw [k]; exact h
theorem un_24 {cI cL cZ cR : ClassId} {L : List Nat} {kd : Nat → Nat} {a : Nat} {e : va_E} (h : okc cI cL cZ cR L kd (kd a) e) (k : kd a = 24) : ok_24 cI e := by rw [k] at h; exact h
theorem mk_24 {cI cL cZ cR : ClassId} {L : List Nat} {kd : Nat → Nat} {a : Nat} {e : va_E} (k : kd a = 24) (h : ok_24 cI e) : okc cI cL cZ cR L kd (kd a) e := by rw [k]; exact h
theorem un_25 {cI cL cZ cR : ClassId} {L : List Nat} {kd : Nat → Nat} {a : Nat} {e : va_E} (h : okc cI cL cZ cR L kd (kd a) e) (k : kd a = 25) : ok_25 cI e := by rw [k] at h; exact h
theorem mk_25 {cI cL cZ cR : ClassId} {L : List Nat} {kd : Nat → Nat} {a : Nat} {e : va_E} (k : kd a = 25) (h : ok_25 cI e) : okc cI cL cZ cR L kd (kd a) e := by rw [k]; exact h
theorem un_26 {cI cL cZ cR : ClassId} {L : List Nat} {kd : Nat → Nat} {a : Nat} {e : va_E} (h : okc cI cL cZ cR L kd (kd a) e) (k : kd a = 26) : ok_26 cI e := by rw [k] at h; exact h
theorem mk_26 {cI cL cZ cR : ClassId} {L : List Nat} {kd : Nat → Nat} {a : Nat} {e : va_E} (k : kd a = 26) (h : ok_26 cI e) : okc cI cL cZ cR L kd (kd a) e := by rw [k]; exact h
theorem un_27 {cI cL cZ cR : ClassId} {L : List Nat} {kd : Nat → Nat} {a : Nat} {e : va_E} (h : okc cI cL cZ cR L kd (kd a) e) (k : kd a = 27) : ok_27 cI e := by rw [k] at h; exact h
theorem mk_27 {cI cL cZ cR : ClassId} {L : List Nat} {kd : Nat → Nat} {a : Nat} {e : va_E} (k : kd a = 27) (h : ok_27 cI e) : okc cI cL cZ cR L kd (kd a) e := by rw [k]; exact h
theorem un_28 {cI cL cZ cR : ClassId} {L : List Nat} {kd : Nat → Nat} {a : Nat} {e : va_E} (h : okc cI cL cZ cR L kd (kd a) e) (k : kd a = 28) : ok_28 cI e := by rw [k] at h; exact h
theorem mk_28 {cI cL cZ cR : ClassId} {L : List Nat} {kd : Nat → Nat} {a : Nat} {e : va_E} (k : kd a = 28) (h : ok_28 cI e) : okc cI cL cZ cR L kd (kd a) e := by rw [k]; exact h
theorem un_29 {cI cL cZ cR : ClassId} {L : List Nat} {kd : Nat → Nat} {a : Nat} {e : va_E} (h : okc cI cL cZ cR L kd (kd a) e) (k : kd a = 29) : ok_29 cI e := by rw [k] at h; exact h
theorem mk_29 {cI cL cZ cR : ClassId} {L : List Nat} {kd : Nat → Nat} {a : Nat} {e : va_E} (k : kd a = 29) (h : ok_29 cI e) : okc cI cL cZ cR L kd (kd a) e := by rw [k]; exact h
theorem un_30 {cI cL cZ cR : ClassId} {L : List Nat} {kd : Nat → Nat} {a : Nat} {e : va_E} (h : okc cI cL cZ cR L kd (kd a) e) (k : kd a = 30) : ok_30 cI e := by rw [k] at h; exact h
theorem mk_30 {cI cL cZ cR : ClassId} {L : List Nat} {kd : Nat → Nat} {a : Nat} {e : va_E} (k : kd a = 30) (h : ok_30 cI e) : okc cI cL cZ cR L kd (kd a) e := by rw [k]; exact h
theorem un_31 {cI cL cZ cR : ClassId} {L : List Nat} {kd : Nat → Nat} {a : Nat} {e : va_E} (h : okc cI cL cZ cR L kd (kd a) e) (k : kd a = 31) : ok_31 cI e := by rw [k] at h; exact h
theorem mk_31 {cI cL cZ cR : ClassId} {L : List Nat} {kd : Nat → Nat} {a : Nat} {e : va_E} (k : kd a = 31) (h : ok_31 cI e) : okc cI cL cZ cR L kd (kd a) e := by rw [k]; exact h
theorem un_32 {cI cL cZ cR : ClassId} {L : List Nat} {kd : Nat → Nat} {a : Nat} {e : va_E} (h : okc cI cL cZ cR L kd (kd a) e) (k : kd a = 32) : ok_32 cI e := by rw [k] at h; exact h
theorem mk_32 {cI cL cZ cR : ClassId} {L : List Nat} {kd : Nat → Nat} {a : Nat} {e : va_E} (k : kd a = 32) (h : ok_32 cI e) : okc cI cL cZ cR L kd (kd a) e := by rw [k]; exact h
theorem un_33 {cI cL cZ cR : ClassId} {L : List Nat} {kd : Nat → Nat} {a : Nat} {e : va_E} (h : okc cI cL cZ cR L kd (kd a) e) (k : kd a = 33) : ok_33 cI e := by rw [k] at h; exact h
theorem mk_33 {cI cL cZ cR : ClassId} {L : List Nat} {kd : Nat → Nat} {a : Nat} {e : va_E} (k : kd a = 33) (h : ok_33 cI e) : okc cI cL cZ cR L kd (kd a) e := by rw [k]; exact h
theorem un_34 {cI cL cZ cR : ClassId} {L : List Nat} {kd : Nat → Nat} {a : Nat} {e : va_E} (h : okc cI cL cZ cR L kd (kd a) e) (k : kd a = 34) : ok_34 cI e := by rw [k] at h; exact h
theorem mk_34 {cI cL cZ cR : ClassId} {L : List Nat} {kd : Nat → Nat} {a : Nat} {e : va_E} (k : kd a = 34) (h : ok_34 cI e) : okc cI cL cZ cR L kd (kd a) e := by rw [k]; exact h
theorem un_35 {cI cL cZ cR : ClassId} {L : List Nat} {kd : Nat → Nat} {a : Nat} {e : va_E} (h : okc cI cL cZ cR L kd (kd a) e) (k : kd a = 35) : ok_35 cR L kd e := by rw [k] at h; exact h
theorem mk_35 {cI cL cZ cR : ClassId} {L : List Nat} {kd : Nat → Nat} {a : Nat} {e : va_E} (k : kd a = 35) (h : ok_35 cR L kd e) : okc cI cL cZ cR L kd (kd a) e := by rw [k]; exact h
theorem un_36 {cI cL cZ cR : ClassId} {L : List Nat} {kd : Nat → Nat} {a : Nat} {e : va_E} (h : okc cI cL cZ cR L kd (kd a) e) (k : kd a = 36) : ok_36 cI e := by rw [k] at h; exact h
theorem mk_36 {cI cL cZ cR : ClassId} {L : List Nat} {kd : Nat → Nat} {a : Nat} {e : va_E} (k : kd a = 36) (h : ok_36 cI e) : okc cI cL cZ cR L kd (kd a) e := by rw [k]; exact h
theorem un_37 {cI cL cZ cR : ClassId} {L : List Nat} {kd : Nat → Nat} {a : Nat} {e : va_E} (h : okc cI cL cZ cR L kd (kd a) e) (k : kd a = 37) : ok_37 cI e := by rw [k] at h; exact h
theorem mk_37 {cI cL cZ cR : ClassId} {L : List Nat} {kd : Nat → Nat} {a : Nat} {e : va_E} (k : kd a = 37) (h : ok_37 cI e) : okc cI cL cZ cR L kd (kd a) e := by rw [k]; exact h
theorem un_38 {cI cL cZ cR : ClassId} {L : List Nat} {kd : Nat → Nat} {a : Nat} {e : va_E} (h : okc cI cL cZ cR L kd (kd a) e) (k : kd a = 38) : ok_38 cI e := by rw [k] at h; exact h
theorem mk_38 {cI cL cZ cR : ClassId} {L : List Nat} {kd : Nat → Nat} {a : Nat} {e : va_E} (k : kd a = 38) (h : ok_38 cI e) : okc cI cL cZ cR L kd (kd a) e := by rw [k]; exact h
theorem un_39 {cI cL cZ cR : ClassId} {L : List Nat} {kd : Nat → Nat} {a : Nat} {e : va_E} (h : okc cI cL cZ cR L kd (kd a) e) (k : kd a = 39) : ok_39 cI e := by rw [k] at h; exact h
theorem mk_39 {cI cL cZ cR : ClassId} {L : List Nat} {kd : Nat → Nat} {a : Nat} {e : va_E} (k : kd a = 39) (h : ok_39 cI e) : okc cI cL cZ cR L kd (kd a) e := by rw [k]; exact h
theorem un_40 {cI cL cZ cR : ClassId} {L : List Nat} {kd : Nat → Nat} {a : Nat} {e : va_E} (h : okc cI cL cZ cR L kd (kd a) e) (k : kd a = 40) : ok_40 cI e := by rw [k] at h; exact h
theorem mk_40 {cI cL cZ cR : ClassId} {L : List Nat} {kd : Nat → Nat} {a : Nat} {e : va_E} (k : kd a = 40) (h : ok_40 cI e) : okc cI cL cZ cR L kd (kd a) e := by rw [k]; exact h
theorem un_41 {cI cL cZ cR : ClassId} {L : List Nat} {kd : Nat → Nat} {a : Nat} {e : va_E} (h : okc cI cL cZ cR L kd (kd a) e) (k : kd a = 41) : ok_41 cI e := by rw [k] at h; exact h
theorem mk_41 {cI cL cZ cR : ClassId} {L : List Nat} {kd : Nat → Nat} {a : Nat} {e : va_E} (k : kd a = 41) (h : ok_41 cI e) : okc cI cL cZ cR L kd (kd a) e := by rw [k]; exact h
theorem un_42 {cI cL cZ cR : ClassId} {L : List Nat} {kd : Nat → Nat} {a : Nat} {e : va_E} (h : okc cI cL cZ cR L kd (kd a) e) (k : kd a = 42) : ok_42 cL e := by rw [k] at h; exact h
theorem mk_42 {cI cL cZ cR : ClassId} {L : List Nat} {kd : Nat → Nat} {a : Nat} {e : va_E} (k : kd a = 42) (h : ok_42 cL e) : okc cI cL cZ cR L kd (kd a) e := by rw [k]; exact h
theorem un_43 {cI cL cZ cR : ClassId} {L : List Nat} {kd : Nat → Nat} {a : Nat} {e : va_E} (h : okc cI cL cZ cR L kd (kd a) e) (k : kd a = 43) : ok_43 cL e := by rw [k] at h; exact h
theorem mk_43 {cI cL cZ cR : ClassId} {L : List Nat} {kd : Nat → Nat} {a : Nat} {e : va_E} (k : kd a = 43) (h : ok_43 cL e) : okc cI cL cZ cR L kd (kd a) e := by rw [k]; exact h
theorem un_44 {cI cL cZ cR : ClassId} {L : List Nat} {kd : Nat → Nat} {a : Nat} {e : va_E} (h : okc cI cL cZ cR L kd (kd a) e) (k : kd a = 44) : ok_44 cI e := by rw [k] at h; exact h
theorem mk_44 {cI cL cZ cR : ClassId} {L : List Nat} {kd : Nat → Nat} {a : Nat} {e : va_E} (k : kd a = 44) (h : ok_44 cI e) : okc cI cL cZ cR L kd (kd a) e := by rw [k]; exact h
theorem un_45 {cI cL cZ cR : ClassId} {L : List Nat} {kd : Nat → Nat} {a : Nat} {e : va_E} (h : okc cI cL cZ cR L kd (kd a) e) (k : kd a = 45) : ok_45 cI e := by rw [k] at h; exact h
theorem mk_45 {cI cL cZ cR : ClassId} {L : List Nat} {kd : Nat → Nat} {a : Nat} {e : va_E} (k : kd a = 45) (h : ok_45 cI e) : okc cI cL cZ cR L kd (kd a) e := by rw [k]; exact h
theorem un_46 {cI cL cZ cR : ClassId} {L : List Nat} {kd : Nat → Nat} {a : Nat} {e : va_E} (h : okc cI cL cZ cR L kd (kd a) e) (k : kd a = 46) : ok_46 cI e := by rw [k] at h; exact h
theorem mk_46 {cI cL cZ cR : ClassId} {L : List Nat} {kd : Nat → Nat} {a : Nat} {e : va_E} (k : kd a = 46) (h : ok_46 cI e) : okc cI cL cZ cR L kd (kd a) e := by rw [k]; exact h
theorem un_47 {cI cL cZ cR : ClassId} {L : List Nat} {kd : Nat → Nat} {a : Nat} {e : va_E} (h : okc cI cL cZ cR L kd (kd a) e) (k : kd a = 47) : ok_47 cI e := by rw [k] at h; exact h
theorem mk_47 {cI cL cZ cR : ClassId} {L : List Nat} {kd : Nat → Nat} {a : Nat} {e : va_E} (k : kd a = 47) (h : ok_47 cI e) : okc cI cL cZ cR L kd (kd a) e := by rw [k]; exact h
theorem un_48 {cI cL cZ cR : ClassId} {L : List Nat} {kd : Nat → Nat} {a : Nat} {e : va_E} (h : okc cI cL cZ cR L kd (kd a) e) (k : kd a = 48) : ok_48 cI e := by rw [k] at h; exact h
theorem mk_48 {cI cL cZ cR : ClassId} {L : List Nat} {kd : Nat → Nat} {a : Nat} {e : va_E} (k : kd a = 48) (h : ok_48 cI e) : okc cI cL cZ cR L kd (kd a) e := by rw [k]; exact h
theorem un_49 {cI cL cZ cR : ClassId} {L : List Nat} {kd : Nat → Nat} {a : Nat} {e : va_E} (h : okc cI cL cZ cR L kd (kd a) e) (k : kd a = 49) : ok_49 cI e := by rw [k] at h; exact h
theorem mk_49 {cI cL cZ cR : ClassId} {L : List Nat} {kd : Nat → Nat} {a : Nat} {e : va_E} (k : kd a = 49) (h : ok_49 cI e) : okc cI cL cZ cR L kd (kd a) e := by rw [k]; exact h
theorem un_50 {cI cL cZ cR : ClassId} {L : List Nat} {kd : Nat → Nat} {a : Nat} {e : va_E} (h : okc cI cL cZ cR L kd (kd a) e) (k : kd a = 50) : ok_50 cI e := by rw [k] at h; exact h
theorem mk_50 {cI cL cZ cR : ClassId} {L : List Nat} {kd : Nat → Nat} {a : Nat} {e : va_E} (k : kd a = 50) (h : ok_50 cI e) : okc cI cL cZ cR L kd (kd a) e := by rw [k]; exact h
theorem un_51 {cI cL cZ cR : ClassId} {L : List Nat} {kd : Nat → Nat} {a : Nat} {e : va_E} (h : okc cI cL cZ cR L kd (kd a) e) (k : kd a = 51) : ok_51 cI e := by rw [k] at h; exact h
theorem mk_51 {cI cL cZ cR : ClassId} {L : List Nat} {kd : Nat → Nat} {a : Nat} {e : va_E} (k : kd a = 51) (h : ok_51 cI e) : okc cI cL cZ cR L kd (kd a) e := by rw [k]; exact h
theorem un_52 {cI cL cZ cR : ClassId} {L : List Nat} {kd : Nat → Nat} {a : Nat} {e : va_E} (h : okc cI cL cZ cR L kd (kd a) e) (k : kd a = 52) : ok_52 cI e := by rw [k] at h; exact h
theorem mk_52 {cI cL cZ cR : ClassId} {L : List Nat} {kd : Nat → Nat} {a : Nat} {e : va_E} (k : kd a = 52) (h : ok_52 cI e) : okc cI cL cZ cR L kd (kd a) e := by rw [k]; exact h
theorem un_53 {cI cL cZ cR : ClassId} {L : List Nat} {kd : Nat → Nat} {a : Nat} {e : va_E} (h : okc cI cL cZ cR L kd (kd a) e) (k : kd a = 53) : ok_53 cI e := by rw [k] at h; exact h
theorem mk_53 {cI cL cZ cR : ClassId} {L : List Nat} {kd : Nat → Nat} {a : Nat} {e : va_E} (k : kd a = 53) (h : ok_53 cI e) : okc cI cL cZ cR L kd (kd a) e := by rw [k]; exact h
theorem un_54 {cI cL cZ cR : ClassId} {L : List Nat} {kd : Nat → Nat} {a : Nat} {e : va_E} (h : okc cI cL cZ cR L kd (kd a) e) (k : kd a = 54) : ok_54 cI e := by rw [k] at h; exact h
theorem mk_54 {cI cL cZ cR : ClassId} {L : List Nat} {kd : Nat → Nat} {a : Nat} {e : va_E} (k : kd a = 54) (h : ok_54 cI e) : okc cI cL cZ cR L kd (kd a) e := by rw [k]; exact h
theorem un_55 {cI cL cZ cR : ClassId} {L : List Nat} {kd : Nat → Nat} {a : Nat} {e : va_E} (h : okc cI cL cZ cR L kd (kd a) e) (k : kd a = 55) : ok_55 cI e := by rw [k] at h; exact h
theorem mk_55 {cI cL cZ cR : ClassId} {L : List Nat} {kd : Nat → Nat} {a : Nat} {e : va_E} (k : kd a = 55) (h : ok_55 cI e) : okc cI cL cZ cR L kd (kd a) e := by rw [k]; exact h
theorem un_56 {cI cL cZ cR : ClassId} {L : List Nat} {kd : Nat → Nat} {a : Nat} {e : va_E} (h : okc cI cL cZ cR L kd (kd a) e) (k : kd a = 56) : ok_56 cI e := by rw [k] at h; exact h
theorem mk_56 {cI cL cZ cR : ClassId} {L : List Nat} {kd : Nat → Nat} {a : Nat} {e : va_E} (k : kd a = 56) (h : ok_56 cI e) : okc cI cL cZ cR L kd (kd a) e := by rw [k]; exact h
theorem un_57 {cI cL cZ cR : ClassId} {L : List Nat} {kd : Nat → Nat} {a : Nat} {e : va_E} (h : okc cI cL cZ cR L kd (kd a) e) (k : kd a = 57) : ok_57 cI e := by rw [k] at h; exact h
theorem mk_57 {cI cL cZ cR : ClassId} {L : List Nat} {kd : Nat → Nat} {a : Nat} {e : va_E} (k : kd a = 57) (h : ok_57 cI e) : okc cI cL cZ cR L kd (kd a) e := by rw [k]; exact h
theorem un_58 {cI cL cZ cR : ClassId} {L : List Nat} {kd : Nat → Nat} {a : Nat} {e : va_E} (h : okc cI cL cZ cR L kd (kd a) e) (k : kd a = 58) : ok_58 cI e := by rw [k] at h; exact h
theorem mk_58 {cI cL cZ cR : ClassId} {L : List Nat} {kd : Nat → Nat} {a : Nat} {e : va_E} (k : kd a = 58) (h : ok_58 cI e) : okc cI cL cZ cR L kd (kd a) e := by rw [k]; exact h
theorem un_59 {cI cL cZ cR : ClassId} {L : List Nat} {kd : Nat → Nat} {a : Nat} {e : va_E} (h : okc cI cL cZ cR L kd (kd a) e) (k : kd a = 59) : ok_59 cI e := by rw [k] at h; exact h
theorem mk_59 {cI cL cZ cR : ClassId} {L : List Nat} {kd : Nat → Nat} {a : Nat} {e : va_E} (k : kd a = 59) (h : ok_59 cI e) : okc cI cL cZ cR L kd (kd a) e := by rw [k]; exact h
theorem un_60 {cI cL cZ cR : ClassId} {L : List Nat} {kd : Nat → Nat} {a : Nat} {e : va_E} (h : okc cI cL cZ cR L kd (kd a) e) (k : kd a = 60) : ok_60 cI e := by rw [k] at h; exact h
theorem mk_60 {cI cL cZ cR : ClassId} {L : List Nat} {kd : Nat → Nat} {a : Nat} {e : va_E} (k : kd a = 60) (h : ok_60 cI e) : okc cI cL cZ cR L kd (kd a) e := by rw [k]; exact h
