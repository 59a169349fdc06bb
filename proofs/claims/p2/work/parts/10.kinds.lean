def wR (a b m c : Nat) (lo hi : Int) (g : Nat → Int32) : Prop := ∀ j, a ≤ j → j < b → j % m = c → lo ≤ (g j).toInt ∧ (g j).toInt ≤ hi
theorem wR.up {a b m c i : Nat} {lo hi : Int} {g : Nat → Int32} {v : Int32} (h : wR a b m c lo hi g) (hv : a ≤ i → i < b → i % m = c → lo ≤ v.toInt ∧ v.toInt ≤ hi) : wR a b m c lo hi (upd g i v) := by
  intro j h1 h2 h3
  by_cases hj : j = i
  · subst hj; rw [pk_us]; exact hv h1 h2 h3
  · rw [pk_un hj]; exact h j h1 h2 h3
def wOK (g : Nat → Int32) : Prop := wR 0 1 1 0 0 8 g ∧ wR 16 17 1 0 0 20 g ∧ wR 17 18 1 0 0 8 g ∧ wR 18 19 1 0 0 12 g ∧ wR 19 20 1 0 0 8 g ∧ wR 20 40 1 0 0 80 g ∧ wR 40 41 1 0 0 255 g ∧ wR 41 42 1 0 0 1 g ∧ wR 42 43 1 0 0 12 g ∧ wR 43 51 1 0 0 7 g ∧ wR 60 460 1 0 0 8 g ∧ wR 60 220 8 4 0 6 g ∧ wR 460 492 1 0 0 8 g ∧ wR 460 492 4 2 0 3 g ∧ wR 460 492 4 3 0 3 g ∧ wR 500 596 1 0 0 5 g
theorem cl_I {i : Int32} (h : 0 ≤ i.toInt) : ((Int32.toNatClampNeg i : Nat) : Int) = i.toInt := by
  obtain ⟨a, ha, rfl⟩ := nI_of (x := i) (by rw [Int32.lt_iff_toInt_lt, show (0 : Int32).toInt = 0 from rfl]; omega)
  rw [nI_clamp ha, nI_toInt ha]
def ok_500 (cI : ClassId) (e : va_E) : Prop := okI cI 18 (-2147483648) 2147483647 e
def ok_501 (cI : ClassId) (e : va_E) : Prop := okI cI 20 (-2147483648) 2147483647 e
def ok_502 (cI : ClassId) (e : va_E) : Prop := okI cI 20 0 2 e
def ok_503 (cI : ClassId) (e : va_E) : Prop := okI cI 8 (-2147483648) 2147483647 e
def ok_504 (cI : ClassId) (e : va_E) : Prop := okI cI 96 0 8 e
def ok_505 (cI : ClassId) (e : va_E) : Prop := okI cI 12 0 8 e
def ok_506 (cI : ClassId) (e : va_E) : Prop := okI cI 64 0 8 e
def ok_507 (cI : ClassId) (e : va_E) : Prop := okI cI 8 0 8 e
def ok_508 (cI : ClassId) (e : va_E) : Prop := okI cI 26 0 8 e
def ok_509 (cI : ClassId) (e : va_E) : Prop := okI cI 6 (-2147483648) 2147483647 e
def ok_510 (cI : ClassId) (e : va_E) : Prop := okI cI 81 0 20 e
def ok_511 (cI : ClassId) (e : va_E) : Prop := okI cI 20 0 8 e
def ok_512 (cI : ClassId) (e : va_E) : Prop := okI cI 9 0 3 e
def ok_513 (cI : ClassId) (e : va_E) : Prop := okI cI 9 0 3 e
def ok_514 (cI : ClassId) (e : va_E) : Prop := okI cI 36 0 20 e
def ok_515 (cR : ClassId) (L : List Nat) (kd : Nat → Nat) (e : va_E) : Prop := okQ cR L kd 8 4 e
def ok_516 (cI : ClassId) (e : va_E) : Prop := okI cI 8 (-1) 19 e
def ok_517 (cI : ClassId) (e : va_E) : Prop := okI cI 80 (-2147483648) 2147483647 e
def ok_518 (cI : ClassId) (e : va_E) : Prop := okI cI 80 0 10 e
def ok_519 (cI : ClassId) (e : va_E) : Prop := okI cI 800 (-2147483648) 2147483647 e
def ok_520 (cI : ClassId) (e : va_E) : Prop := okI cI 10 0 255 e
def ok_521 (cI : ClassId) (e : va_E) : Prop := okI cI 4096 0 32768 e
def ok_522 (cL : ClassId) (e : va_E) : Prop := okJ cL 32768 e
def ok_523 (cL : ClassId) (e : va_E) : Prop := okJ cL 89 e
def ok_524 (cI : ClassId) (e : va_E) : Prop := okI cI 200 (-2147483648) 2147483647 e
def ok_525 (cI : ClassId) (e : va_E) : Prop := okI cI 9 (-1) 19 e
def ok_526 (cI : ClassId) (e : va_E) : Prop := okI cI 1024 0 387420488 e
def ok_527 (cI : ClassId) (e : va_E) : Prop := okI cI 1024 0 255 e
def ok_528 (cI : ClassId) (e : va_E) : Prop := okI cI 6561 (-2147483648) 2147483647 e
def ok_529 (cI : ClassId) (e : va_E) : Prop := okI cI 256 (-2147483648) 2147483647 e
def ok_530 (cI : ClassId) (e : va_E) : Prop := okI cI 8 0 7 e
def ok_531 (cI : ClassId) (e : va_E) : Prop := okI cI 108 (-2147483648) 2147483647 e
def ok_532 (cI : ClassId) (e : va_E) : Prop := okI cI 12 0 9 e
def ok_533 (cI : ClassId) (e : va_E) : Prop := okI cI 600 (-2147483648) 2147483647 e
def ok_534 (cI : ClassId) (e : va_E) : Prop := okI cI 584 0 72 e
def ok_535 (cI : ClassId) (e : va_E) : Prop := okI cI 5329 0 1 e
def ok_536 (cI : ClassId) (e : va_E) : Prop := okI cI 6 0 7 e
def ok_537 (cI : ClassId) (e : va_E) : Prop := okI cI 511 0 72 e
def ok_538 (cI : ClassId) (e : va_E) : Prop := okI cI 2 0 8 e
def ok_539 (cI : ClassId) (e : va_E) : Prop := okI cI 96 (-2147483648) 2147483647 e
def ok_540 (cI : ClassId) (e : va_E) : Prop := okI cI 16 0 19 e
def ok_541 (cI : ClassId) (e : va_E) : Prop := okI cI 18 (-2147483648) 2147483647 e
def ok_542 (cI : ClassId) (e : va_E) : Prop := okI cI 20 (-2147483648) 2147483647 e
def ok_543 (cI : ClassId) (e : va_E) : Prop := okI cI 20 0 2 e
def ok_544 (cI : ClassId) (e : va_E) : Prop := okI cI 8 (-2147483648) 2147483647 e
def ok_545 (cI : ClassId) (e : va_E) : Prop := okI cI 96 0 8 e
def ok_546 (cI : ClassId) (e : va_E) : Prop := okI cI 12 0 8 e
def ok_547 (cI : ClassId) (e : va_E) : Prop := okI cI 64 0 8 e
def ok_548 (cI : ClassId) (e : va_E) : Prop := okI cI 8 0 8 e
def ok_549 (cI : ClassId) (e : va_E) : Prop := okI cI 26 0 8 e
def ok_550 (cI : ClassId) (e : va_E) : Prop := okI cI 6 (-2147483648) 2147483647 e
def ok_551 (cI : ClassId) (e : va_E) : Prop := okI cI 81 0 20 e
def ok_552 (cI : ClassId) (e : va_E) : Prop := okI cI 20 0 8 e
def ok_553 (cI : ClassId) (e : va_E) : Prop := okI cI 9 0 3 e
def ok_554 (cI : ClassId) (e : va_E) : Prop := okI cI 9 0 3 e
def ok_555 (cI : ClassId) (e : va_E) : Prop := okI cI 36 0 20 e
def ok_556 (cR : ClassId) (L : List Nat) (kd : Nat → Nat) (e : va_E) : Prop := okQ cR L kd 8 104 e
def ok_557 (cI : ClassId) (e : va_E) : Prop := okI cI 8 (-1) 19 e
def ok_558 (cI : ClassId) (e : va_E) : Prop := okI cI 18 (-2147483648) 2147483647 e
def ok_559 (cI : ClassId) (e : va_E) : Prop := okI cI 20 (-2147483648) 2147483647 e
def ok_560 (cI : ClassId) (e : va_E) : Prop := okI cI 20 0 2 e
def ok_561 (cI : ClassId) (e : va_E) : Prop := okI cI 8 (-2147483648) 2147483647 e
def ok_562 (cI : ClassId) (e : va_E) : Prop := okI cI 96 0 8 e
def ok_563 (cI : ClassId) (e : va_E) : Prop := okI cI 12 0 8 e
def ok_564 (cI : ClassId) (e : va_E) : Prop := okI cI 64 0 8 e
def ok_565 (cI : ClassId) (e : va_E) : Prop := okI cI 8 0 8 e
def ok_566 (cI : ClassId) (e : va_E) : Prop := okI cI 26 0 8 e
def ok_567 (cI : ClassId) (e : va_E) : Prop := okI cI 6 (-2147483648) 2147483647 e
def ok_568 (cI : ClassId) (e : va_E) : Prop := okI cI 81 0 20 e
def ok_569 (cI : ClassId) (e : va_E) : Prop := okI cI 20 0 8 e
def ok_570 (cI : ClassId) (e : va_E) : Prop := okI cI 9 0 3 e
def ok_571 (cI : ClassId) (e : va_E) : Prop := okI cI 9 0 3 e
def ok_572 (cI : ClassId) (e : va_E) : Prop := okI cI 36 0 20 e
def ok_573 (cR : ClassId) (L : List Nat) (kd : Nat → Nat) (e : va_E) : Prop := okQ cR L kd 8 204 e
def ok_574 (cI : ClassId) (e : va_E) : Prop := okI cI 8 (-1) 19 e
def ok_575 (cI : ClassId) (e : va_E) : Prop := ∃ g : Nat → Int32, e = .inl (cI, 1560, .inl g) ∧ wOK g
def ok_576 (cI : ClassId) (e : va_E) : Prop := ∃ g : Nat → Int32, e = .inl (cI, 1560, .inl g) ∧ wOK g
def ok_577 (cI : ClassId) (e : va_E) : Prop := ∃ g : Nat → Int32, e = .inl (cI, 1560, .inl g) ∧ wOK g
def ok_578 (cI : ClassId) (e : va_E) : Prop := okI cI 600 0 255 e
def ok_579 (cI : ClassId) (e : va_E) : Prop := okI cI 24 (-2147483648) 2147483647 e
def ok_580 (cR : ClassId) (L : List Nat) (kd : Nat → Nat) (e : va_E) : Prop := okQ cR L kd 20 579 e
def ok_581 (cI : ClassId) (e : va_E) : Prop := okI cI 24 (-2147483648) 2147483647 e
def ok_582 (cR : ClassId) (L : List Nat) (kd : Nat → Nat) (e : va_E) : Prop := okQ cR L kd 20 581 e
def ok_583 (cI : ClassId) (e : va_E) : Prop := okI cI 160 0 7 e
def ok_584 (cR : ClassId) (L : List Nat) (kd : Nat → Nat) (e : va_E) : Prop := okQ cR L kd 20 583 e
def ok_585 (cI : ClassId) (e : va_E) : Prop := okI cI 480 (-2147483648) 2147483647 e
def ok_586 (cR : ClassId) (L : List Nat) (kd : Nat → Nat) (e : va_E) : Prop := okQ cR L kd 20 585 e
def ok_587 (cI : ClassId) (e : va_E) : Prop := ∃ g : Nat → Int32, e = .inl (cI, 20, .inl g) ∧ ∀ j : Nat, 0 ≤ (g j).toInt ∧ (g j).toInt ≤ 8 * (j : Int)
def ok_588 (cI : ClassId) (e : va_E) : Prop := okI cI 20 (-2147483648) 2147483647 e
def ok_589 (cI : ClassId) (e : va_E) : Prop := okI cI 16 0 8 e
def ok_590 (cI : ClassId) (e : va_E) : Prop := okI cI 16 0 8 e
def ok_591 (cL : ClassId) (e : va_E) : Prop := okJ cL 201 e
def ok_592 (cI : ClassId) (e : va_E) : Prop := okI cI 6561 (-2147483648) 2147483647 e
def ok_593 (cI : ClassId) (e : va_E) : Prop := okI cI 6561 0 6560 e
def ok_594 (cI : ClassId) (e : va_E) : Prop := okI cI 16 0 8 e
def ok_595 (cI : ClassId) (e : va_E) : Prop := okI cI 96 (-2147483648) 2147483647 e
def ok_596 (cI : ClassId) (e : va_E) : Prop := okI cI 96 (-2147483648) 2147483647 e
def ok_597 (cI : ClassId) (e : va_E) : Prop := okI cI 16 0 8 e
def ok_598 (cI : ClassId) (e : va_E) : Prop := okI cI 16 (-2147483648) 2147483647 e
def ok_599 (cI : ClassId) (e : va_E) : Prop := okI cI 16 0 8 e
def ok_600 (cI : ClassId) (e : va_E) : Prop := okI cI 4096 0 4095 e
def ok_601 (cI : ClassId) (e : va_E) : Prop := okI cI 4096 (-1) 4 e
def ok_602 (cI : ClassId) (e : va_E) : Prop := okI cI 6561 0 6560 e
def ok_603 (cZ : ClassId) (e : va_E) : Prop := okI cZ 256 0 1 e
def ok_604 (cZ : ClassId) (e : va_E) : Prop := okI cZ 90 0 1 e
def ok_605 (cR : ClassId) (L : List Nat) (kd : Nat → Nat) (e : va_E) : Prop := okQ cR L kd 72 604 e
def ok_606 (cI : ClassId) (e : va_E) : Prop := okI cI 8 0 7 e
def ok_607 (cI : ClassId) (e : va_E) : Prop := okI cI 8 0 7 e
def ok_608 (cI : ClassId) (e : va_E) : Prop := okI cI 8 0 7 e
def ok_609 (cZ : ClassId) (e : va_E) : Prop := okI cZ 8 0 1 e
def ok_610 (cI : ClassId) (e : va_E) : Prop := okI cI 16 0 8 e
def ok_0 (L : List Nat) (kd : Nat → Nat) (e : va_E) : Prop := ∃ (r0 : Nat) (r1 : Nat) (r2 : Nat) (v3 : Int32) (r4 : Nat) (r5 : Nat) (r6 : Nat) (v7 : Int32) (r8 : Nat) (v9 : Int32) (v10 : Int32), e = .inr (0, [.ref r0, .ref r1, .ref r2, .int v3, .ref r4, .ref r5, .ref r6, .int v7, .ref r8, .int v9, .int v10]) ∧ (r0 ∈ L ∧ kd r0 = 534) ∧ (r1 ∈ L ∧ kd r1 = 535) ∧ (r2 ∈ L ∧ kd r2 = 536) ∧ (0 ≤ v3.toInt ∧ v3.toInt ≤ 6) ∧ (r4 ∈ L ∧ kd r4 = 536) ∧ (r5 ∈ L ∧ kd r5 = 537) ∧ (r6 ∈ L ∧ kd r6 = 536) ∧ (r8 ∈ L ∧ kd r8 = 538)
def ok_1 (L : List Nat) (kd : Nat → Nat) (e : va_E) : Prop := ∃ (r0 : Nat) (r1 : Nat) (r2 : Nat) (v3 : Int32) (v4 : Int32) (v5 : Int32), e = .inr (1, [.ref r0, .ref r1, .ref r2, .int v3, .int v4, .int v5]) ∧ (r0 ∈ L ∧ kd r0 = 521) ∧ (r1 ∈ L ∧ kd r1 = 522) ∧ (r2 ∈ L ∧ kd r2 = 523) ∧ (0 ≤ v3.toInt ∧ v3.toInt ≤ 89) ∧ (0 ≤ v4.toInt ∧ v4.toInt ≤ 3072) ∧ (0 ≤ v5.toInt ∧ v5.toInt ≤ 32768)
def ok_2 (L : List Nat) (kd : Nat → Nat) (e : va_E) : Prop := ∃ (r0 : Nat) (v1 : Int32) (v2 : Int32) (r3 : Nat) (v4 : Int32) (v5 : Int32) (v6 : Int32) (v7 : Int32) (v8 : Int32) (v9 : Int32), e = .inr (2, [.ref r0, .int v1, .int v2, .ref r3, .int v4, .int v5, .int v6, .int v7, .int v8, .int v9]) ∧ (r0 ∈ L ∧ kd r0 = 207) ∧ (r3 ∈ L ∧ kd r3 = 533) ∧ (0 ≤ v4.toInt ∧ v4.toInt ≤ 600) ∧ (0 ≤ v5.toInt ∧ v5.toInt ≤ 600) ∧ (0 ≤ v6.toInt ∧ v6.toInt ≤ 8) ∧ (0 ≤ v7.toInt ∧ v7.toInt ≤ 8) ∧ (0 ≤ v8.toInt ∧ v8.toInt ≤ 8)
def ok_3 (L : List Nat) (kd : Nat → Nat) (e : va_E) : Prop := ∃ (r0 : Nat) (r1 : Nat) (r2 : Nat) (r3 : Nat) (r4 : Nat) (v5 : Int32) (v6 : Int32) (v7 : Int32) (v8 : Int32) (v9 : Int32) (v10 : Int32) (v11 : Int32) (r12 : Nat) (r13 : Nat) (r14 : Nat) (v15 : Int32) (r16 : Nat) (r17 : Nat), e = .inr (3, [.ref r0, .ref r1, .ref r2, .ref r3, .ref r4, .int v5, .int v6, .int v7, .int v8, .int v9, .int v10, .int v11, .ref r12, .ref r13, .ref r14, .int v15, .ref r16, .ref r17]) ∧ (r0 ∈ L ∧ kd r0 = 7) ∧ (r1 ∈ L ∧ kd r1 = 10) ∧ (r2 ∈ L ∧ kd r2 = 8) ∧ (r3 ∈ L ∧ kd r3 = 1) ∧ (r4 ∈ L ∧ kd r4 = 507) ∧ (0 ≤ v5.toInt ∧ v5.toInt ≤ 8) ∧ (0 ≤ v6.toInt ∧ v6.toInt ≤ 1) ∧ (0 ≤ v7.toInt ∧ v7.toInt ≤ 1) ∧ (r12 ∈ L ∧ kd r12 = 525) ∧ (r13 ∈ L ∧ kd r13 = 526) ∧ (r14 ∈ L ∧ kd r14 = 527) ∧ (0 ≤ v15.toInt ∧ v15.toInt ≤ 1024) ∧ (r16 ∈ L ∧ kd r16 = 528) ∧ (r17 ∈ L ∧ kd r17 = 529)
def ok_4 (L : List Nat) (kd : Nat → Nat) (e : va_E) : Prop := ∃ (v0 : Int32) (v1 : Int32) (v2 : Int32) (v3 : Int32) (r4 : Nat) (r5 : Nat) (r6 : Nat) (r7 : Nat) (v8 : Int32) (v9 : Int32) (v10 : Int32), e = .inr (4, [.int v0, .int v1, .int v2, .int v3, .ref r4, .ref r5, .ref r6, .ref r7, .int v8, .int v9, .int v10]) ∧ (0 ≤ v0.toInt ∧ v0.toInt ≤ 8) ∧ (0 ≤ v1.toInt ∧ v1.toInt ≤ 8) ∧ (0 ≤ v2.toInt ∧ v2.toInt ≤ 3) ∧ (0 ≤ v3.toInt ∧ v3.toInt ≤ 3) ∧ (r4 ∈ L ∧ kd r4 = 5) ∧ (r5 ∈ L ∧ kd r5 = 5) ∧ (r6 ∈ L ∧ kd r6 = 502) ∧ (r7 ∈ L ∧ kd r7 = 503)
def ok_5 (L : List Nat) (kd : Nat → Nat) (e : va_E) : Prop := ∃ (r0 : Nat) (r1 : Nat) (r2 : Nat) (v3 : Int32) (v4 : Int32) (v5 : Int32), e = .inr (5, [.ref r0, .ref r1, .ref r2, .int v3, .int v4, .int v5]) ∧ (r0 ∈ L ∧ kd r0 = 500) ∧ (r1 ∈ L ∧ kd r1 = 500) ∧ (r2 ∈ L ∧ kd r2 = 501)
def ok_6 (L : List Nat) (kd : Nat → Nat) (e : va_E) : Prop := ∃ (v0 : Int32) (v1 : Int32) (r2 : Nat) (r3 : Nat) (r4 : Nat) (v5 : Int32) (r6 : Nat) (r7 : Nat) (r8 : Nat), e = .inr (6, [.int v0, .int v1, .ref r2, .ref r3, .ref r4, .int v5, .ref r6, .ref r7, .ref r8]) ∧ (0 ≤ v1.toInt ∧ v1.toInt ≤ 1) ∧ (r2 ∈ L ∧ kd r2 = 530) ∧ (r3 ∈ L ∧ kd r3 = 9) ∧ (r4 ∈ L ∧ kd r4 = 9) ∧ (r6 ∈ L ∧ kd r6 = 531) ∧ (r7 ∈ L ∧ kd r7 = 532) ∧ (r8 ∈ L ∧ kd r8 = 507)
def ok_7 (L : List Nat) (kd : Nat → Nat) (e : va_E) : Prop := ∃ (r0 : Nat) (v1 : Int32) (r2 : Nat) (r3 : Nat) (r4 : Nat) (r5 : Nat) (v6 : Int32) (r7 : Nat) (r8 : Nat) (r9 : Nat) (r10 : Nat) (r11 : Nat) (v12 : Int32) (r13 : Nat) (r14 : Nat) (r15 : Nat), e = .inr (7, [.ref r0, .int v1, .ref r2, .ref r3, .ref r4, .ref r5, .int v6, .ref r7, .ref r8, .ref r9, .ref r10, .ref r11, .int v12, .ref r13, .ref r14, .ref r15]) ∧ (r0 ∈ L ∧ kd r0 = 508) ∧ (0 ≤ v1.toInt ∧ v1.toInt ≤ 8) ∧ (r2 ∈ L ∧ kd r2 = 509) ∧ (r3 ∈ L ∧ kd r3 = 510) ∧ (r4 ∈ L ∧ kd r4 = 511) ∧ (r5 ∈ L ∧ kd r5 = 511) ∧ (0 ≤ v6.toInt ∧ v6.toInt ≤ 20) ∧ (r7 ∈ L ∧ kd r7 = 512) ∧ (r8 ∈ L ∧ kd r8 = 513) ∧ (r9 ∈ L ∧ kd r9 = 514) ∧ (r10 ∈ L ∧ kd r10 = 514) ∧ (r11 ∈ L ∧ kd r11 = 515) ∧ (0 ≤ v12.toInt ∧ v12.toInt ≤ 8) ∧ (r13 ∈ L ∧ kd r13 = 9) ∧ (r14 ∈ L ∧ kd r14 = 13) ∧ (r15 ∈ L ∧ kd r15 = 516)
def ok_8 (L : List Nat) (kd : Nat → Nat) (e : va_E) : Prop := ∃ (r0 : Nat) (r1 : Nat) (r2 : Nat) (r3 : Nat) (r4 : Nat), e = .inr (8, [.ref r0, .ref r1, .ref r2, .ref r3, .ref r4]) ∧ (r0 ∈ L ∧ kd r0 = 517) ∧ (r1 ∈ L ∧ kd r1 = 517) ∧ (r2 ∈ L ∧ kd r2 = 518) ∧ (r3 ∈ L ∧ kd r3 = 519) ∧ (r4 ∈ L ∧ kd r4 = 520)
def ok_9 (L : List Nat) (kd : Nat → Nat) (e : va_E) : Prop := ∃ (r0 : Nat) (r1 : Nat) (v2 : Int32), e = .inr (9, [.ref r0, .ref r1, .int v2]) ∧ (r0 ∈ L ∧ kd r0 = 504) ∧ (r1 ∈ L ∧ kd r1 = 505) ∧ (0 ≤ v2.toInt ∧ v2.toInt ≤ 12)
def ok_10 (L : List Nat) (kd : Nat → Nat) (e : va_E) : Prop := ∃ (r0 : Nat) (v1 : Int32) (v2 : Int32), e = .inr (10, [.ref r0, .int v1, .int v2]) ∧ (r0 ∈ L ∧ kd r0 = 524) ∧ (0 ≤ v1.toInt ∧ v1.toInt ≤ 200) ∧ (0 ≤ v2.toInt ∧ v2.toInt ≤ 1)
def ok_11 (L : List Nat) (kd : Nat → Nat) (e : va_E) : Prop := ∃ (r0 : Nat) (v1 : Int32) (r2 : Nat) (r3 : Nat) (r4 : Nat) (r5 : Nat) (r6 : Nat) (r7 : Nat) (v8 : Int32) (r9 : Nat) (r10 : Nat) (r11 : Nat) (v12 : Int32) (v13 : Int32) (r14 : Nat) (v15 : Int32) (r16 : Nat) (r17 : Nat) (v18 : Int32), e = .inr (11, [.ref r0, .int v1, .ref r2, .ref r3, .ref r4, .ref r5, .ref r6, .ref r7, .int v8, .ref r9, .ref r10, .ref r11, .int v12, .int v13, .ref r14, .int v15, .ref r16, .ref r17, .int v18]) ∧ (r0 ∈ L ∧ kd r0 = 533) ∧ (0 ≤ v1.toInt ∧ v1.toInt ≤ 600) ∧ (r2 ∈ L ∧ kd r2 = 3) ∧ (r3 ∈ L ∧ kd r3 = 7) ∧ (r4 ∈ L ∧ kd r4 = 10) ∧ (r5 ∈ L ∧ kd r5 = 6) ∧ (r6 ∈ L ∧ kd r6 = 107) ∧ (r7 ∈ L ∧ kd r7 = 106) ∧ (0 ≤ v8.toInt ∧ v8.toInt ≤ 1) ∧ (r9 ∈ L ∧ kd r9 = 2) ∧ (r10 ∈ L ∧ kd r10 = 0) ∧ (r11 ∈ L ∧ kd r11 = 539) ∧ (0 ≤ v12.toInt ∧ v12.toInt ≤ 96) ∧ (r14 ∈ L ∧ kd r14 = 507) ∧ (0 ≤ v15.toInt ∧ v15.toInt ≤ 8) ∧ (r16 ∈ L ∧ kd r16 = 540) ∧ (r17 ∈ L ∧ kd r17 = 505)
def ok_12 (L : List Nat) (kd : Nat → Nat) (e : va_E) : Prop := ∃ (r0 : Nat) (r1 : Nat) (r2 : Nat) (v3 : Int32) (r4 : Nat) (v5 : Int32) (v6 : Int32) (v7 : Int32) (v8 : Int32) (v9 : Int32) (v10 : Int32) (v11 : Int32) (v12 : Int32) (v13 : Int32) (v14 : Int32) (r15 : Nat) (r16 : Nat) (r17 : Nat) (r18 : Nat) (r19 : Nat) (r20 : Nat) (r21 : Nat) (r22 : Nat) (v23 : Int32) (v24 : Int32) (v25 : Int32) (v26 : Int32) (v27 : Int32) (r28 : Nat) (v29 : Int32) (r30 : Nat) (r31 : Nat) (v32 : Int32) (v33 : Int32) (r34 : Nat) (v35 : Int32) (r36 : Nat) (r37 : Nat) (v38 : Int32) (v39 : Int32) (r40 : Nat) (r41 : Nat) (r42 : Nat) (v43 : Int32) (r44 : Nat) (r45 : Nat) (r46 : Nat) (r47 : Nat) (r48 : Nat) (r49 : Nat) (r50 : Nat) (r51 : Nat) (r52 : Nat) (v53 : Int32) (v54 : Int32) (r55 : Nat), e = .inr (12, [.ref r0, .ref r1, .ref r2, .int v3, .ref r4, .int v5, .int v6, .int v7, .int v8, .int v9, .int v10, .int v11, .int v12, .int v13, .int v14, .ref r15, .ref r16, .ref r17, .ref r18, .ref r19, .ref r20, .ref r21, .ref r22, .int v23, .int v24, .int v25, .int v26, .int v27, .ref r28, .int v29, .ref r30, .ref r31, .int v32, .int v33, .ref r34, .int v35, .ref r36, .ref r37, .int v38, .int v39, .ref r40, .ref r41, .ref r42, .int v43, .ref r44, .ref r45, .ref r46, .ref r47, .ref r48, .ref r49, .ref r50, .ref r51, .ref r52, .int v53, .int v54, .ref r55]) ∧ (r0 ∈ L ∧ kd r0 = 575) ∧ (r1 ∈ L ∧ kd r1 = 576) ∧ (r2 ∈ L ∧ kd r2 = 577) ∧ (0 ≤ v3.toInt ∧ v3.toInt ≤ 1) ∧ (r4 ∈ L ∧ kd r4 = 578) ∧ (0 ≤ v5.toInt ∧ v5.toInt ≤ 600) ∧ (0 ≤ v6.toInt ∧ v6.toInt ≤ 600) ∧ (0 ≤ v11.toInt ∧ v11.toInt ≤ 8) ∧ (0 ≤ v12.toInt ∧ v12.toInt ≤ 8) ∧ (0 ≤ v13.toInt ∧ v13.toInt ≤ 8) ∧ (r15 ∈ L ∧ kd r15 = 580) ∧ (r16 ∈ L ∧ kd r16 = 582) ∧ (r17 ∈ L ∧ kd r17 = 584) ∧ (r18 ∈ L ∧ kd r18 = 586) ∧ (r19 ∈ L ∧ kd r19 = 587) ∧ (r20 ∈ L ∧ kd r20 = 588) ∧ (r21 ∈ L ∧ kd r21 = 589) ∧ (r22 ∈ L ∧ kd r22 = 590) ∧ (0 ≤ v23.toInt ∧ v23.toInt ≤ 12) ∧ (0 ≤ v25.toInt ∧ v25.toInt ≤ 4) ∧ (0 ≤ v27.toInt ∧ v27.toInt ≤ 1) ∧ (r28 ∈ L ∧ kd r28 = 591) ∧ (0 ≤ v29.toInt ∧ v29.toInt ≤ 201) ∧ (r30 ∈ L ∧ kd r30 = 592) ∧ (r31 ∈ L ∧ kd r31 = 593) ∧ (0 ≤ v32.toInt ∧ v32.toInt ≤ 6561) ∧ (r34 ∈ L ∧ kd r34 = 594) ∧ (0 ≤ v35.toInt ∧ v35.toInt ≤ 8) ∧ (r36 ∈ L ∧ kd r36 = 595) ∧ (r37 ∈ L ∧ kd r37 = 596) ∧ (0 ≤ v38.toInt ∧ v38.toInt ≤ 96) ∧ (r40 ∈ L ∧ kd r40 = 597) ∧ (r41 ∈ L ∧ kd r41 = 598) ∧ (r42 ∈ L ∧ kd r42 = 599) ∧ (0 ≤ v43.toInt ∧ v43.toInt ≤ 8) ∧ (r44 ∈ L ∧ kd r44 = 600) ∧ (r45 ∈ L ∧ kd r45 = 601) ∧ (r46 ∈ L ∧ kd r46 = 602) ∧ (r47 ∈ L ∧ kd r47 = 603) ∧ (r48 ∈ L ∧ kd r48 = 605) ∧ (r49 ∈ L ∧ kd r49 = 606) ∧ (r50 ∈ L ∧ kd r50 = 607) ∧ (r51 ∈ L ∧ kd r51 = 608) ∧ (r52 ∈ L ∧ kd r52 = 609) ∧ (0 ≤ v53.toInt ∧ v53.toInt ≤ 8) ∧ (r55 ∈ L ∧ kd r55 = 610)
def ok_13 (L : List Nat) (kd : Nat → Nat) (e : va_E) : Prop := ∃ (r0 : Nat) (r1 : Nat) (v2 : Int32), e = .inr (9, [.ref r0, .ref r1, .int v2]) ∧ (r0 ∈ L ∧ kd r0 = 506) ∧ (r1 ∈ L ∧ kd r1 = 507) ∧ (0 ≤ v2.toInt ∧ v2.toInt ≤ 8)
def ok_104 (L : List Nat) (kd : Nat → Nat) (e : va_E) : Prop := ∃ (v0 : Int32) (v1 : Int32) (v2 : Int32) (v3 : Int32) (r4 : Nat) (r5 : Nat) (r6 : Nat) (r7 : Nat) (v8 : Int32) (v9 : Int32) (v10 : Int32), e = .inr (4, [.int v0, .int v1, .int v2, .int v3, .ref r4, .ref r5, .ref r6, .ref r7, .int v8, .int v9, .int v10]) ∧ (0 ≤ v0.toInt ∧ v0.toInt ≤ 8) ∧ (0 ≤ v1.toInt ∧ v1.toInt ≤ 8) ∧ (0 ≤ v2.toInt ∧ v2.toInt ≤ 3) ∧ (0 ≤ v3.toInt ∧ v3.toInt ≤ 3) ∧ (r4 ∈ L ∧ kd r4 = 105) ∧ (r5 ∈ L ∧ kd r5 = 105) ∧ (r6 ∈ L ∧ kd r6 = 543) ∧ (r7 ∈ L ∧ kd r7 = 544)
def ok_105 (L : List Nat) (kd : Nat → Nat) (e : va_E) : Prop := ∃ (r0 : Nat) (r1 : Nat) (r2 : Nat) (v3 : Int32) (v4 : Int32) (v5 : Int32), e = .inr (5, [.ref r0, .ref r1, .ref r2, .int v3, .int v4, .int v5]) ∧ (r0 ∈ L ∧ kd r0 = 541) ∧ (r1 ∈ L ∧ kd r1 = 541) ∧ (r2 ∈ L ∧ kd r2 = 542)
def ok_106 (L : List Nat) (kd : Nat → Nat) (e : va_E) : Prop := ∃ (v0 : Int32) (v1 : Int32) (r2 : Nat) (r3 : Nat) (r4 : Nat) (v5 : Int32) (r6 : Nat) (r7 : Nat) (r8 : Nat), e = .inr (6, [.int v0, .int v1, .ref r2, .ref r3, .ref r4, .int v5, .ref r6, .ref r7, .ref r8]) ∧ (0 ≤ v1.toInt ∧ v1.toInt ≤ 1) ∧ (r2 ∈ L ∧ kd r2 = 530) ∧ (r3 ∈ L ∧ kd r3 = 9) ∧ (r4 ∈ L ∧ kd r4 = 9) ∧ (r6 ∈ L ∧ kd r6 = 531) ∧ (r7 ∈ L ∧ kd r7 = 532) ∧ (r8 ∈ L ∧ kd r8 = 507)
def ok_107 (L : List Nat) (kd : Nat → Nat) (e : va_E) : Prop := ∃ (r0 : Nat) (v1 : Int32) (r2 : Nat) (r3 : Nat) (r4 : Nat) (r5 : Nat) (v6 : Int32) (r7 : Nat) (r8 : Nat) (r9 : Nat) (r10 : Nat) (r11 : Nat) (v12 : Int32) (r13 : Nat) (r14 : Nat) (r15 : Nat), e = .inr (7, [.ref r0, .int v1, .ref r2, .ref r3, .ref r4, .ref r5, .int v6, .ref r7, .ref r8, .ref r9, .ref r10, .ref r11, .int v12, .ref r13, .ref r14, .ref r15]) ∧ (r0 ∈ L ∧ kd r0 = 549) ∧ (0 ≤ v1.toInt ∧ v1.toInt ≤ 8) ∧ (r2 ∈ L ∧ kd r2 = 550) ∧ (r3 ∈ L ∧ kd r3 = 551) ∧ (r4 ∈ L ∧ kd r4 = 552) ∧ (r5 ∈ L ∧ kd r5 = 552) ∧ (0 ≤ v6.toInt ∧ v6.toInt ≤ 20) ∧ (r7 ∈ L ∧ kd r7 = 553) ∧ (r8 ∈ L ∧ kd r8 = 554) ∧ (r9 ∈ L ∧ kd r9 = 555) ∧ (r10 ∈ L ∧ kd r10 = 555) ∧ (r11 ∈ L ∧ kd r11 = 556) ∧ (0 ≤ v12.toInt ∧ v12.toInt ≤ 8) ∧ (r13 ∈ L ∧ kd r13 = 109) ∧ (r14 ∈ L ∧ kd r14 = 113) ∧ (r15 ∈ L ∧ kd r15 = 557)
def ok_109 (L : List Nat) (kd : Nat → Nat) (e : va_E) : Prop := ∃ (r0 : Nat) (r1 : Nat) (v2 : Int32), e = .inr (9, [.ref r0, .ref r1, .int v2]) ∧ (r0 ∈ L ∧ kd r0 = 545) ∧ (r1 ∈ L ∧ kd r1 = 546) ∧ (0 ≤ v2.toInt ∧ v2.toInt ≤ 12)
def ok_113 (L : List Nat) (kd : Nat → Nat) (e : va_E) : Prop := ∃ (r0 : Nat) (r1 : Nat) (v2 : Int32), e = .inr (9, [.ref r0, .ref r1, .int v2]) ∧ (r0 ∈ L ∧ kd r0 = 547) ∧ (r1 ∈ L ∧ kd r1 = 548) ∧ (0 ≤ v2.toInt ∧ v2.toInt ≤ 8)
def ok_204 (L : List Nat) (kd : Nat → Nat) (e : va_E) : Prop := ∃ (v0 : Int32) (v1 : Int32) (v2 : Int32) (v3 : Int32) (r4 : Nat) (r5 : Nat) (r6 : Nat) (r7 : Nat) (v8 : Int32) (v9 : Int32) (v10 : Int32), e = .inr (4, [.int v0, .int v1, .int v2, .int v3, .ref r4, .ref r5, .ref r6, .ref r7, .int v8, .int v9, .int v10]) ∧ (0 ≤ v0.toInt ∧ v0.toInt ≤ 8) ∧ (0 ≤ v1.toInt ∧ v1.toInt ≤ 8) ∧ (0 ≤ v2.toInt ∧ v2.toInt ≤ 3) ∧ (0 ≤ v3.toInt ∧ v3.toInt ≤ 3) ∧ (r4 ∈ L ∧ kd r4 = 205) ∧ (r5 ∈ L ∧ kd r5 = 205) ∧ (r6 ∈ L ∧ kd r6 = 560) ∧ (r7 ∈ L ∧ kd r7 = 561)
def ok_205 (L : List Nat) (kd : Nat → Nat) (e : va_E) : Prop := ∃ (r0 : Nat) (r1 : Nat) (r2 : Nat) (v3 : Int32) (v4 : Int32) (v5 : Int32), e = .inr (5, [.ref r0, .ref r1, .ref r2, .int v3, .int v4, .int v5]) ∧ (r0 ∈ L ∧ kd r0 = 558) ∧ (r1 ∈ L ∧ kd r1 = 558) ∧ (r2 ∈ L ∧ kd r2 = 559)
def ok_207 (L : List Nat) (kd : Nat → Nat) (e : va_E) : Prop := ∃ (r0 : Nat) (v1 : Int32) (r2 : Nat) (r3 : Nat) (r4 : Nat) (r5 : Nat) (v6 : Int32) (r7 : Nat) (r8 : Nat) (r9 : Nat) (r10 : Nat) (r11 : Nat) (v12 : Int32) (r13 : Nat) (r14 : Nat) (r15 : Nat), e = .inr (7, [.ref r0, .int v1, .ref r2, .ref r3, .ref r4, .ref r5, .int v6, .ref r7, .ref r8, .ref r9, .ref r10, .ref r11, .int v12, .ref r13, .ref r14, .ref r15]) ∧ (r0 ∈ L ∧ kd r0 = 566) ∧ (0 ≤ v1.toInt ∧ v1.toInt ≤ 8) ∧ (r2 ∈ L ∧ kd r2 = 567) ∧ (r3 ∈ L ∧ kd r3 = 568) ∧ (r4 ∈ L ∧ kd r4 = 569) ∧ (r5 ∈ L ∧ kd r5 = 569) ∧ (0 ≤ v6.toInt ∧ v6.toInt ≤ 20) ∧ (r7 ∈ L ∧ kd r7 = 570) ∧ (r8 ∈ L ∧ kd r8 = 571) ∧ (r9 ∈ L ∧ kd r9 = 572) ∧ (r10 ∈ L ∧ kd r10 = 572) ∧ (r11 ∈ L ∧ kd r11 = 573) ∧ (0 ≤ v12.toInt ∧ v12.toInt ≤ 8) ∧ (r13 ∈ L ∧ kd r13 = 209) ∧ (r14 ∈ L ∧ kd r14 = 213) ∧ (r15 ∈ L ∧ kd r15 = 574)
def ok_209 (L : List Nat) (kd : Nat → Nat) (e : va_E) : Prop := ∃ (r0 : Nat) (r1 : Nat) (v2 : Int32), e = .inr (9, [.ref r0, .ref r1, .int v2]) ∧ (r0 ∈ L ∧ kd r0 = 562) ∧ (r1 ∈ L ∧ kd r1 = 563) ∧ (0 ≤ v2.toInt ∧ v2.toInt ≤ 12)
def ok_213 (L : List Nat) (kd : Nat → Nat) (e : va_E) : Prop := ∃ (r0 : Nat) (r1 : Nat) (v2 : Int32), e = .inr (9, [.ref r0, .ref r1, .int v2]) ∧ (r0 ∈ L ∧ kd r0 = 564) ∧ (r1 ∈ L ∧ kd r1 = 565) ∧ (0 ≤ v2.toInt ∧ v2.toInt ≤ 8)
def okc (cI cL cZ cR cG cH : ClassId) (L : List Nat) (kd : Nat → Nat) (k : Nat) (e : va_E) : Prop := match k with
  | 0 => ok_0 L kd e
  | 1 => ok_1 L kd e
  | 2 => ok_2 L kd e
  | 3 => ok_3 L kd e
  | 4 => ok_4 L kd e
  | 5 => ok_5 L kd e
  | 6 => ok_6 L kd e
  | 7 => ok_7 L kd e
  | 8 => ok_8 L kd e
  | 9 => ok_9 L kd e
  | 10 => ok_10 L kd e
  | 11 => ok_11 L kd e
  | 12 => ok_12 L kd e
  | 13 => ok_13 L kd e
  | 104 => ok_104 L kd e
  | 105 => ok_105 L kd e
  | 106 => ok_106 L kd e
  | 107 => ok_107 L kd e
  | 109 => ok_109 L kd e
  | 113 => ok_113 L kd e
  | 204 => ok_204 L kd e
  | 205 => ok_205 L kd e
  | 207 => ok_207 L kd e
  | 209 => ok_209 L kd e
  | 213 => ok_213 L kd e
  | 500 => ok_500 cI e
  | 501 => ok_501 cI e
  | 502 => ok_502 cI e
  | 503 => ok_503 cI e
  | 504 => ok_504 cI e
  | 505 => ok_505 cI e
  | 506 => ok_506 cI e
  | 507 => ok_507 cI e
  | 508 => ok_508 cI e
  | 509 => ok_509 cI e
  | 510 => ok_510 cI e
  | 511 => ok_511 cI e
  | 512 => ok_512 cI e
  | 513 => ok_513 cI e
  | 514 => ok_514 cI e
  | 515 => ok_515 cR L kd e
  | 516 => ok_516 cI e
  | 517 => ok_517 cI e
  | 518 => ok_518 cI e
  | 519 => ok_519 cI e
  | 520 => ok_520 cI e
  | 521 => ok_521 cI e
  | 522 => ok_522 cL e
  | 523 => ok_523 cL e
  | 524 => ok_524 cI e
  | 525 => ok_525 cI e
  | 526 => ok_526 cI e
  | 527 => ok_527 cI e
  | 528 => ok_528 cI e
  | 529 => ok_529 cI e
  | 530 => ok_530 cI e
  | 531 => ok_531 cI e
  | 532 => ok_532 cI e
  | 533 => ok_533 cI e
  | 534 => ok_534 cI e
  | 535 => ok_535 cI e
  | 536 => ok_536 cI e
  | 537 => ok_537 cI e
  | 538 => ok_538 cI e
  | 539 => ok_539 cI e
  | 540 => ok_540 cI e
  | 541 => ok_541 cI e
  | 542 => ok_542 cI e
  | 543 => ok_543 cI e
  | 544 => ok_544 cI e
  | 545 => ok_545 cI e
  | 546 => ok_546 cI e
  | 547 => ok_547 cI e
  | 548 => ok_548 cI e
  | 549 => ok_549 cI e
  | 550 => ok_550 cI e
  | 551 => ok_551 cI e
  | 552 => ok_552 cI e
  | 553 => ok_553 cI e
  | 554 => ok_554 cI e
  | 555 => ok_555 cI e
  | 556 => ok_556 cR L kd e
  | 557 => ok_557 cI e
  | 558 => ok_558 cI e
  | 559 => ok_559 cI e
  | 560 => ok_560 cI e
  | 561 => ok_561 cI e
  | 562 => ok_562 cI e
  | 563 => ok_563 cI e
  | 564 => ok_564 cI e
  | 565 => ok_565 cI e
  | 566 => ok_566 cI e
  | 567 => ok_567 cI e
  | 568 => ok_568 cI e
  | 569 => ok_569 cI e
  | 570 => ok_570 cI e
  | 571 => ok_571 cI e
  | 572 => ok_572 cI e
  | 573 => ok_573 cR L kd e
  | 574 => ok_574 cI e
  | 575 => ok_575 cI e
  | 576 => ok_576 cI e
  | 577 => ok_577 cI e
  | 578 => ok_578 cI e
  | 579 => ok_579 cI e
  | 580 => ok_580 cG L kd e
  | 581 => ok_581 cI e
  | 582 => ok_582 cG L kd e
  | 583 => ok_583 cI e
  | 584 => ok_584 cG L kd e
  | 585 => ok_585 cI e
  | 586 => ok_586 cG L kd e
  | 587 => ok_587 cI e
  | 588 => ok_588 cI e
  | 589 => ok_589 cI e
  | 590 => ok_590 cI e
  | 591 => ok_591 cL e
  | 592 => ok_592 cI e
  | 593 => ok_593 cI e
  | 594 => ok_594 cI e
  | 595 => ok_595 cI e
  | 596 => ok_596 cI e
  | 597 => ok_597 cI e
  | 598 => ok_598 cI e
  | 599 => ok_599 cI e
  | 600 => ok_600 cI e
  | 601 => ok_601 cI e
  | 602 => ok_602 cI e
  | 603 => ok_603 cZ e
  | 604 => ok_604 cZ e
  | 605 => ok_605 cH L kd e
  | 606 => ok_606 cI e
  | 607 => ok_607 cI e
  | 608 => ok_608 cI e
  | 609 => ok_609 cZ e
  | 610 => ok_610 cI e
  | _ => False
theorem un_0 {cI cL cZ cR cG cH : ClassId} {L : List Nat} {kd : Nat → Nat} {a : Nat} {e : va_E} (h : okc cI cL cZ cR cG cH L kd (kd a) e) (k : kd a = 0) : ok_0 L kd e := by rw [k] at h; exact h
theorem mk_0 {cI cL cZ cR cG cH : ClassId} {L : List Nat} {kd : Nat → Nat} {a : Nat} {e : va_E} (k : kd a = 0) (h : ok_0 L kd e) : okc cI cL cZ cR cG cH L kd (kd a) e := by rw [k]; exact h
theorem un_1 {cI cL cZ cR cG cH : ClassId} {L : List Nat} {kd : Nat → Nat} {a : Nat} {e : va_E} (h : okc cI cL cZ cR cG cH L kd (kd a) e) (k : kd a = 1) : ok_1 L kd e := by rw [k] at h; exact h
theorem mk_1 {cI cL cZ cR cG cH : ClassId} {L : List Nat} {kd : Nat → Nat} {a : Nat} {e : va_E} (k : kd a = 1) (h : ok_1 L kd e) : okc cI cL cZ cR cG cH L kd (kd a) e := by rw [k]; exact h
theorem un_2 {cI cL cZ cR cG cH : ClassId} {L : List Nat} {kd : Nat → Nat} {a : Nat} {e : va_E} (h : okc cI cL cZ cR cG cH L kd (kd a) e) (k : kd a = 2) : ok_2 L kd e := by rw [k] at h; exact h
theorem mk_2 {cI cL cZ cR cG cH : ClassId} {L : List Nat} {kd : Nat → Nat} {a : Nat} {e : va_E} (k : kd a = 2) (h : ok_2 L kd e) : okc cI cL cZ cR cG cH L kd (kd a) e := by rw [k]; exact h
theorem un_3 {cI cL cZ cR cG cH : ClassId} {L : List Nat} {kd : Nat → Nat} {a : Nat} {e : va_E} (h : okc cI cL cZ cR cG cH L kd (kd a) e) (k : kd a = 3) : ok_3 L kd e := by rw [k] at h; exact h
theorem mk_3 {cI cL cZ cR cG cH : ClassId} {L : List Nat} {kd : Nat → Nat} {a : Nat} {e : va_E} (k : kd a = 3) (h : ok_3 L kd e) : okc cI cL cZ cR cG cH L kd (kd a) e := by rw [k]; exact h
theorem un_4 {cI cL cZ cR cG cH : ClassId} {L : List Nat} {kd : Nat → Nat} {a : Nat} {e : va_E} (h : okc cI cL cZ cR cG cH L kd (kd a) e) (k : kd a = 4) : ok_4 L kd e := by rw [k] at h; exact h
theorem mk_4 {cI cL cZ cR cG cH : ClassId} {L : List Nat} {kd : Nat → Nat} {a : Nat} {e : va_E} (k : kd a = 4) (h : ok_4 L kd e) : okc cI cL cZ cR cG cH L kd (kd a) e := by rw [k]; exact h
theorem un_5 {cI cL cZ cR cG cH : ClassId} {L : List Nat} {kd : Nat → Nat} {a : Nat} {e : va_E} (h : okc cI cL cZ cR cG cH L kd (kd a) e) (k : kd a = 5) : ok_5 L kd e := by rw [k] at h; exact h
theorem mk_5 {cI cL cZ cR cG cH : ClassId} {L : List Nat} {kd : Nat → Nat} {a : Nat} {e : va_E} (k : kd a = 5) (h : ok_5 L kd e) : okc cI cL cZ cR cG cH L kd (kd a) e := by rw [k]; exact h
theorem un_6 {cI cL cZ cR cG cH : ClassId} {L : List Nat} {kd : Nat → Nat} {a : Nat} {e : va_E} (h : okc cI cL cZ cR cG cH L kd (kd a) e) (k : kd a = 6) : ok_6 L kd e := by rw [k] at h; exact h
theorem mk_6 {cI cL cZ cR cG cH : ClassId} {L : List Nat} {kd : Nat → Nat} {a : Nat} {e : va_E} (k : kd a = 6) (h : ok_6 L kd e) : okc cI cL cZ cR cG cH L kd (kd a) e := by rw [k]; exact h
theorem un_7 {cI cL cZ cR cG cH : ClassId} {L : List Nat} {kd : Nat → Nat} {a : Nat} {e : va_E} (h : okc cI cL cZ cR cG cH L kd (kd a) e) (k : kd a = 7) : ok_7 L kd e := by rw [k] at h; exact h
theorem mk_7 {cI cL cZ cR cG cH : ClassId} {L : List Nat} {kd : Nat → Nat} {a : Nat} {e : va_E} (k : kd a = 7) (h : ok_7 L kd e) : okc cI cL cZ cR cG cH L kd (kd a) e := by rw [k]; exact h
theorem un_8 {cI cL cZ cR cG cH : ClassId} {L : List Nat} {kd : Nat → Nat} {a : Nat} {e : va_E} (h : okc cI cL cZ cR cG cH L kd (kd a) e) (k : kd a = 8) : ok_8 L kd e := by rw [k] at h; exact h
theorem mk_8 {cI cL cZ cR cG cH : ClassId} {L : List Nat} {kd : Nat → Nat} {a : Nat} {e : va_E} (k : kd a = 8) (h : ok_8 L kd e) : okc cI cL cZ cR cG cH L kd (kd a) e := by rw [k]; exact h
theorem un_9 {cI cL cZ cR cG cH : ClassId} {L : List Nat} {kd : Nat → Nat} {a : Nat} {e : va_E} (h : okc cI cL cZ cR cG cH L kd (kd a) e) (k : kd a = 9) : ok_9 L kd e := by rw [k] at h; exact h
theorem mk_9 {cI cL cZ cR cG cH : ClassId} {L : List Nat} {kd : Nat → Nat} {a : Nat} {e : va_E} (k : kd a = 9) (h : ok_9 L kd e) : okc cI cL cZ cR cG cH L kd (kd a) e := by rw [k]; exact h
theorem un_10 {cI cL cZ cR cG cH : ClassId} {L : List Nat} {kd : Nat → Nat} {a : Nat} {e : va_E} (h : okc cI cL cZ cR cG cH L kd (kd a) e) (k : kd a = 10) : ok_10 L kd e := by rw [k] at h; exact h
theorem mk_10 {cI cL cZ cR cG cH : ClassId} {L : List Nat} {kd : Nat → Nat} {a : Nat} {e : va_E} (k : kd a = 10) (h : ok_10 L kd e) : okc cI cL cZ cR cG cH L kd (kd a) e := by rw [k]; exact h
theorem un_11 {cI cL cZ cR cG cH : ClassId} {L : List Nat} {kd : Nat → Nat} {a : Nat} {e : va_E} (h : okc cI cL cZ cR cG cH L kd (kd a) e) (k : kd a = 11) : ok_11 L kd e := by rw [k] at h; exact h
theorem mk_11 {cI cL cZ cR cG cH : ClassId} {L : List Nat} {kd : Nat → Nat} {a : Nat} {e : va_E} (k : kd a = 11) (h : ok_11 L kd e) : okc cI cL cZ cR cG cH L kd (kd a) e := by rw [k]; exact h
theorem un_12 {cI cL cZ cR cG cH : ClassId} {L : List Nat} {kd : Nat → Nat} {a : Nat} {e : va_E} (h : okc cI cL cZ cR cG cH L kd (kd a) e) (k : kd a = 12) : ok_12 L kd e := by rw [k] at h; exact h
theorem mk_12 {cI cL cZ cR cG cH : ClassId} {L : List Nat} {kd : Nat → Nat} {a : Nat} {e : va_E} (k : kd a = 12) (h : ok_12 L kd e) : okc cI cL cZ cR cG cH L kd (kd a) e := by rw [k]; exact h
theorem un_13 {cI cL cZ cR cG cH : ClassId} {L : List Nat} {kd : Nat → Nat} {a : Nat} {e : va_E} (h : okc cI cL cZ cR cG cH L kd (kd a) e) (k : kd a = 13) : ok_13 L kd e := by rw [k] at h; exact h
theorem mk_13 {cI cL cZ cR cG cH : ClassId} {L : List Nat} {kd : Nat → Nat} {a : Nat} {e : va_E} (k : kd a = 13) (h : ok_13 L kd e) : okc cI cL cZ cR cG cH L kd (kd a) e := by rw [k]; exact h
theorem un_104 {cI cL cZ cR cG cH : ClassId} {L : List Nat} {kd : Nat → Nat} {a : Nat} {e : va_E} (h : okc cI cL cZ cR cG cH L kd (kd a) e) (k : kd a = 104) : ok_104 L kd e := by rw [k] at h; exact h
theorem mk_104 {cI cL cZ cR cG cH : ClassId} {L : List Nat} {kd : Nat → Nat} {a : Nat} {e : va_E} (k : kd a = 104) (h : ok_104 L kd e) : okc cI cL cZ cR cG cH L kd (kd a) e := by rw [k]; exact h
theorem un_105 {cI cL cZ cR cG cH : ClassId} {L : List Nat} {kd : Nat → Nat} {a : Nat} {e : va_E} (h : okc cI cL cZ cR cG cH L kd (kd a) e) (k : kd a = 105) : ok_105 L kd e := by rw [k] at h; exact h
theorem mk_105 {cI cL cZ cR cG cH : ClassId} {L : List Nat} {kd : Nat → Nat} {a : Nat} {e : va_E} (k : kd a = 105) (h : ok_105 L kd e) : okc cI cL cZ cR cG cH L kd (kd a) e := by rw [k]; exact h
theorem un_106 {cI cL cZ cR cG cH : ClassId} {L : List Nat} {kd : Nat → Nat} {a : Nat} {e : va_E} (h : okc cI cL cZ cR cG cH L kd (kd a) e) (k : kd a = 106) : ok_106 L kd e := by rw [k] at h; exact h
theorem mk_106 {cI cL cZ cR cG cH : ClassId} {L : List Nat} {kd : Nat → Nat} {a : Nat} {e : va_E} (k : kd a = 106) (h : ok_106 L kd e) : okc cI cL cZ cR cG cH L kd (kd a) e := by rw [k]; exact h
theorem un_107 {cI cL cZ cR cG cH : ClassId} {L : List Nat} {kd : Nat → Nat} {a : Nat} {e : va_E} (h : okc cI cL cZ cR cG cH L kd (kd a) e) (k : kd a = 107) : ok_107 L kd e := by rw [k] at h; exact h
theorem mk_107 {cI cL cZ cR cG cH : ClassId} {L : List Nat} {kd : Nat → Nat} {a : Nat} {e : va_E} (k : kd a = 107) (h : ok_107 L kd e) : okc cI cL cZ cR cG cH L kd (kd a) e := by rw [k]; exact h
theorem un_109 {cI cL cZ cR cG cH : ClassId} {L : List Nat} {kd : Nat → Nat} {a : Nat} {e : va_E} (h : okc cI cL cZ cR cG cH L kd (kd a) e) (k : kd a = 109) : ok_109 L kd e := by rw [k] at h; exact h
theorem mk_109 {cI cL cZ cR cG cH : ClassId} {L : List Nat} {kd : Nat → Nat} {a : Nat} {e : va_E} (k : kd a = 109) (h : ok_109 L kd e) : okc cI cL cZ cR cG cH L kd (kd a) e := by rw [k]; exact h
theorem un_113 {cI cL cZ cR cG cH : ClassId} {L : List Nat} {kd : Nat → Nat} {a : Nat} {e : va_E} (h : okc cI cL cZ cR cG cH L kd (kd a) e) (k : kd a = 113) : ok_113 L kd e := by rw [k] at h; exact h
theorem mk_113 {cI cL cZ cR cG cH : ClassId} {L : List Nat} {kd : Nat → Nat} {a : Nat} {e : va_E} (k : kd a = 113) (h : ok_113 L kd e) : okc cI cL cZ cR cG cH L kd (kd a) e := by rw [k]; exact h
theorem un_204 {cI cL cZ cR cG cH : ClassId} {L : List Nat} {kd : Nat → Nat} {a : Nat} {e : va_E} (h : okc cI cL cZ cR cG cH L kd (kd a) e) (k : kd a = 204) : ok_204 L kd e := by rw [k] at h; exact h
theorem mk_204 {cI cL cZ cR cG cH : ClassId} {L : List Nat} {kd : Nat → Nat} {a : Nat} {e : va_E} (k : kd a = 204) (h : ok_204 L kd e) : okc cI cL cZ cR cG cH L kd (kd a) e := by rw [k]; exact h
theorem un_205 {cI cL cZ cR cG cH : ClassId} {L : List Nat} {kd : Nat → Nat} {a : Nat} {e : va_E} (h : okc cI cL cZ cR cG cH L kd (kd a) e) (k : kd a = 205) : ok_205 L kd e := by rw [k] at h; exact h
theorem mk_205 {cI cL cZ cR cG cH : ClassId} {L : List Nat} {kd : Nat → Nat} {a : Nat} {e : va_E} (k : kd a = 205) (h : ok_205 L kd e) : okc cI cL cZ cR cG cH L kd (kd a) e := by rw [k]; exact h
theorem un_207 {cI cL cZ cR cG cH : ClassId} {L : List Nat} {kd : Nat → Nat} {a : Nat} {e : va_E} (h : okc cI cL cZ cR cG cH L kd (kd a) e) (k : kd a = 207) : ok_207 L kd e := by rw [k] at h; exact h
theorem mk_207 {cI cL cZ cR cG cH : ClassId} {L : List Nat} {kd : Nat → Nat} {a : Nat} {e : va_E} (k : kd a = 207) (h : ok_207 L kd e) : okc cI cL cZ cR cG cH L kd (kd a) e := by rw [k]; exact h
theorem un_209 {cI cL cZ cR cG cH : ClassId} {L : List Nat} {kd : Nat → Nat} {a : Nat} {e : va_E} (h : okc cI cL cZ cR cG cH L kd (kd a) e) (k : kd a = 209) : ok_209 L kd e := by rw [k] at h; exact h
theorem mk_209 {cI cL cZ cR cG cH : ClassId} {L : List Nat} {kd : Nat → Nat} {a : Nat} {e : va_E} (k : kd a = 209) (h : ok_209 L kd e) : okc cI cL cZ cR cG cH L kd (kd a) e := by rw [k]; exact h
theorem un_213 {cI cL cZ cR cG cH : ClassId} {L : List Nat} {kd : Nat → Nat} {a : Nat} {e : va_E} (h : okc cI cL cZ cR cG cH L kd (kd a) e) (k : kd a = 213) : ok_213 L kd e := by rw [k] at h; exact h
theorem mk_213 {cI cL cZ cR cG cH : ClassId} {L : List Nat} {kd : Nat → Nat} {a : Nat} {e : va_E} (k : kd a = 213) (h : ok_213 L kd e) : okc cI cL cZ cR cG cH L kd (kd a) e := by rw [k]; exact h
theorem un_500 {cI cL cZ cR cG cH : ClassId} {L : List Nat} {kd : Nat → Nat} {a : Nat} {e : va_E} (h : okc cI cL cZ cR cG cH L kd (kd a) e) (k : kd a = 500) : ok_500 cI e := by rw [k] at h; exact h
theorem mk_500 {cI cL cZ cR cG cH : ClassId} {L : List Nat} {kd : Nat → Nat} {a : Nat} {e : va_E} (k : kd a = 500) (h : ok_500 cI e) : okc cI cL cZ cR cG cH L kd (kd a) e := by rw [k]; exact h
theorem un_501 {cI cL cZ cR cG cH : ClassId} {L : List Nat} {kd : Nat → Nat} {a : Nat} {e : va_E} (h : okc cI cL cZ cR cG cH L kd (kd a) e) (k : kd a = 501) : ok_501 cI e := by rw [k] at h; exact h
theorem mk_501 {cI cL cZ cR cG cH : ClassId} {L : List Nat} {kd : Nat → Nat} {a : Nat} {e : va_E} (k : kd a = 501) (h : ok_501 cI e) : okc cI cL cZ cR cG cH L kd (kd a) e := by rw [k]; exact h
theorem un_502 {cI cL cZ cR cG cH : ClassId} {L : List Nat} {kd : Nat → Nat} {a : Nat} {e : va_E} (h : okc cI cL cZ cR cG cH L kd (kd a) e) (k : kd a = 502) : ok_502 cI e := by rw [k] at h; exact h
theorem mk_502 {cI cL cZ cR cG cH : ClassId} {L : List Nat} {kd : Nat → Nat} {a : Nat} {e : va_E} (k : kd a = 502) (h : ok_502 cI e) : okc cI cL cZ cR cG cH L kd (kd a) e := by rw [k]; exact h
theorem un_503 {cI cL cZ cR cG cH : ClassId} {L : List Nat} {kd : Nat → Nat} {a : Nat} {e : va_E} (h : okc cI cL cZ cR cG cH L kd (kd a) e) (k : kd a = 503) : ok_503 cI e := by rw [k] at h; exact h
theorem mk_503 {cI cL cZ cR cG cH : ClassId} {L : List Nat} {kd : Nat → Nat} {a : Nat} {e : va_E} (k : kd a = 503) (h : ok_503 cI e) : okc cI cL cZ cR cG cH L kd (kd a) e := by rw [k]; exact h
theorem un_504 {cI cL cZ cR cG cH : ClassId} {L : List Nat} {kd : Nat → Nat} {a : Nat} {e : va_E} (h : okc cI cL cZ cR cG cH L kd (kd a) e) (k : kd a = 504) : ok_504 cI e := by rw [k] at h; exact h
theorem mk_504 {cI cL cZ cR cG cH : ClassId} {L : List Nat} {kd : Nat → Nat} {a : Nat} {e : va_E} (k : kd a = 504) (h : ok_504 cI e) : okc cI cL cZ cR cG cH L kd (kd a) e := by rw [k]; exact h
theorem un_505 {cI cL cZ cR cG cH : ClassId} {L : List Nat} {kd : Nat → Nat} {a : Nat} {e : va_E} (h : okc cI cL cZ cR cG cH L kd (kd a) e) (k : kd a = 505) : ok_505 cI e := by rw [k] at h; exact h
theorem mk_505 {cI cL cZ cR cG cH : ClassId} {L : List Nat} {kd : Nat → Nat} {a : Nat} {e : va_E} (k : kd a = 505) (h : ok_505 cI e) : okc cI cL cZ cR cG cH L kd (kd a) e := by rw [k]; exact h
theorem un_506 {cI cL cZ cR cG cH : ClassId} {L : List Nat} {kd : Nat → Nat} {a : Nat} {e : va_E} (h : okc cI cL cZ cR cG cH L kd (kd a) e) (k : kd a = 506) : ok_506 cI e := by rw [k] at h; exact h
theorem mk_506 {cI cL cZ cR cG cH : ClassId} {L : List Nat} {kd : Nat → Nat} {a : Nat} {e : va_E} (k : kd a = 506) (h : ok_506 cI e) : okc cI cL cZ cR cG cH L kd (kd a) e := by rw [k]; exact h
theorem un_507 {cI cL cZ cR cG cH : ClassId} {L : List Nat} {kd : Nat → Nat} {a : Nat} {e : va_E} (h : okc cI cL cZ cR cG cH L kd (kd a) e) (k : kd a = 507) : ok_507 cI e := by rw [k] at h; exact h
theorem mk_507 {cI cL cZ cR cG cH : ClassId} {L : List Nat} {kd : Nat → Nat} {a : Nat} {e : va_E} (k : kd a = 507) (h : ok_507 cI e) : okc cI cL cZ cR cG cH L kd (kd a) e := by rw [k]; exact h
theorem un_508 {cI cL cZ cR cG cH : ClassId} {L : List Nat} {kd : Nat → Nat} {a : Nat} {e : va_E} (h : okc cI cL cZ cR cG cH L kd (kd a) e) (k : kd a = 508) : ok_508 cI e := by rw [k] at h; exact h
theorem mk_508 {cI cL cZ cR cG cH : ClassId} {L : List Nat} {kd : Nat → Nat} {a : Nat} {e : va_E} (k : kd a = 508) (h : ok_508 cI e) : okc cI cL cZ cR cG cH L kd (kd a) e := by rw [k]; exact h
theorem un_509 {cI cL cZ cR cG cH : ClassId} {L : List Nat} {kd : Nat → Nat} {a : Nat} {e : va_E} (h : okc cI cL cZ cR cG cH L kd (kd a) e) (k : kd a = 509) : ok_509 cI e := by rw [k] at h; exact h
theorem mk_509 {cI cL cZ cR cG cH : ClassId} {L : List Nat} {kd : Nat → Nat} {a : Nat} {e : va_E} (k : kd a = 509) (h : ok_509 cI e) : okc cI cL cZ cR cG cH L kd (kd a) e := by rw [k]; exact h
theorem un_510 {cI cL cZ cR cG cH : ClassId} {L : List Nat} {kd : Nat → Nat} {a : Nat} {e : va_E} (h : okc cI cL cZ cR cG cH L kd (kd a) e) (k : kd a = 510) : ok_510 cI e := by rw [k] at h; exact h
theorem mk_510 {cI cL cZ cR cG cH : ClassId} {L : List Nat} {kd : Nat → Nat} {a : Nat} {e : va_E} (k : kd a = 510) (h : ok_510 cI e) : okc cI cL cZ cR cG cH L kd (kd a) e := by rw [k]; exact h
theorem un_511 {cI cL cZ cR cG cH : ClassId} {L : List Nat} {kd : Nat → Nat} {a : Nat} {e : va_E} (h : okc cI cL cZ cR cG cH L kd (kd a) e) (k : kd a = 511) : ok_511 cI e := by rw [k] at h; exact h
theorem mk_511 {cI cL cZ cR cG cH : ClassId} {L : List Nat} {kd : Nat → Nat} {a : Nat} {e : va_E} (k : kd a = 511) (h : ok_511 cI e) : okc cI cL cZ cR cG cH L kd (kd a) e := by rw [k]; exact h
theorem un_512 {cI cL cZ cR cG cH : ClassId} {L : List Nat} {kd : Nat → Nat} {a : Nat} {e : va_E} (h : okc cI cL cZ cR cG cH L kd (kd a) e) (k : kd a = 512) : ok_512 cI e := by rw [k] at h; exact h
theorem mk_512 {cI cL cZ cR cG cH : ClassId} {L : List Nat} {kd : Nat → Nat} {a : Nat} {e : va_E} (k : kd a = 512) (h : ok_512 cI e) : okc cI cL cZ cR cG cH L kd (kd a) e := by rw [k]; exact h
theorem un_513 {cI cL cZ cR cG cH : ClassId} {L : List Nat} {kd : Nat → Nat} {a : Nat} {e : va_E} (h : okc cI cL cZ cR cG cH L kd (kd a) e) (k : kd a = 513) : ok_513 cI e := by rw [k] at h; exact h
theorem mk_513 {cI cL cZ cR cG cH : ClassId} {L : List Nat} {kd : Nat → Nat} {a : Nat} {e : va_E} (k : kd a = 513) (h : ok_513 cI e) : okc cI cL cZ cR cG cH L kd (kd a) e := by rw [k]; exact h
theorem un_514 {cI cL cZ cR cG cH : ClassId} {L : List Nat} {kd : Nat → Nat} {a : Nat} {e : va_E} (h : okc cI cL cZ cR cG cH L kd (kd a) e) (k : kd a = 514) : ok_514 cI e := by rw [k] at h; exact h
theorem mk_514 {cI cL cZ cR cG cH : ClassId} {L : List Nat} {kd : Nat → Nat} {a : Nat} {e : va_E} (k : kd a = 514) (h : ok_514 cI e) : okc cI cL cZ cR cG cH L kd (kd a) e := by rw [k]; exact h
theorem un_515 {cI cL cZ cR cG cH : ClassId} {L : List Nat} {kd : Nat → Nat} {a : Nat} {e : va_E} (h : okc cI cL cZ cR cG cH L kd (kd a) e) (k : kd a = 515) : ok_515 cR L kd e := by rw [k] at h; exact h
theorem mk_515 {cI cL cZ cR cG cH : ClassId} {L : List Nat} {kd : Nat → Nat} {a : Nat} {e : va_E} (k : kd a = 515) (h : ok_515 cR L kd e) : okc cI cL cZ cR cG cH L kd (kd a) e := by rw [k]; exact h
theorem un_516 {cI cL cZ cR cG cH : ClassId} {L : List Nat} {kd : Nat → Nat} {a : Nat} {e : va_E} (h : okc cI cL cZ cR cG cH L kd (kd a) e) (k : kd a = 516) : ok_516 cI e := by rw [k] at h; exact h
theorem mk_516 {cI cL cZ cR cG cH : ClassId} {L : List Nat} {kd : Nat → Nat} {a : Nat} {e : va_E} (k : kd a = 516) (h : ok_516 cI e) : okc cI cL cZ cR cG cH L kd (kd a) e := by rw [k]; exact h
theorem un_517 {cI cL cZ cR cG cH : ClassId} {L : List Nat} {kd : Nat → Nat} {a : Nat} {e : va_E} (h : okc cI cL cZ cR cG cH L kd (kd a) e) (k : kd a = 517) : ok_517 cI e := by rw [k] at h; exact h
theorem mk_517 {cI cL cZ cR cG cH : ClassId} {L : List Nat} {kd : Nat → Nat} {a : Nat} {e : va_E} (k : kd a = 517) (h : ok_517 cI e) : okc cI cL cZ cR cG cH L kd (kd a) e := by rw [k]; exact h
theorem un_518 {cI cL cZ cR cG cH : ClassId} {L : List Nat} {kd : Nat → Nat} {a : Nat} {e : va_E} (h : okc cI cL cZ cR cG cH L kd (kd a) e) (k : kd a = 518) : ok_518 cI e := by rw [k] at h; exact h
theorem mk_518 {cI cL cZ cR cG cH : ClassId} {L : List Nat} {kd : Nat → Nat} {a : Nat} {e : va_E} (k : kd a = 518) (h : ok_518 cI e) : okc cI cL cZ cR cG cH L kd (kd a) e := by rw [k]; exact h
theorem un_519 {cI cL cZ cR cG cH : ClassId} {L : List Nat} {kd : Nat → Nat} {a : Nat} {e : va_E} (h : okc cI cL cZ cR cG cH L kd (kd a) e) (k : kd a = 519) : ok_519 cI e := by rw [k] at h; exact h
theorem mk_519 {cI cL cZ cR cG cH : ClassId} {L : List Nat} {kd : Nat → Nat} {a : Nat} {e : va_E} (k : kd a = 519) (h : ok_519 cI e) : okc cI cL cZ cR cG cH L kd (kd a) e := by rw [k]; exact h
theorem un_520 {cI cL cZ cR cG cH : ClassId} {L : List Nat} {kd : Nat → Nat} {a : Nat} {e : va_E} (h : okc cI cL cZ cR cG cH L kd (kd a) e) (k : kd a = 520) : ok_520 cI e := by rw [k] at h; exact h
theorem mk_520 {cI cL cZ cR cG cH : ClassId} {L : List Nat} {kd : Nat → Nat} {a : Nat} {e : va_E} (k : kd a = 520) (h : ok_520 cI e) : okc cI cL cZ cR cG cH L kd (kd a) e := by rw [k]; exact h
theorem un_521 {cI cL cZ cR cG cH : ClassId} {L : List Nat} {kd : Nat → Nat} {a : Nat} {e : va_E} (h : okc cI cL cZ cR cG cH L kd (kd a) e) (k : kd a = 521) : ok_521 cI e := by rw [k] at h; exact h
theorem mk_521 {cI cL cZ cR cG cH : ClassId} {L : List Nat} {kd : Nat → Nat} {a : Nat} {e : va_E} (k : kd a = 521) (h : ok_521 cI e) : okc cI cL cZ cR cG cH L kd (kd a) e := by rw [k]; exact h
theorem un_522 {cI cL cZ cR cG cH : ClassId} {L : List Nat} {kd : Nat → Nat} {a : Nat} {e : va_E} (h : okc cI cL cZ cR cG cH L kd (kd a) e) (k : kd a = 522) : ok_522 cL e := by rw [k] at h; exact h
theorem mk_522 {cI cL cZ cR cG cH : ClassId} {L : List Nat} {kd : Nat → Nat} {a : Nat} {e : va_E} (k : kd a = 522) (h : ok_522 cL e) : okc cI cL cZ cR cG cH L kd (kd a) e := by rw [k]; exact h
theorem un_523 {cI cL cZ cR cG cH : ClassId} {L : List Nat} {kd : Nat → Nat} {a : Nat} {e : va_E} (h : okc cI cL cZ cR cG cH L kd (kd a) e) (k : kd a = 523) : ok_523 cL e := by rw [k] at h; exact h
theorem mk_523 {cI cL cZ cR cG cH : ClassId} {L : List Nat} {kd : Nat → Nat} {a : Nat} {e : va_E} (k : kd a = 523) (h : ok_523 cL e) : okc cI cL cZ cR cG cH L kd (kd a) e := by rw [k]; exact h
theorem un_524 {cI cL cZ cR cG cH : ClassId} {L : List Nat} {kd : Nat → Nat} {a : Nat} {e : va_E} (h : okc cI cL cZ cR cG cH L kd (kd a) e) (k : kd a = 524) : ok_524 cI e := by rw [k] at h; exact h
theorem mk_524 {cI cL cZ cR cG cH : ClassId} {L : List Nat} {kd : Nat → Nat} {a : Nat} {e : va_E} (k : kd a = 524) (h : ok_524 cI e) : okc cI cL cZ cR cG cH L kd (kd a) e := by rw [k]; exact h
theorem un_525 {cI cL cZ cR cG cH : ClassId} {L : List Nat} {kd : Nat → Nat} {a : Nat} {e : va_E} (h : okc cI cL cZ cR cG cH L kd (kd a) e) (k : kd a = 525) : ok_525 cI e := by rw [k] at h; exact h
theorem mk_525 {cI cL cZ cR cG cH : ClassId} {L : List Nat} {kd : Nat → Nat} {a : Nat} {e : va_E} (k : kd a = 525) (h : ok_525 cI e) : okc cI cL cZ cR cG cH L kd (kd a) e := by rw [k]; exact h
theorem un_526 {cI cL cZ cR cG cH : ClassId} {L : List Nat} {kd : Nat → Nat} {a : Nat} {e : va_E} (h : okc cI cL cZ cR cG cH L kd (kd a) e) (k : kd a = 526) : ok_526 cI e := by rw [k] at h; exact h
theorem mk_526 {cI cL cZ cR cG cH : ClassId} {L : List Nat} {kd : Nat → Nat} {a : Nat} {e : va_E} (k : kd a = 526) (h : ok_526 cI e) : okc cI cL cZ cR cG cH L kd (kd a) e := by rw [k]; exact h
theorem un_527 {cI cL cZ cR cG cH : ClassId} {L : List Nat} {kd : Nat → Nat} {a : Nat} {e : va_E} (h : okc cI cL cZ cR cG cH L kd (kd a) e) (k : kd a = 527) : ok_527 cI e := by rw [k] at h; exact h
theorem mk_527 {cI cL cZ cR cG cH : ClassId} {L : List Nat} {kd : Nat → Nat} {a : Nat} {e : va_E} (k : kd a = 527) (h : ok_527 cI e) : okc cI cL cZ cR cG cH L kd (kd a) e := by rw [k]; exact h
theorem un_528 {cI cL cZ cR cG cH : ClassId} {L : List Nat} {kd : Nat → Nat} {a : Nat} {e : va_E} (h : okc cI cL cZ cR cG cH L kd (kd a) e) (k : kd a = 528) : ok_528 cI e := by rw [k] at h; exact h
theorem mk_528 {cI cL cZ cR cG cH : ClassId} {L : List Nat} {kd : Nat → Nat} {a : Nat} {e : va_E} (k : kd a = 528) (h : ok_528 cI e) : okc cI cL cZ cR cG cH L kd (kd a) e := by rw [k]; exact h
theorem un_529 {cI cL cZ cR cG cH : ClassId} {L : List Nat} {kd : Nat → Nat} {a : Nat} {e : va_E} (h : okc cI cL cZ cR cG cH L kd (kd a) e) (k : kd a = 529) : ok_529 cI e := by rw [k] at h; exact h
theorem mk_529 {cI cL cZ cR cG cH : ClassId} {L : List Nat} {kd : Nat → Nat} {a : Nat} {e : va_E} (k : kd a = 529) (h : ok_529 cI e) : okc cI cL cZ cR cG cH L kd (kd a) e := by rw [k]; exact h
theorem un_530 {cI cL cZ cR cG cH : ClassId} {L : List Nat} {kd : Nat → Nat} {a : Nat} {e : va_E} (h : okc cI cL cZ cR cG cH L kd (kd a) e) (k : kd a = 530) : ok_530 cI e := by rw [k] at h; exact h
theorem mk_530 {cI cL cZ cR cG cH : ClassId} {L : List Nat} {kd : Nat → Nat} {a : Nat} {e : va_E} (k : kd a = 530) (h : ok_530 cI e) : okc cI cL cZ cR cG cH L kd (kd a) e := by rw [k]; exact h
theorem un_531 {cI cL cZ cR cG cH : ClassId} {L : List Nat} {kd : Nat → Nat} {a : Nat} {e : va_E} (h : okc cI cL cZ cR cG cH L kd (kd a) e) (k : kd a = 531) : ok_531 cI e := by rw [k] at h; exact h
theorem mk_531 {cI cL cZ cR cG cH : ClassId} {L : List Nat} {kd : Nat → Nat} {a : Nat} {e : va_E} (k : kd a = 531) (h : ok_531 cI e) : okc cI cL cZ cR cG cH L kd (kd a) e := by rw [k]; exact h
theorem un_532 {cI cL cZ cR cG cH : ClassId} {L : List Nat} {kd : Nat → Nat} {a : Nat} {e : va_E} (h : okc cI cL cZ cR cG cH L kd (kd a) e) (k : kd a = 532) : ok_532 cI e := by rw [k] at h; exact h
theorem mk_532 {cI cL cZ cR cG cH : ClassId} {L : List Nat} {kd : Nat → Nat} {a : Nat} {e : va_E} (k : kd a = 532) (h : ok_532 cI e) : okc cI cL cZ cR cG cH L kd (kd a) e := by rw [k]; exact h
theorem un_533 {cI cL cZ cR cG cH : ClassId} {L : List Nat} {kd : Nat → Nat} {a : Nat} {e : va_E} (h : okc cI cL cZ cR cG cH L kd (kd a) e) (k : kd a = 533) : ok_533 cI e := by rw [k] at h; exact h
theorem mk_533 {cI cL cZ cR cG cH : ClassId} {L : List Nat} {kd : Nat → Nat} {a : Nat} {e : va_E} (k : kd a = 533) (h : ok_533 cI e) : okc cI cL cZ cR cG cH L kd (kd a) e := by rw [k]; exact h
theorem un_534 {cI cL cZ cR cG cH : ClassId} {L : List Nat} {kd : Nat → Nat} {a : Nat} {e : va_E} (h : okc cI cL cZ cR cG cH L kd (kd a) e) (k : kd a = 534) : ok_534 cI e := by rw [k] at h; exact h
theorem mk_534 {cI cL cZ cR cG cH : ClassId} {L : List Nat} {kd : Nat → Nat} {a : Nat} {e : va_E} (k : kd a = 534) (h : ok_534 cI e) : okc cI cL cZ cR cG cH L kd (kd a) e := by rw [k]; exact h
theorem un_535 {cI cL cZ cR cG cH : ClassId} {L : List Nat} {kd : Nat → Nat} {a : Nat} {e : va_E} (h : okc cI cL cZ cR cG cH L kd (kd a) e) (k : kd a = 535) : ok_535 cI e := by rw [k] at h; exact h
theorem mk_535 {cI cL cZ cR cG cH : ClassId} {L : List Nat} {kd : Nat → Nat} {a : Nat} {e : va_E} (k : kd a = 535) (h : ok_535 cI e) : okc cI cL cZ cR cG cH L kd (kd a) e := by rw [k]; exact h
theorem un_536 {cI cL cZ cR cG cH : ClassId} {L : List Nat} {kd : Nat → Nat} {a : Nat} {e : va_E} (h : okc cI cL cZ cR cG cH L kd (kd a) e) (k : kd a = 536) : ok_536 cI e := by rw [k] at h; exact h
theorem mk_536 {cI cL cZ cR cG cH : ClassId} {L : List Nat} {kd : Nat → Nat} {a : Nat} {e : va_E} (k : kd a = 536) (h : ok_536 cI e) : okc cI cL cZ cR cG cH L kd (kd a) e := by rw [k]; exact h
theorem un_537 {cI cL cZ cR cG cH : ClassId} {L : List Nat} {kd : Nat → Nat} {a : Nat} {e : va_E} (h : okc cI cL cZ cR cG cH L kd (kd a) e) (k : kd a = 537) : ok_537 cI e := by rw [k] at h; exact h
theorem mk_537 {cI cL cZ cR cG cH : ClassId} {L : List Nat} {kd : Nat → Nat} {a : Nat} {e : va_E} (k : kd a = 537) (h : ok_537 cI e) : okc cI cL cZ cR cG cH L kd (kd a) e := by rw [k]; exact h
theorem un_538 {cI cL cZ cR cG cH : ClassId} {L : List Nat} {kd : Nat → Nat} {a : Nat} {e : va_E} (h : okc cI cL cZ cR cG cH L kd (kd a) e) (k : kd a = 538) : ok_538 cI e := by rw [k] at h; exact h
theorem mk_538 {cI cL cZ cR cG cH : ClassId} {L : List Nat} {kd : Nat → Nat} {a : Nat} {e : va_E} (k : kd a = 538) (h : ok_538 cI e) : okc cI cL cZ cR cG cH L kd (kd a) e := by rw [k]; exact h
theorem un_539 {cI cL cZ cR cG cH : ClassId} {L : List Nat} {kd : Nat → Nat} {a : Nat} {e : va_E} (h : okc cI cL cZ cR cG cH L kd (kd a) e) (k : kd a = 539) : ok_539 cI e := by rw [k] at h; exact h
theorem mk_539 {cI cL cZ cR cG cH : ClassId} {L : List Nat} {kd : Nat → Nat} {a : Nat} {e : va_E} (k : kd a = 539) (h : ok_539 cI e) : okc cI cL cZ cR cG cH L kd (kd a) e := by rw [k]; exact h
theorem un_540 {cI cL cZ cR cG cH : ClassId} {L : List Nat} {kd : Nat → Nat} {a : Nat} {e : va_E} (h : okc cI cL cZ cR cG cH L kd (kd a) e) (k : kd a = 540) : ok_540 cI e := by rw [k] at h; exact h
theorem mk_540 {cI cL cZ cR cG cH : ClassId} {L : List Nat} {kd : Nat → Nat} {a : Nat} {e : va_E} (k : kd a = 540) (h : ok_540 cI e) : okc cI cL cZ cR cG cH L kd (kd a) e := by rw [k]; exact h
theorem un_541 {cI cL cZ cR cG cH : ClassId} {L : List Nat} {kd : Nat → Nat} {a : Nat} {e : va_E} (h : okc cI cL cZ cR cG cH L kd (kd a) e) (k : kd a = 541) : ok_541 cI e := by rw [k] at h; exact h
theorem mk_541 {cI cL cZ cR cG cH : ClassId} {L : List Nat} {kd : Nat → Nat} {a : Nat} {e : va_E} (k : kd a = 541) (h : ok_541 cI e) : okc cI cL cZ cR cG cH L kd (kd a) e := by rw [k]; exact h
theorem un_542 {cI cL cZ cR cG cH : ClassId} {L : List Nat} {kd : Nat → Nat} {a : Nat} {e : va_E} (h : okc cI cL cZ cR cG cH L kd (kd a) e) (k : kd a = 542) : ok_542 cI e := by rw [k] at h; exact h
theorem mk_542 {cI cL cZ cR cG cH : ClassId} {L : List Nat} {kd : Nat → Nat} {a : Nat} {e : va_E} (k : kd a = 542) (h : ok_542 cI e) : okc cI cL cZ cR cG cH L kd (kd a) e := by rw [k]; exact h
theorem un_543 {cI cL cZ cR cG cH : ClassId} {L : List Nat} {kd : Nat → Nat} {a : Nat} {e : va_E} (h : okc cI cL cZ cR cG cH L kd (kd a) e) (k : kd a = 543) : ok_543 cI e := by rw [k] at h; exact h
theorem mk_543 {cI cL cZ cR cG cH : ClassId} {L : List Nat} {kd : Nat → Nat} {a : Nat} {e : va_E} (k : kd a = 543) (h : ok_543 cI e) : okc cI cL cZ cR cG cH L kd (kd a) e := by rw [k]; exact h
theorem un_544 {cI cL cZ cR cG cH : ClassId} {L : List Nat} {kd : Nat → Nat} {a : Nat} {e : va_E} (h : okc cI cL cZ cR cG cH L kd (kd a) e) (k : kd a = 544) : ok_544 cI e := by rw [k] at h; exact h
theorem mk_544 {cI cL cZ cR cG cH : ClassId} {L : List Nat} {kd : Nat → Nat} {a : Nat} {e : va_E} (k : kd a = 544) (h : ok_544 cI e) : okc cI cL cZ cR cG cH L kd (kd a) e := by rw [k]; exact h
theorem un_545 {cI cL cZ cR cG cH : ClassId} {L : List Nat} {kd : Nat → Nat} {a : Nat} {e : va_E} (h : okc cI cL cZ cR cG cH L kd (kd a) e) (k : kd a = 545) : ok_545 cI e := by rw [k] at h; exact h
theorem mk_545 {cI cL cZ cR cG cH : ClassId} {L : List Nat} {kd : Nat → Nat} {a : Nat} {e : va_E} (k : kd a = 545) (h : ok_545 cI e) : okc cI cL cZ cR cG cH L kd (kd a) e := by rw [k]; exact h
theorem un_546 {cI cL cZ cR cG cH : ClassId} {L : List Nat} {kd : Nat → Nat} {a : Nat} {e : va_E} (h : okc cI cL cZ cR cG cH L kd (kd a) e) (k : kd a = 546) : ok_546 cI e := by rw [k] at h; exact h
theorem mk_546 {cI cL cZ cR cG cH : ClassId} {L : List Nat} {kd : Nat → Nat} {a : Nat} {e : va_E} (k : kd a = 546) (h : ok_546 cI e) : okc cI cL cZ cR cG cH L kd (kd a) e := by rw [k]; exact h
theorem un_547 {cI cL cZ cR cG cH : ClassId} {L : List Nat} {kd : Nat → Nat} {a : Nat} {e : va_E} (h : okc cI cL cZ cR cG cH L kd (kd a) e) (k : kd a = 547) : ok_547 cI e := by rw [k] at h; exact h
theorem mk_547 {cI cL cZ cR cG cH : ClassId} {L : List Nat} {kd : Nat → Nat} {a : Nat} {e : va_E} (k : kd a = 547) (h : ok_547 cI e) : okc cI cL cZ cR cG cH L kd (kd a) e := by rw [k]; exact h
theorem un_548 {cI cL cZ cR cG cH : ClassId} {L : List Nat} {kd : Nat → Nat} {a : Nat} {e : va_E} (h : okc cI cL cZ cR cG cH L kd (kd a) e) (k : kd a = 548) : ok_548 cI e := by rw [k] at h; exact h
theorem mk_548 {cI cL cZ cR cG cH : ClassId} {L : List Nat} {kd : Nat → Nat} {a : Nat} {e : va_E} (k : kd a = 548) (h : ok_548 cI e) : okc cI cL cZ cR cG cH L kd (kd a) e := by rw [k]; exact h
theorem un_549 {cI cL cZ cR cG cH : ClassId} {L : List Nat} {kd : Nat → Nat} {a : Nat} {e : va_E} (h : okc cI cL cZ cR cG cH L kd (kd a) e) (k : kd a = 549) : ok_549 cI e := by rw [k] at h; exact h
theorem mk_549 {cI cL cZ cR cG cH : ClassId} {L : List Nat} {kd : Nat → Nat} {a : Nat} {e : va_E} (k : kd a = 549) (h : ok_549 cI e) : okc cI cL cZ cR cG cH L kd (kd a) e := by rw [k]; exact h
theorem un_550 {cI cL cZ cR cG cH : ClassId} {L : List Nat} {kd : Nat → Nat} {a : Nat} {e : va_E} (h : okc cI cL cZ cR cG cH L kd (kd a) e) (k : kd a = 550) : ok_550 cI e := by rw [k] at h; exact h
theorem mk_550 {cI cL cZ cR cG cH : ClassId} {L : List Nat} {kd : Nat → Nat} {a : Nat} {e : va_E} (k : kd a = 550) (h : ok_550 cI e) : okc cI cL cZ cR cG cH L kd (kd a) e := by rw [k]; exact h
theorem un_551 {cI cL cZ cR cG cH : ClassId} {L : List Nat} {kd : Nat → Nat} {a : Nat} {e : va_E} (h : okc cI cL cZ cR cG cH L kd (kd a) e) (k : kd a = 551) : ok_551 cI e := by rw [k] at h; exact h
theorem mk_551 {cI cL cZ cR cG cH : ClassId} {L : List Nat} {kd : Nat → Nat} {a : Nat} {e : va_E} (k : kd a = 551) (h : ok_551 cI e) : okc cI cL cZ cR cG cH L kd (kd a) e := by rw [k]; exact h
theorem un_552 {cI cL cZ cR cG cH : ClassId} {L : List Nat} {kd : Nat → Nat} {a : Nat} {e : va_E} (h : okc cI cL cZ cR cG cH L kd (kd a) e) (k : kd a = 552) : ok_552 cI e := by rw [k] at h; exact h
theorem mk_552 {cI cL cZ cR cG cH : ClassId} {L : List Nat} {kd : Nat → Nat} {a : Nat} {e : va_E} (k : kd a = 552) (h : ok_552 cI e) : okc cI cL cZ cR cG cH L kd (kd a) e := by rw [k]; exact h
theorem un_553 {cI cL cZ cR cG cH : ClassId} {L : List Nat} {kd : Nat → Nat} {a : Nat} {e : va_E} (h : okc cI cL cZ cR cG cH L kd (kd a) e) (k : kd a = 553) : ok_553 cI e := by rw [k] at h; exact h
theorem mk_553 {cI cL cZ cR cG cH : ClassId} {L : List Nat} {kd : Nat → Nat} {a : Nat} {e : va_E} (k : kd a = 553) (h : ok_553 cI e) : okc cI cL cZ cR cG cH L kd (kd a) e := by rw [k]; exact h
theorem un_554 {cI cL cZ cR cG cH : ClassId} {L : List Nat} {kd : Nat → Nat} {a : Nat} {e : va_E} (h : okc cI cL cZ cR cG cH L kd (kd a) e) (k : kd a = 554) : ok_554 cI e := by rw [k] at h; exact h
theorem mk_554 {cI cL cZ cR cG cH : ClassId} {L : List Nat} {kd : Nat → Nat} {a : Nat} {e : va_E} (k : kd a = 554) (h : ok_554 cI e) : okc cI cL cZ cR cG cH L kd (kd a) e := by rw [k]; exact h
theorem un_555 {cI cL cZ cR cG cH : ClassId} {L : List Nat} {kd : Nat → Nat} {a : Nat} {e : va_E} (h : okc cI cL cZ cR cG cH L kd (kd a) e) (k : kd a = 555) : ok_555 cI e := by rw [k] at h; exact h
theorem mk_555 {cI cL cZ cR cG cH : ClassId} {L : List Nat} {kd : Nat → Nat} {a : Nat} {e : va_E} (k : kd a = 555) (h : ok_555 cI e) : okc cI cL cZ cR cG cH L kd (kd a) e := by rw [k]; exact h
theorem un_556 {cI cL cZ cR cG cH : ClassId} {L : List Nat} {kd : Nat → Nat} {a : Nat} {e : va_E} (h : okc cI cL cZ cR cG cH L kd (kd a) e) (k : kd a = 556) : ok_556 cR L kd e := by rw [k] at h; exact h
theorem mk_556 {cI cL cZ cR cG cH : ClassId} {L : List Nat} {kd : Nat → Nat} {a : Nat} {e : va_E} (k : kd a = 556) (h : ok_556 cR L kd e) : okc cI cL cZ cR cG cH L kd (kd a) e := by rw [k]; exact h
theorem un_557 {cI cL cZ cR cG cH : ClassId} {L : List Nat} {kd : Nat → Nat} {a : Nat} {e : va_E} (h : okc cI cL cZ cR cG cH L kd (kd a) e) (k : kd a = 557) : ok_557 cI e := by rw [k] at h; exact h
theorem mk_557 {cI cL cZ cR cG cH : ClassId} {L : List Nat} {kd : Nat → Nat} {a : Nat} {e : va_E} (k : kd a = 557) (h : ok_557 cI e) : okc cI cL cZ cR cG cH L kd (kd a) e := by rw [k]; exact h
theorem un_558 {cI cL cZ cR cG cH : ClassId} {L : List Nat} {kd : Nat → Nat} {a : Nat} {e : va_E} (h : okc cI cL cZ cR cG cH L kd (kd a) e) (k : kd a = 558) : ok_558 cI e := by rw [k] at h; exact h
theorem mk_558 {cI cL cZ cR cG cH : ClassId} {L : List Nat} {kd : Nat → Nat} {a : Nat} {e : va_E} (k : kd a = 558) (h : ok_558 cI e) : okc cI cL cZ cR cG cH L kd (kd a) e := by rw [k]; exact h
theorem un_559 {cI cL cZ cR cG cH : ClassId} {L : List Nat} {kd : Nat → Nat} {a : Nat} {e : va_E} (h : okc cI cL cZ cR cG cH L kd (kd a) e) (k : kd a = 559) : ok_559 cI e := by rw [k] at h; exact h
theorem mk_559 {cI cL cZ cR cG cH : ClassId} {L : List Nat} {kd : Nat → Nat} {a : Nat} {e : va_E} (k : kd a = 559) (h : ok_559 cI e) : okc cI cL cZ cR cG cH L kd (kd a) e := by rw [k]; exact h
theorem un_560 {cI cL cZ cR cG cH : ClassId} {L : List Nat} {kd : Nat → Nat} {a : Nat} {e : va_E} (h : okc cI cL cZ cR cG cH L kd (kd a) e) (k : kd a = 560) : ok_560 cI e := by rw [k] at h; exact h
theorem mk_560 {cI cL cZ cR cG cH : ClassId} {L : List Nat} {kd : Nat → Nat} {a : Nat} {e : va_E} (k : kd a = 560) (h : ok_560 cI e) : okc cI cL cZ cR cG cH L kd (kd a) e := by rw [k]; exact h
theorem un_561 {cI cL cZ cR cG cH : ClassId} {L : List Nat} {kd : Nat → Nat} {a : Nat} {e : va_E} (h : okc cI cL cZ cR cG cH L kd (kd a) e) (k : kd a = 561) : ok_561 cI e := by rw [k] at h; exact h
theorem mk_561 {cI cL cZ cR cG cH : ClassId} {L : List Nat} {kd : Nat → Nat} {a : Nat} {e : va_E} (k : kd a = 561) (h : ok_561 cI e) : okc cI cL cZ cR cG cH L kd (kd a) e := by rw [k]; exact h
theorem un_562 {cI cL cZ cR cG cH : ClassId} {L : List Nat} {kd : Nat → Nat} {a : Nat} {e : va_E} (h : okc cI cL cZ cR cG cH L kd (kd a) e) (k : kd a = 562) : ok_562 cI e := by rw [k] at h; exact h
theorem mk_562 {cI cL cZ cR cG cH : ClassId} {L : List Nat} {kd : Nat → Nat} {a : Nat} {e : va_E} (k : kd a = 562) (h : ok_562 cI e) : okc cI cL cZ cR cG cH L kd (kd a) e := by rw [k]; exact h
theorem un_563 {cI cL cZ cR cG cH : ClassId} {L : List Nat} {kd : Nat → Nat} {a : Nat} {e : va_E} (h : okc cI cL cZ cR cG cH L kd (kd a) e) (k : kd a = 563) : ok_563 cI e := by rw [k] at h; exact h
theorem mk_563 {cI cL cZ cR cG cH : ClassId} {L : List Nat} {kd : Nat → Nat} {a : Nat} {e : va_E} (k : kd a = 563) (h : ok_563 cI e) : okc cI cL cZ cR cG cH L kd (kd a) e := by rw [k]; exact h
theorem un_564 {cI cL cZ cR cG cH : ClassId} {L : List Nat} {kd : Nat → Nat} {a : Nat} {e : va_E} (h : okc cI cL cZ cR cG cH L kd (kd a) e) (k : kd a = 564) : ok_564 cI e := by rw [k] at h; exact h
theorem mk_564 {cI cL cZ cR cG cH : ClassId} {L : List Nat} {kd : Nat → Nat} {a : Nat} {e : va_E} (k : kd a = 564) (h : ok_564 cI e) : okc cI cL cZ cR cG cH L kd (kd a) e := by rw [k]; exact h
theorem un_565 {cI cL cZ cR cG cH : ClassId} {L : List Nat} {kd : Nat → Nat} {a : Nat} {e : va_E} (h : okc cI cL cZ cR cG cH L kd (kd a) e) (k : kd a = 565) : ok_565 cI e := by rw [k] at h; exact h
theorem mk_565 {cI cL cZ cR cG cH : ClassId} {L : List Nat} {kd : Nat → Nat} {a : Nat} {e : va_E} (k : kd a = 565) (h : ok_565 cI e) : okc cI cL cZ cR cG cH L kd (kd a) e := by rw [k]; exact h
theorem un_566 {cI cL cZ cR cG cH : ClassId} {L : List Nat} {kd : Nat → Nat} {a : Nat} {e : va_E} (h : okc cI cL cZ cR cG cH L kd (kd a) e) (k : kd a = 566) : ok_566 cI e := by rw [k] at h; exact h
theorem mk_566 {cI cL cZ cR cG cH : ClassId} {L : List Nat} {kd : Nat → Nat} {a : Nat} {e : va_E} (k : kd a = 566) (h : ok_566 cI e) : okc cI cL cZ cR cG cH L kd (kd a) e := by rw [k]; exact h
theorem un_567 {cI cL cZ cR cG cH : ClassId} {L : List Nat} {kd : Nat → Nat} {a : Nat} {e : va_E} (h : okc cI cL cZ cR cG cH L kd (kd a) e) (k : kd a = 567) : ok_567 cI e := by rw [k] at h; exact h
theorem mk_567 {cI cL cZ cR cG cH : ClassId} {L : List Nat} {kd : Nat → Nat} {a : Nat} {e : va_E} (k : kd a = 567) (h : ok_567 cI e) : okc cI cL cZ cR cG cH L kd (kd a) e := by rw [k]; exact h
theorem un_568 {cI cL cZ cR cG cH : ClassId} {L : List Nat} {kd : Nat → Nat} {a : Nat} {e : va_E} (h : okc cI cL cZ cR cG cH L kd (kd a) e) (k : kd a = 568) : ok_568 cI e := by rw [k] at h; exact h
theorem mk_568 {cI cL cZ cR cG cH : ClassId} {L : List Nat} {kd : Nat → Nat} {a : Nat} {e : va_E} (k : kd a = 568) (h : ok_568 cI e) : okc cI cL cZ cR cG cH L kd (kd a) e := by rw [k]; exact h
theorem un_569 {cI cL cZ cR cG cH : ClassId} {L : List Nat} {kd : Nat → Nat} {a : Nat} {e : va_E} (h : okc cI cL cZ cR cG cH L kd (kd a) e) (k : kd a = 569) : ok_569 cI e := by rw [k] at h; exact h
theorem mk_569 {cI cL cZ cR cG cH : ClassId} {L : List Nat} {kd : Nat → Nat} {a : Nat} {e : va_E} (k : kd a = 569) (h : ok_569 cI e) : okc cI cL cZ cR cG cH L kd (kd a) e := by rw [k]; exact h
theorem un_570 {cI cL cZ cR cG cH : ClassId} {L : List Nat} {kd : Nat → Nat} {a : Nat} {e : va_E} (h : okc cI cL cZ cR cG cH L kd (kd a) e) (k : kd a = 570) : ok_570 cI e := by rw [k] at h; exact h
theorem mk_570 {cI cL cZ cR cG cH : ClassId} {L : List Nat} {kd : Nat → Nat} {a : Nat} {e : va_E} (k : kd a = 570) (h : ok_570 cI e) : okc cI cL cZ cR cG cH L kd (kd a) e := by rw [k]; exact h
theorem un_571 {cI cL cZ cR cG cH : ClassId} {L : List Nat} {kd : Nat → Nat} {a : Nat} {e : va_E} (h : okc cI cL cZ cR cG cH L kd (kd a) e) (k : kd a = 571) : ok_571 cI e := by rw [k] at h; exact h
theorem mk_571 {cI cL cZ cR cG cH : ClassId} {L : List Nat} {kd : Nat → Nat} {a : Nat} {e : va_E} (k : kd a = 571) (h : ok_571 cI e) : okc cI cL cZ cR cG cH L kd (kd a) e := by rw [k]; exact h
theorem un_572 {cI cL cZ cR cG cH : ClassId} {L : List Nat} {kd : Nat → Nat} {a : Nat} {e : va_E} (h : okc cI cL cZ cR cG cH L kd (kd a) e) (k : kd a = 572) : ok_572 cI e := by rw [k] at h; exact h
theorem mk_572 {cI cL cZ cR cG cH : ClassId} {L : List Nat} {kd : Nat → Nat} {a : Nat} {e : va_E} (k : kd a = 572) (h : ok_572 cI e) : okc cI cL cZ cR cG cH L kd (kd a) e := by rw [k]; exact h
theorem un_573 {cI cL cZ cR cG cH : ClassId} {L : List Nat} {kd : Nat → Nat} {a : Nat} {e : va_E} (h : okc cI cL cZ cR cG cH L kd (kd a) e) (k : kd a = 573) : ok_573 cR L kd e := by rw [k] at h; exact h
theorem mk_573 {cI cL cZ cR cG cH : ClassId} {L : List Nat} {kd : Nat → Nat} {a : Nat} {e : va_E} (k : kd a = 573) (h : ok_573 cR L kd e) : okc cI cL cZ cR cG cH L kd (kd a) e := by rw [k]; exact h
theorem un_574 {cI cL cZ cR cG cH : ClassId} {L : List Nat} {kd : Nat → Nat} {a : Nat} {e : va_E} (h : okc cI cL cZ cR cG cH L kd (kd a) e) (k : kd a = 574) : ok_574 cI e := by rw [k] at h; exact h
theorem mk_574 {cI cL cZ cR cG cH : ClassId} {L : List Nat} {kd : Nat → Nat} {a : Nat} {e : va_E} (k : kd a = 574) (h : ok_574 cI e) : okc cI cL cZ cR cG cH L kd (kd a) e := by rw [k]; exact h
theorem un_575 {cI cL cZ cR cG cH : ClassId} {L : List Nat} {kd : Nat → Nat} {a : Nat} {e : va_E} (h : okc cI cL cZ cR cG cH L kd (kd a) e) (k : kd a = 575) : ok_575 cI e := by rw [k] at h; exact h
theorem mk_575 {cI cL cZ cR cG cH : ClassId} {L : List Nat} {kd : Nat → Nat} {a : Nat} {e : va_E} (k : kd a = 575) (h : ok_575 cI e) : okc cI cL cZ cR cG cH L kd (kd a) e := by rw [k]; exact h
theorem un_576 {cI cL cZ cR cG cH : ClassId} {L : List Nat} {kd : Nat → Nat} {a : Nat} {e : va_E} (h : okc cI cL cZ cR cG cH L kd (kd a) e) (k : kd a = 576) : ok_576 cI e := by rw [k] at h; exact h
theorem mk_576 {cI cL cZ cR cG cH : ClassId} {L : List Nat} {kd : Nat → Nat} {a : Nat} {e : va_E} (k : kd a = 576) (h : ok_576 cI e) : okc cI cL cZ cR cG cH L kd (kd a) e := by rw [k]; exact h
theorem un_577 {cI cL cZ cR cG cH : ClassId} {L : List Nat} {kd : Nat → Nat} {a : Nat} {e : va_E} (h : okc cI cL cZ cR cG cH L kd (kd a) e) (k : kd a = 577) : ok_577 cI e := by rw [k] at h; exact h
theorem mk_577 {cI cL cZ cR cG cH : ClassId} {L : List Nat} {kd : Nat → Nat} {a : Nat} {e : va_E} (k : kd a = 577) (h : ok_577 cI e) : okc cI cL cZ cR cG cH L kd (kd a) e := by rw [k]; exact h
theorem un_578 {cI cL cZ cR cG cH : ClassId} {L : List Nat} {kd : Nat → Nat} {a : Nat} {e : va_E} (h : okc cI cL cZ cR cG cH L kd (kd a) e) (k : kd a = 578) : ok_578 cI e := by rw [k] at h; exact h
theorem mk_578 {cI cL cZ cR cG cH : ClassId} {L : List Nat} {kd : Nat → Nat} {a : Nat} {e : va_E} (k : kd a = 578) (h : ok_578 cI e) : okc cI cL cZ cR cG cH L kd (kd a) e := by rw [k]; exact h
theorem un_579 {cI cL cZ cR cG cH : ClassId} {L : List Nat} {kd : Nat → Nat} {a : Nat} {e : va_E} (h : okc cI cL cZ cR cG cH L kd (kd a) e) (k : kd a = 579) : ok_579 cI e := by rw [k] at h; exact h
theorem mk_579 {cI cL cZ cR cG cH : ClassId} {L : List Nat} {kd : Nat → Nat} {a : Nat} {e : va_E} (k : kd a = 579) (h : ok_579 cI e) : okc cI cL cZ cR cG cH L kd (kd a) e := by rw [k]; exact h
theorem un_580 {cI cL cZ cR cG cH : ClassId} {L : List Nat} {kd : Nat → Nat} {a : Nat} {e : va_E} (h : okc cI cL cZ cR cG cH L kd (kd a) e) (k : kd a = 580) : ok_580 cG L kd e := by rw [k] at h; exact h
theorem mk_580 {cI cL cZ cR cG cH : ClassId} {L : List Nat} {kd : Nat → Nat} {a : Nat} {e : va_E} (k : kd a = 580) (h : ok_580 cG L kd e) : okc cI cL cZ cR cG cH L kd (kd a) e := by rw [k]; exact h
theorem un_581 {cI cL cZ cR cG cH : ClassId} {L : List Nat} {kd : Nat → Nat} {a : Nat} {e : va_E} (h : okc cI cL cZ cR cG cH L kd (kd a) e) (k : kd a = 581) : ok_581 cI e := by rw [k] at h; exact h
theorem mk_581 {cI cL cZ cR cG cH : ClassId} {L : List Nat} {kd : Nat → Nat} {a : Nat} {e : va_E} (k : kd a = 581) (h : ok_581 cI e) : okc cI cL cZ cR cG cH L kd (kd a) e := by rw [k]; exact h
theorem un_582 {cI cL cZ cR cG cH : ClassId} {L : List Nat} {kd : Nat → Nat} {a : Nat} {e : va_E} (h : okc cI cL cZ cR cG cH L kd (kd a) e) (k : kd a = 582) : ok_582 cG L kd e := by rw [k] at h; exact h
theorem mk_582 {cI cL cZ cR cG cH : ClassId} {L : List Nat} {kd : Nat → Nat} {a : Nat} {e : va_E} (k : kd a = 582) (h : ok_582 cG L kd e) : okc cI cL cZ cR cG cH L kd (kd a) e := by rw [k]; exact h
theorem un_583 {cI cL cZ cR cG cH : ClassId} {L : List Nat} {kd : Nat → Nat} {a : Nat} {e : va_E} (h : okc cI cL cZ cR cG cH L kd (kd a) e) (k : kd a = 583) : ok_583 cI e := by rw [k] at h; exact h
theorem mk_583 {cI cL cZ cR cG cH : ClassId} {L : List Nat} {kd : Nat → Nat} {a : Nat} {e : va_E} (k : kd a = 583) (h : ok_583 cI e) : okc cI cL cZ cR cG cH L kd (kd a) e := by rw [k]; exact h
theorem un_584 {cI cL cZ cR cG cH : ClassId} {L : List Nat} {kd : Nat → Nat} {a : Nat} {e : va_E} (h : okc cI cL cZ cR cG cH L kd (kd a) e) (k : kd a = 584) : ok_584 cG L kd e := by rw [k] at h; exact h
theorem mk_584 {cI cL cZ cR cG cH : ClassId} {L : List Nat} {kd : Nat → Nat} {a : Nat} {e : va_E} (k : kd a = 584) (h : ok_584 cG L kd e) : okc cI cL cZ cR cG cH L kd (kd a) e := by rw [k]; exact h
theorem un_585 {cI cL cZ cR cG cH : ClassId} {L : List Nat} {kd : Nat → Nat} {a : Nat} {e : va_E} (h : okc cI cL cZ cR cG cH L kd (kd a) e) (k : kd a = 585) : ok_585 cI e := by rw [k] at h; exact h
theorem mk_585 {cI cL cZ cR cG cH : ClassId} {L : List Nat} {kd : Nat → Nat} {a : Nat} {e : va_E} (k : kd a = 585) (h : ok_585 cI e) : okc cI cL cZ cR cG cH L kd (kd a) e := by rw [k]; exact h
theorem un_586 {cI cL cZ cR cG cH : ClassId} {L : List Nat} {kd : Nat → Nat} {a : Nat} {e : va_E} (h : okc cI cL cZ cR cG cH L kd (kd a) e) (k : kd a = 586) : ok_586 cG L kd e := by rw [k] at h; exact h
theorem mk_586 {cI cL cZ cR cG cH : ClassId} {L : List Nat} {kd : Nat → Nat} {a : Nat} {e : va_E} (k : kd a = 586) (h : ok_586 cG L kd e) : okc cI cL cZ cR cG cH L kd (kd a) e := by rw [k]; exact h
theorem un_587 {cI cL cZ cR cG cH : ClassId} {L : List Nat} {kd : Nat → Nat} {a : Nat} {e : va_E} (h : okc cI cL cZ cR cG cH L kd (kd a) e) (k : kd a = 587) : ok_587 cI e := by rw [k] at h; exact h
theorem mk_587 {cI cL cZ cR cG cH : ClassId} {L : List Nat} {kd : Nat → Nat} {a : Nat} {e : va_E} (k : kd a = 587) (h : ok_587 cI e) : okc cI cL cZ cR cG cH L kd (kd a) e := by rw [k]; exact h
theorem un_588 {cI cL cZ cR cG cH : ClassId} {L : List Nat} {kd : Nat → Nat} {a : Nat} {e : va_E} (h : okc cI cL cZ cR cG cH L kd (kd a) e) (k : kd a = 588) : ok_588 cI e := by rw [k] at h; exact h
theorem mk_588 {cI cL cZ cR cG cH : ClassId} {L : List Nat} {kd : Nat → Nat} {a : Nat} {e : va_E} (k : kd a = 588) (h : ok_588 cI e) : okc cI cL cZ cR cG cH L kd (kd a) e := by rw [k]; exact h
theorem un_589 {cI cL cZ cR cG cH : ClassId} {L : List Nat} {kd : Nat → Nat} {a : Nat} {e : va_E} (h : okc cI cL cZ cR cG cH L kd (kd a) e) (k : kd a = 589) : ok_589 cI e := by rw [k] at h; exact h
theorem mk_589 {cI cL cZ cR cG cH : ClassId} {L : List Nat} {kd : Nat → Nat} {a : Nat} {e : va_E} (k : kd a = 589) (h : ok_589 cI e) : okc cI cL cZ cR cG cH L kd (kd a) e := by rw [k]; exact h
theorem un_590 {cI cL cZ cR cG cH : ClassId} {L : List Nat} {kd : Nat → Nat} {a : Nat} {e : va_E} (h : okc cI cL cZ cR cG cH L kd (kd a) e) (k : kd a = 590) : ok_590 cI e := by rw [k] at h; exact h
theorem mk_590 {cI cL cZ cR cG cH : ClassId} {L : List Nat} {kd : Nat → Nat} {a : Nat} {e : va_E} (k : kd a = 590) (h : ok_590 cI e) : okc cI cL cZ cR cG cH L kd (kd a) e := by rw [k]; exact h
theorem un_591 {cI cL cZ cR cG cH : ClassId} {L : List Nat} {kd : Nat → Nat} {a : Nat} {e : va_E} (h : okc cI cL cZ cR cG cH L kd (kd a) e) (k : kd a = 591) : ok_591 cL e := by rw [k] at h; exact h
theorem mk_591 {cI cL cZ cR cG cH : ClassId} {L : List Nat} {kd : Nat → Nat} {a : Nat} {e : va_E} (k : kd a = 591) (h : ok_591 cL e) : okc cI cL cZ cR cG cH L kd (kd a) e := by rw [k]; exact h
theorem un_592 {cI cL cZ cR cG cH : ClassId} {L : List Nat} {kd : Nat → Nat} {a : Nat} {e : va_E} (h : okc cI cL cZ cR cG cH L kd (kd a) e) (k : kd a = 592) : ok_592 cI e := by rw [k] at h; exact h
theorem mk_592 {cI cL cZ cR cG cH : ClassId} {L : List Nat} {kd : Nat → Nat} {a : Nat} {e : va_E} (k : kd a = 592) (h : ok_592 cI e) : okc cI cL cZ cR cG cH L kd (kd a) e := by rw [k]; exact h
theorem un_593 {cI cL cZ cR cG cH : ClassId} {L : List Nat} {kd : Nat → Nat} {a : Nat} {e : va_E} (h : okc cI cL cZ cR cG cH L kd (kd a) e) (k : kd a = 593) : ok_593 cI e := by rw [k] at h; exact h
theorem mk_593 {cI cL cZ cR cG cH : ClassId} {L : List Nat} {kd : Nat → Nat} {a : Nat} {e : va_E} (k : kd a = 593) (h : ok_593 cI e) : okc cI cL cZ cR cG cH L kd (kd a) e := by rw [k]; exact h
theorem un_594 {cI cL cZ cR cG cH : ClassId} {L : List Nat} {kd : Nat → Nat} {a : Nat} {e : va_E} (h : okc cI cL cZ cR cG cH L kd (kd a) e) (k : kd a = 594) : ok_594 cI e := by rw [k] at h; exact h
theorem mk_594 {cI cL cZ cR cG cH : ClassId} {L : List Nat} {kd : Nat → Nat} {a : Nat} {e : va_E} (k : kd a = 594) (h : ok_594 cI e) : okc cI cL cZ cR cG cH L kd (kd a) e := by rw [k]; exact h
theorem un_595 {cI cL cZ cR cG cH : ClassId} {L : List Nat} {kd : Nat → Nat} {a : Nat} {e : va_E} (h : okc cI cL cZ cR cG cH L kd (kd a) e) (k : kd a = 595) : ok_595 cI e := by rw [k] at h; exact h
theorem mk_595 {cI cL cZ cR cG cH : ClassId} {L : List Nat} {kd : Nat → Nat} {a : Nat} {e : va_E} (k : kd a = 595) (h : ok_595 cI e) : okc cI cL cZ cR cG cH L kd (kd a) e := by rw [k]; exact h
theorem un_596 {cI cL cZ cR cG cH : ClassId} {L : List Nat} {kd : Nat → Nat} {a : Nat} {e : va_E} (h : okc cI cL cZ cR cG cH L kd (kd a) e) (k : kd a = 596) : ok_596 cI e := by rw [k] at h; exact h
theorem mk_596 {cI cL cZ cR cG cH : ClassId} {L : List Nat} {kd : Nat → Nat} {a : Nat} {e : va_E} (k : kd a = 596) (h : ok_596 cI e) : okc cI cL cZ cR cG cH L kd (kd a) e := by rw [k]; exact h
theorem un_597 {cI cL cZ cR cG cH : ClassId} {L : List Nat} {kd : Nat → Nat} {a : Nat} {e : va_E} (h : okc cI cL cZ cR cG cH L kd (kd a) e) (k : kd a = 597) : ok_597 cI e := by rw [k] at h; exact h
theorem mk_597 {cI cL cZ cR cG cH : ClassId} {L : List Nat} {kd : Nat → Nat} {a : Nat} {e : va_E} (k : kd a = 597) (h : ok_597 cI e) : okc cI cL cZ cR cG cH L kd (kd a) e := by rw [k]; exact h
theorem un_598 {cI cL cZ cR cG cH : ClassId} {L : List Nat} {kd : Nat → Nat} {a : Nat} {e : va_E} (h : okc cI cL cZ cR cG cH L kd (kd a) e) (k : kd a = 598) : ok_598 cI e := by rw [k] at h; exact h
theorem mk_598 {cI cL cZ cR cG cH : ClassId} {L : List Nat} {kd : Nat → Nat} {a : Nat} {e : va_E} (k : kd a = 598) (h : ok_598 cI e) : okc cI cL cZ cR cG cH L kd (kd a) e := by rw [k]; exact h
theorem un_599 {cI cL cZ cR cG cH : ClassId} {L : List Nat} {kd : Nat → Nat} {a : Nat} {e : va_E} (h : okc cI cL cZ cR cG cH L kd (kd a) e) (k : kd a = 599) : ok_599 cI e := by rw [k] at h; exact h
theorem mk_599 {cI cL cZ cR cG cH : ClassId} {L : List Nat} {kd : Nat → Nat} {a : Nat} {e : va_E} (k : kd a = 599) (h : ok_599 cI e) : okc cI cL cZ cR cG cH L kd (kd a) e := by rw [k]; exact h
theorem un_600 {cI cL cZ cR cG cH : ClassId} {L : List Nat} {kd : Nat → Nat} {a : Nat} {e : va_E} (h : okc cI cL cZ cR cG cH L kd (kd a) e) (k : kd a = 600) : ok_600 cI e := by rw [k] at h; exact h
theorem mk_600 {cI cL cZ cR cG cH : ClassId} {L : List Nat} {kd : Nat → Nat} {a : Nat} {e : va_E} (k : kd a = 600) (h : ok_600 cI e) : okc cI cL cZ cR cG cH L kd (kd a) e := by rw [k]; exact h
theorem un_601 {cI cL cZ cR cG cH : ClassId} {L : List Nat} {kd : Nat → Nat} {a : Nat} {e : va_E} (h : okc cI cL cZ cR cG cH L kd (kd a) e) (k : kd a = 601) : ok_601 cI e := by rw [k] at h; exact h
theorem mk_601 {cI cL cZ cR cG cH : ClassId} {L : List Nat} {kd : Nat → Nat} {a : Nat} {e : va_E} (k : kd a = 601) (h : ok_601 cI e) : okc cI cL cZ cR cG cH L kd (kd a) e := by rw [k]; exact h
theorem un_602 {cI cL cZ cR cG cH : ClassId} {L : List Nat} {kd : Nat → Nat} {a : Nat} {e : va_E} (h : okc cI cL cZ cR cG cH L kd (kd a) e) (k : kd a = 602) : ok_602 cI e := by rw [k] at h; exact h
theorem mk_602 {cI cL cZ cR cG cH : ClassId} {L : List Nat} {kd : Nat → Nat} {a : Nat} {e : va_E} (k : kd a = 602) (h : ok_602 cI e) : okc cI cL cZ cR cG cH L kd (kd a) e := by rw [k]; exact h
theorem un_603 {cI cL cZ cR cG cH : ClassId} {L : List Nat} {kd : Nat → Nat} {a : Nat} {e : va_E} (h : okc cI cL cZ cR cG cH L kd (kd a) e) (k : kd a = 603) : ok_603 cZ e := by rw [k] at h; exact h
theorem mk_603 {cI cL cZ cR cG cH : ClassId} {L : List Nat} {kd : Nat → Nat} {a : Nat} {e : va_E} (k : kd a = 603) (h : ok_603 cZ e) : okc cI cL cZ cR cG cH L kd (kd a) e := by rw [k]; exact h
theorem un_604 {cI cL cZ cR cG cH : ClassId} {L : List Nat} {kd : Nat → Nat} {a : Nat} {e : va_E} (h : okc cI cL cZ cR cG cH L kd (kd a) e) (k : kd a = 604) : ok_604 cZ e := by rw [k] at h; exact h
theorem mk_604 {cI cL cZ cR cG cH : ClassId} {L : List Nat} {kd : Nat → Nat} {a : Nat} {e : va_E} (k : kd a = 604) (h : ok_604 cZ e) : okc cI cL cZ cR cG cH L kd (kd a) e := by rw [k]; exact h
theorem un_605 {cI cL cZ cR cG cH : ClassId} {L : List Nat} {kd : Nat → Nat} {a : Nat} {e : va_E} (h : okc cI cL cZ cR cG cH L kd (kd a) e) (k : kd a = 605) : ok_605 cH L kd e := by rw [k] at h; exact h
theorem mk_605 {cI cL cZ cR cG cH : ClassId} {L : List Nat} {kd : Nat → Nat} {a : Nat} {e : va_E} (k : kd a = 605) (h : ok_605 cH L kd e) : okc cI cL cZ cR cG cH L kd (kd a) e := by rw [k]; exact h
theorem un_606 {cI cL cZ cR cG cH : ClassId} {L : List Nat} {kd : Nat → Nat} {a : Nat} {e : va_E} (h : okc cI cL cZ cR cG cH L kd (kd a) e) (k : kd a = 606) : ok_606 cI e := by rw [k] at h; exact h
theorem mk_606 {cI cL cZ cR cG cH : ClassId} {L : List Nat} {kd : Nat → Nat} {a : Nat} {e : va_E} (k : kd a = 606) (h : ok_606 cI e) : okc cI cL cZ cR cG cH L kd (kd a) e := by rw [k]; exact h
theorem un_607 {cI cL cZ cR cG cH : ClassId} {L : List Nat} {kd : Nat → Nat} {a : Nat} {e : va_E} (h : okc cI cL cZ cR cG cH L kd (kd a) e) (k : kd a = 607) : ok_607 cI e := by rw [k] at h; exact h
theorem mk_607 {cI cL cZ cR cG cH : ClassId} {L : List Nat} {kd : Nat → Nat} {a : Nat} {e : va_E} (k : kd a = 607) (h : ok_607 cI e) : okc cI cL cZ cR cG cH L kd (kd a) e := by rw [k]; exact h
theorem un_608 {cI cL cZ cR cG cH : ClassId} {L : List Nat} {kd : Nat → Nat} {a : Nat} {e : va_E} (h : okc cI cL cZ cR cG cH L kd (kd a) e) (k : kd a = 608) : ok_608 cI e := by rw [k] at h; exact h
theorem mk_608 {cI cL cZ cR cG cH : ClassId} {L : List Nat} {kd : Nat → Nat} {a : Nat} {e : va_E} (k : kd a = 608) (h : ok_608 cI e) : okc cI cL cZ cR cG cH L kd (kd a) e := by rw [k]; exact h
theorem un_609 {cI cL cZ cR cG cH : ClassId} {L : List Nat} {kd : Nat → Nat} {a : Nat} {e : va_E} (h : okc cI cL cZ cR cG cH L kd (kd a) e) (k : kd a = 609) : ok_609 cZ e := by rw [k] at h; exact h
theorem mk_609 {cI cL cZ cR cG cH : ClassId} {L : List Nat} {kd : Nat → Nat} {a : Nat} {e : va_E} (k : kd a = 609) (h : ok_609 cZ e) : okc cI cL cZ cR cG cH L kd (kd a) e := by rw [k]; exact h
theorem un_610 {cI cL cZ cR cG cH : ClassId} {L : List Nat} {kd : Nat → Nat} {a : Nat} {e : va_E} (h : okc cI cL cZ cR cG cH L kd (kd a) e) (k : kd a = 610) : ok_610 cI e := by rw [k] at h; exact h
theorem mk_610 {cI cL cZ cR cG cH : ClassId} {L : List Nat} {kd : Nat → Nat} {a : Nat} {e : va_E} (k : kd a = 610) (h : ok_610 cI e) : okc cI cL cZ cR cG cH L kd (kd a) e := by rw [k]; exact h
