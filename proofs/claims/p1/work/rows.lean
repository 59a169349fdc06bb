section
/-- a private method of a class that the tables say can be made, by its rows of tables_1 -/
def lw_okq (q : MethodName × Nat) : Prop := (q.1.cls ≠ "java/lang/invoke/MethodHandle" ∧ q.1.cls ≠ "java/lang/invoke/VarHandle") ∧ Cond.instantiable q.1.cls q.2 ∈ tables_1 ∧ Cond.privateMethod q.1 ∈ tables_1 ∧ Cond.instanceMethod q.1 ∈ tables_1
theorem lw_p0 : lw_okq (⟨"SaidShallow", "putNumber", "(I)V"⟩, 19) := ⟨⟨by decide +kernel, by decide +kernel⟩, List.mem_of_getElem? (i := 23) (by decide +kernel), List.mem_of_getElem? (i := 553) (by decide +kernel), List.mem_of_getElem? (i := 554) (by decide +kernel)⟩
theorem lw_p1 : lw_okq (⟨"SaidShallow", "emptyTape", "()I"⟩, 19) := ⟨⟨by decide +kernel, by decide +kernel⟩, List.mem_of_getElem? (i := 23) (by decide +kernel), List.mem_of_getElem? (i := 565) (by decide +kernel), List.mem_of_getElem? (i := 566) (by decide +kernel)⟩
theorem lw_p2 : lw_okq (⟨"SaidShallow$Reader", "peek", "()I"⟩, 10) := ⟨⟨by decide +kernel, by decide +kernel⟩, List.mem_of_getElem? (i := 407) (by decide +kernel), List.mem_of_getElem? (i := 590) (by decide +kernel), List.mem_of_getElem? (i := 591) (by decide +kernel)⟩
theorem lw_p3 : lw_okq (⟨"SaidShallow$Reader", "readStatement", "()Z"⟩, 10) := ⟨⟨by decide +kernel, by decide +kernel⟩, List.mem_of_getElem? (i := 407) (by decide +kernel), List.mem_of_getElem? (i := 594) (by decide +kernel), List.mem_of_getElem? (i := 595) (by decide +kernel)⟩
theorem lw_p4 : lw_okq (⟨"SaidShallow$Reader", "isKeyword", "(Ljava/lang/String;I)Z"⟩, 10) := ⟨⟨by decide +kernel, by decide +kernel⟩, List.mem_of_getElem? (i := 407) (by decide +kernel), List.mem_of_getElem? (i := 602) (by decide +kernel), List.mem_of_getElem? (i := 603) (by decide +kernel)⟩
theorem lw_p5 : lw_okq (⟨"SaidShallow$Reader", "readLetters", "()Z"⟩, 10) := ⟨⟨by decide +kernel, by decide +kernel⟩, List.mem_of_getElem? (i := 407) (by decide +kernel), List.mem_of_getElem? (i := 654) (by decide +kernel), List.mem_of_getElem? (i := 655) (by decide +kernel)⟩
theorem lw_p6 : lw_okq (⟨"SaidShallow$Reader", "fail", "(II)Z"⟩, 10) := ⟨⟨by decide +kernel, by decide +kernel⟩, List.mem_of_getElem? (i := 407) (by decide +kernel), List.mem_of_getElem? (i := 662) (by decide +kernel), List.mem_of_getElem? (i := 663) (by decide +kernel)⟩
theorem lw_p7 : lw_okq (⟨"SaidShallow$Tongue", "keepPair", "(IIII)V"⟩, 16) := ⟨⟨by decide +kernel, by decide +kernel⟩, List.mem_of_getElem? (i := 37) (by decide +kernel), List.mem_of_getElem? (i := 670) (by decide +kernel), List.mem_of_getElem? (i := 671) (by decide +kernel)⟩
theorem lw_p8 : lw_okq (⟨"SaidShallow$Reader", "readClass", "()Z"⟩, 10) := ⟨⟨by decide +kernel, by decide +kernel⟩, List.mem_of_getElem? (i := 407) (by decide +kernel), List.mem_of_getElem? (i := 675) (by decide +kernel), List.mem_of_getElem? (i := 676) (by decide +kernel)⟩
theorem lw_p9 : lw_okq (⟨"SaidShallow$Reader", "readPair", "()Z"⟩, 10) := ⟨⟨by decide +kernel, by decide +kernel⟩, List.mem_of_getElem? (i := 407) (by decide +kernel), List.mem_of_getElem? (i := 683) (by decide +kernel), List.mem_of_getElem? (i := 684) (by decide +kernel)⟩
theorem lw_p10 : lw_okq (⟨"SaidShallow$Reader", "readS", "()Z"⟩, 10) := ⟨⟨by decide +kernel, by decide +kernel⟩, List.mem_of_getElem? (i := 407) (by decide +kernel), List.mem_of_getElem? (i := 687) (by decide +kernel), List.mem_of_getElem? (i := 688) (by decide +kernel)⟩
theorem lw_p11 : lw_okq (⟨"SaidShallow$Reader", "expect", "(I)Z"⟩, 10) := ⟨⟨by decide +kernel, by decide +kernel⟩, List.mem_of_getElem? (i := 407) (by decide +kernel), List.mem_of_getElem? (i := 691) (by decide +kernel), List.mem_of_getElem? (i := 692) (by decide +kernel)⟩
theorem lw_p12 : lw_okq (⟨"SaidShallow$Reader", "skipIf", "(I)Z"⟩, 10) := ⟨⟨by decide +kernel, by decide +kernel⟩, List.mem_of_getElem? (i := 407) (by decide +kernel), List.mem_of_getElem? (i := 695) (by decide +kernel), List.mem_of_getElem? (i := 696) (by decide +kernel)⟩
theorem lw_p13 : lw_okq (⟨"SaidShallow$Reader", "readRule", "(I)Z"⟩, 10) := ⟨⟨by decide +kernel, by decide +kernel⟩, List.mem_of_getElem? (i := 407) (by decide +kernel), List.mem_of_getElem? (i := 708) (by decide +kernel), List.mem_of_getElem? (i := 709) (by decide +kernel)⟩
theorem lw_p14 : lw_okq (⟨"SaidShallow$Reader", "readOp", "(LSaidShallow$Rule;)Z"⟩, 10) := ⟨⟨by decide +kernel, by decide +kernel⟩, List.mem_of_getElem? (i := 407) (by decide +kernel), List.mem_of_getElem? (i := 721) (by decide +kernel), List.mem_of_getElem? (i := 722) (by decide +kernel)⟩
theorem lw_p15 : lw_okq (⟨"SaidShallow$Reader", "standsHere", "(Ljava/lang/String;)Z"⟩, 10) := ⟨⟨by decide +kernel, by decide +kernel⟩, List.mem_of_getElem? (i := 407) (by decide +kernel), List.mem_of_getElem? (i := 726) (by decide +kernel), List.mem_of_getElem? (i := 727) (by decide +kernel)⟩
def lw_privs_1 : List (MethodName × Nat) := [(⟨"SaidShallow", "putNumber", "(I)V"⟩, 19), (⟨"SaidShallow", "emptyTape", "()I"⟩, 19), (⟨"SaidShallow$Reader", "peek", "()I"⟩, 10), (⟨"SaidShallow$Reader", "readStatement", "()Z"⟩, 10), (⟨"SaidShallow$Reader", "isKeyword", "(Ljava/lang/String;I)Z"⟩, 10), (⟨"SaidShallow$Reader", "readLetters", "()Z"⟩, 10), (⟨"SaidShallow$Reader", "fail", "(II)Z"⟩, 10), (⟨"SaidShallow$Tongue", "keepPair", "(IIII)V"⟩, 16), (⟨"SaidShallow$Reader", "readClass", "()Z"⟩, 10), (⟨"SaidShallow$Reader", "readPair", "()Z"⟩, 10), (⟨"SaidShallow$Reader", "readS", "()Z"⟩, 10), (⟨"SaidShallow$Reader", "expect", "(I)Z"⟩, 10), (⟨"SaidShallow$Reader", "skipIf", "(I)Z"⟩, 10), (⟨"SaidShallow$Reader", "readRule", "(I)Z"⟩, 10), (⟨"SaidShallow$Reader", "readOp", "(LSaidShallow$Rule;)Z"⟩, 10), (⟨"SaidShallow$Reader", "standsHere", "(Ljava/lang/String;)Z"⟩, 10)]
theorem lw_r1 : ∀ q ∈ lw_privs_1, lw_okq q := List.forall_mem_cons.mpr ⟨lw_p0, List.forall_mem_cons.mpr ⟨lw_p1, List.forall_mem_cons.mpr ⟨lw_p2, List.forall_mem_cons.mpr ⟨lw_p3, List.forall_mem_cons.mpr ⟨lw_p4, List.forall_mem_cons.mpr ⟨lw_p5, List.forall_mem_cons.mpr ⟨lw_p6, List.forall_mem_cons.mpr ⟨lw_p7, List.forall_mem_cons.mpr ⟨lw_p8, List.forall_mem_cons.mpr ⟨lw_p9, List.forall_mem_cons.mpr ⟨lw_p10, List.forall_mem_cons.mpr ⟨lw_p11, List.forall_mem_cons.mpr ⟨lw_p12, List.forall_mem_cons.mpr ⟨lw_p13, List.forall_mem_cons.mpr ⟨lw_p14, List.forall_mem_cons.mpr ⟨lw_p15, fun _ h => absurd h List.not_mem_nil⟩⟩⟩⟩⟩⟩⟩⟩⟩⟩⟩⟩⟩⟩⟩⟩
theorem lw_p16 : lw_okq (⟨"SaidShallow$Rule", "isAlways", "()Z"⟩, 11) := ⟨⟨by decide +kernel, by decide +kernel⟩, List.mem_of_getElem? (i := 65) (by decide +kernel), List.mem_of_getElem? (i := 733) (by decide +kernel), List.mem_of_getElem? (i := 734) (by decide +kernel)⟩
theorem lw_p17 : lw_okq (⟨"SaidShallow$Reader", "readContext", "(LSaidShallow$Rule;)Z"⟩, 10) := ⟨⟨by decide +kernel, by decide +kernel⟩, List.mem_of_getElem? (i := 407) (by decide +kernel), List.mem_of_getElem? (i := 737) (by decide +kernel), List.mem_of_getElem? (i := 738) (by decide +kernel)⟩
theorem lw_p18 : lw_okq (⟨"SaidShallow$Reader", "readItems", "(LSaidShallow$Side;I)Z"⟩, 10) := ⟨⟨by decide +kernel, by decide +kernel⟩, List.mem_of_getElem? (i := 407) (by decide +kernel), List.mem_of_getElem? (i := 749) (by decide +kernel), List.mem_of_getElem? (i := 750) (by decide +kernel)⟩
theorem lw_p19 : lw_okq (⟨"SaidShallow$Reader", "readX", "()Z"⟩, 10) := ⟨⟨by decide +kernel, by decide +kernel⟩, List.mem_of_getElem? (i := 407) (by decide +kernel), List.mem_of_getElem? (i := 756) (by decide +kernel), List.mem_of_getElem? (i := 757) (by decide +kernel)⟩
theorem lw_p20 : lw_okq (⟨"SaidShallow$Reader", "isNext", "(I)Z"⟩, 10) := ⟨⟨by decide +kernel, by decide +kernel⟩, List.mem_of_getElem? (i := 407) (by decide +kernel), List.mem_of_getElem? (i := 760) (by decide +kernel), List.mem_of_getElem? (i := 761) (by decide +kernel)⟩
theorem lw_p21 : lw_okq (⟨"SaidShallow$Reader", "readPart", "(LSaidShallow$WordList;II)Z"⟩, 10) := ⟨⟨by decide +kernel, by decide +kernel⟩, List.mem_of_getElem? (i := 407) (by decide +kernel), List.mem_of_getElem? (i := 770) (by decide +kernel), List.mem_of_getElem? (i := 771) (by decide +kernel)⟩
theorem lw_p22 : lw_okq (⟨"SaidShallow$Side", "takes", "(III)Z"⟩, 6) := ⟨⟨by decide +kernel, by decide +kernel⟩, List.mem_of_getElem? (i := 71) (by decide +kernel), List.mem_of_getElem? (i := 795) (by decide +kernel), List.mem_of_getElem? (i := 796) (by decide +kernel)⟩
theorem lw_p23 : lw_okq (⟨"SaidShallow$Rule", "roleOf", "(II)I"⟩, 11) := ⟨⟨by decide +kernel, by decide +kernel⟩, List.mem_of_getElem? (i := 65) (by decide +kernel), List.mem_of_getElem? (i := 799) (by decide +kernel), List.mem_of_getElem? (i := 800) (by decide +kernel)⟩
theorem lw_p24 : lw_okq (⟨"SaidShallow", "isSet", "(I)Z"⟩, 19) := ⟨⟨by decide +kernel, by decide +kernel⟩, List.mem_of_getElem? (i := 23) (by decide +kernel), List.mem_of_getElem? (i := 859) (by decide +kernel), List.mem_of_getElem? (i := 860) (by decide +kernel)⟩
theorem lw_p25 : lw_okq (⟨"SaidShallow", "findWords", "(Z)I"⟩, 19) := ⟨⟨by decide +kernel, by decide +kernel⟩, List.mem_of_getElem? (i := 23) (by decide +kernel), List.mem_of_getElem? (i := 871) (by decide +kernel), List.mem_of_getElem? (i := 872) (by decide +kernel)⟩
theorem lw_p26 : lw_okq (⟨"SaidShallow", "takeWord", "()I"⟩, 19) := ⟨⟨by decide +kernel, by decide +kernel⟩, List.mem_of_getElem? (i := 23) (by decide +kernel), List.mem_of_getElem? (i := 875) (by decide +kernel), List.mem_of_getElem? (i := 876) (by decide +kernel)⟩
theorem lw_p27 : lw_okq (⟨"SaidShallow", "areLetters", "(II)Z"⟩, 19) := ⟨⟨by decide +kernel, by decide +kernel⟩, List.mem_of_getElem? (i := 23) (by decide +kernel), List.mem_of_getElem? (i := 879) (by decide +kernel), List.mem_of_getElem? (i := 880) (by decide +kernel)⟩
theorem lw_p28 : lw_okq (⟨"SaidShallow$Rows", "breakable", "(I)I"⟩, 18) := ⟨⟨by decide +kernel, by decide +kernel⟩, List.mem_of_getElem? (i := 31) (by decide +kernel), List.mem_of_getElem? (i := 897) (by decide +kernel), List.mem_of_getElem? (i := 898) (by decide +kernel)⟩
theorem lw_p29 : lw_okq (⟨"SaidShallow$Rows", "hasSign", "(I)Z"⟩, 18) := ⟨⟨by decide +kernel, by decide +kernel⟩, List.mem_of_getElem? (i := 31) (by decide +kernel), List.mem_of_getElem? (i := 901) (by decide +kernel), List.mem_of_getElem? (i := 902) (by decide +kernel)⟩
theorem lw_p30 : lw_okq (⟨"SaidShallow$Rows", "descend", "(IIIII)Z"⟩, 18) := ⟨⟨by decide +kernel, by decide +kernel⟩, List.mem_of_getElem? (i := 31) (by decide +kernel), List.mem_of_getElem? (i := 914) (by decide +kernel), List.mem_of_getElem? (i := 915) (by decide +kernel)⟩
theorem lw_p31 : lw_okq (⟨"SaidShallow$DeadEnds", "slotOfKey", "()I"⟩, 6) := ⟨⟨by decide +kernel, by decide +kernel⟩, List.mem_of_getElem? (i := 274) (by decide +kernel), List.mem_of_getElem? (i := 930) (by decide +kernel), List.mem_of_getElem? (i := 931) (by decide +kernel)⟩
def lw_privs_2 : List (MethodName × Nat) := [(⟨"SaidShallow$Rule", "isAlways", "()Z"⟩, 11), (⟨"SaidShallow$Reader", "readContext", "(LSaidShallow$Rule;)Z"⟩, 10), (⟨"SaidShallow$Reader", "readItems", "(LSaidShallow$Side;I)Z"⟩, 10), (⟨"SaidShallow$Reader", "readX", "()Z"⟩, 10), (⟨"SaidShallow$Reader", "isNext", "(I)Z"⟩, 10), (⟨"SaidShallow$Reader", "readPart", "(LSaidShallow$WordList;II)Z"⟩, 10), (⟨"SaidShallow$Side", "takes", "(III)Z"⟩, 6), (⟨"SaidShallow$Rule", "roleOf", "(II)I"⟩, 11), (⟨"SaidShallow", "isSet", "(I)Z"⟩, 19), (⟨"SaidShallow", "findWords", "(Z)I"⟩, 19), (⟨"SaidShallow", "takeWord", "()I"⟩, 19), (⟨"SaidShallow", "areLetters", "(II)Z"⟩, 19), (⟨"SaidShallow$Rows", "breakable", "(I)I"⟩, 18), (⟨"SaidShallow$Rows", "hasSign", "(I)Z"⟩, 18), (⟨"SaidShallow$Rows", "descend", "(IIIII)Z"⟩, 18), (⟨"SaidShallow$DeadEnds", "slotOfKey", "()I"⟩, 6)]
theorem lw_r2 : ∀ q ∈ lw_privs_2, lw_okq q := List.forall_mem_cons.mpr ⟨lw_p16, List.forall_mem_cons.mpr ⟨lw_p17, List.forall_mem_cons.mpr ⟨lw_p18, List.forall_mem_cons.mpr ⟨lw_p19, List.forall_mem_cons.mpr ⟨lw_p20, List.forall_mem_cons.mpr ⟨lw_p21, List.forall_mem_cons.mpr ⟨lw_p22, List.forall_mem_cons.mpr ⟨lw_p23, List.forall_mem_cons.mpr ⟨lw_p24, List.forall_mem_cons.mpr ⟨lw_p25, List.forall_mem_cons.mpr ⟨lw_p26, List.forall_mem_cons.mpr ⟨lw_p27, List.forall_mem_cons.mpr ⟨lw_p28, List.forall_mem_cons.mpr ⟨lw_p29, List.forall_mem_cons.mpr ⟨lw_p30, List.forall_mem_cons.mpr ⟨lw_p31, fun _ h => absurd h List.not_mem_nil⟩⟩⟩⟩⟩⟩⟩⟩⟩⟩⟩⟩⟩⟩⟩⟩
theorem lw_p32 : lw_okq (⟨"SaidShallow$DeadEnds", "isKeyAt", "(I)Z"⟩, 6) := ⟨⟨by decide +kernel, by decide +kernel⟩, List.mem_of_getElem? (i := 274) (by decide +kernel), List.mem_of_getElem? (i := 935) (by decide +kernel), List.mem_of_getElem? (i := 936) (by decide +kernel)⟩
theorem lw_p33 : lw_okq (⟨"SaidShallow$Rows", "complete", "(II)Z"⟩, 18) := ⟨⟨by decide +kernel, by decide +kernel⟩, List.mem_of_getElem? (i := 31) (by decide +kernel), List.mem_of_getElem? (i := 939) (by decide +kernel), List.mem_of_getElem? (i := 940) (by decide +kernel)⟩
theorem lw_p34 : lw_okq (⟨"SaidShallow$Track", "endsWell", "(I)Z"⟩, 5) := ⟨⟨by decide +kernel, by decide +kernel⟩, List.mem_of_getElem? (i := 252) (by decide +kernel), List.mem_of_getElem? (i := 947) (by decide +kernel), List.mem_of_getElem? (i := 948) (by decide +kernel)⟩
theorem lw_p35 : lw_okq (⟨"SaidShallow$Rows", "isLeft", "(I)Z"⟩, 18) := ⟨⟨by decide +kernel, by decide +kernel⟩, List.mem_of_getElem? (i := 31) (by decide +kernel), List.mem_of_getElem? (i := 952) (by decide +kernel), List.mem_of_getElem? (i := 953) (by decide +kernel)⟩
theorem lw_p36 : lw_okq (⟨"SaidShallow$Rows", "hasWanted", "(I)Z"⟩, 18) := ⟨⟨by decide +kernel, by decide +kernel⟩, List.mem_of_getElem? (i := 31) (by decide +kernel), List.mem_of_getElem? (i := 956) (by decide +kernel), List.mem_of_getElem? (i := 957) (by decide +kernel)⟩
theorem lw_p37 : lw_okq (⟨"SaidShallow$Rows", "choiceOf", "(II)I"⟩, 18) := ⟨⟨by decide +kernel, by decide +kernel⟩, List.mem_of_getElem? (i := 31) (by decide +kernel), List.mem_of_getElem? (i := 965) (by decide +kernel), List.mem_of_getElem? (i := 966) (by decide +kernel)⟩
theorem lw_p38 : lw_okq (⟨"SaidShallow$Track", "advance", "(LSaidShallow$Rule;II)Z"⟩, 5) := ⟨⟨by decide +kernel, by decide +kernel⟩, List.mem_of_getElem? (i := 252) (by decide +kernel), List.mem_of_getElem? (i := 977) (by decide +kernel), List.mem_of_getElem? (i := 978) (by decide +kernel)⟩
theorem lw_p39 : lw_okq (⟨"SaidShallow$Track", "owe", "(LSaidShallow$Rule;II)Z"⟩, 5) := ⟨⟨by decide +kernel, by decide +kernel⟩, List.mem_of_getElem? (i := 252) (by decide +kernel), List.mem_of_getElem? (i := 984) (by decide +kernel), List.mem_of_getElem? (i := 985) (by decide +kernel)⟩
theorem lw_p40 : lw_okq (⟨"SaidShallow", "keepCouple", "(III)V"⟩, 19) := ⟨⟨by decide +kernel, by decide +kernel⟩, List.mem_of_getElem? (i := 23) (by decide +kernel), List.mem_of_getElem? (i := 1020) (by decide +kernel), List.mem_of_getElem? (i := 1021) (by decide +kernel)⟩
theorem lw_p41 : lw_okq (⟨"SaidShallow$Rows", "layRow", "([IIII)Z"⟩, 18) := ⟨⟨by decide +kernel, by decide +kernel⟩, List.mem_of_getElem? (i := 31) (by decide +kernel), List.mem_of_getElem? (i := 1043) (by decide +kernel), List.mem_of_getElem? (i := 1044) (by decide +kernel)⟩
theorem lw_p42 : lw_okq (⟨"SaidShallow$Rows", "breaksOf", "(II)I"⟩, 18) := ⟨⟨by decide +kernel, by decide +kernel⟩, List.mem_of_getElem? (i := 31) (by decide +kernel), List.mem_of_getElem? (i := 1048) (by decide +kernel), List.mem_of_getElem? (i := 1049) (by decide +kernel)⟩
theorem lw_p43 : lw_okq (⟨"SaidShallow", "takeRow", "()I"⟩, 19) := ⟨⟨by decide +kernel, by decide +kernel⟩, List.mem_of_getElem? (i := 23) (by decide +kernel), List.mem_of_getElem? (i := 1071) (by decide +kernel), List.mem_of_getElem? (i := 1072) (by decide +kernel)⟩
theorem lw_p44 : lw_okq (⟨"SaidShallow", "pairOfSigns", "(II)I"⟩, 19) := ⟨⟨by decide +kernel, by decide +kernel⟩, List.mem_of_getElem? (i := 23) (by decide +kernel), List.mem_of_getElem? (i := 1075) (by decide +kernel), List.mem_of_getElem? (i := 1076) (by decide +kernel)⟩
theorem lw_p45 : lw_okq (⟨"SaidShallow", "isRule", "(I)Z"⟩, 19) := ⟨⟨by decide +kernel, by decide +kernel⟩, List.mem_of_getElem? (i := 23) (by decide +kernel), List.mem_of_getElem? (i := 1104) (by decide +kernel), List.mem_of_getElem? (i := 1105) (by decide +kernel)⟩
theorem lw_p46 : lw_okq (⟨"SaidShallow$BestOrder", "fillAfter", "(LSaidShallow$Tongue;I)V"⟩, 11) := ⟨⟨by decide +kernel, by decide +kernel⟩, List.mem_of_getElem? (i := 449) (by decide +kernel), List.mem_of_getElem? (i := 1142) (by decide +kernel), List.mem_of_getElem? (i := 1143) (by decide +kernel)⟩
theorem lw_p47 : lw_okq (⟨"SaidShallow$BestOrder", "fillAgrees", "(LSaidShallow$Rows;LSaidShallow$Standing;)V"⟩, 11) := ⟨⟨by decide +kernel, by decide +kernel⟩, List.mem_of_getElem? (i := 449) (by decide +kernel), List.mem_of_getElem? (i := 1150) (by decide +kernel), List.mem_of_getElem? (i := 1151) (by decide +kernel)⟩
def lw_privs_3 : List (MethodName × Nat) := [(⟨"SaidShallow$DeadEnds", "isKeyAt", "(I)Z"⟩, 6), (⟨"SaidShallow$Rows", "complete", "(II)Z"⟩, 18), (⟨"SaidShallow$Track", "endsWell", "(I)Z"⟩, 5), (⟨"SaidShallow$Rows", "isLeft", "(I)Z"⟩, 18), (⟨"SaidShallow$Rows", "hasWanted", "(I)Z"⟩, 18), (⟨"SaidShallow$Rows", "choiceOf", "(II)I"⟩, 18), (⟨"SaidShallow$Track", "advance", "(LSaidShallow$Rule;II)Z"⟩, 5), (⟨"SaidShallow$Track", "owe", "(LSaidShallow$Rule;II)Z"⟩, 5), (⟨"SaidShallow", "keepCouple", "(III)V"⟩, 19), (⟨"SaidShallow$Rows", "layRow", "([IIII)Z"⟩, 18), (⟨"SaidShallow$Rows", "breaksOf", "(II)I"⟩, 18), (⟨"SaidShallow", "takeRow", "()I"⟩, 19), (⟨"SaidShallow", "pairOfSigns", "(II)I"⟩, 19), (⟨"SaidShallow", "isRule", "(I)Z"⟩, 19), (⟨"SaidShallow$BestOrder", "fillAfter", "(LSaidShallow$Tongue;I)V"⟩, 11), (⟨"SaidShallow$BestOrder", "fillAgrees", "(LSaidShallow$Rows;LSaidShallow$Standing;)V"⟩, 11)]
theorem lw_r3 : ∀ q ∈ lw_privs_3, lw_okq q := List.forall_mem_cons.mpr ⟨lw_p32, List.forall_mem_cons.mpr ⟨lw_p33, List.forall_mem_cons.mpr ⟨lw_p34, List.forall_mem_cons.mpr ⟨lw_p35, List.forall_mem_cons.mpr ⟨lw_p36, List.forall_mem_cons.mpr ⟨lw_p37, List.forall_mem_cons.mpr ⟨lw_p38, List.forall_mem_cons.mpr ⟨lw_p39, List.forall_mem_cons.mpr ⟨lw_p40, List.forall_mem_cons.mpr ⟨lw_p41, List.forall_mem_cons.mpr ⟨lw_p42, List.forall_mem_cons.mpr ⟨lw_p43, List.forall_mem_cons.mpr ⟨lw_p44, List.forall_mem_cons.mpr ⟨lw_p45, List.forall_mem_cons.mpr ⟨lw_p46, List.forall_mem_cons.mpr ⟨lw_p47, fun _ h => absurd h List.not_mem_nil⟩⟩⟩⟩⟩⟩⟩⟩⟩⟩⟩⟩⟩⟩⟩⟩
theorem lw_p48 : lw_okq (⟨"SaidShallow$BestOrder", "noteSaid", "(LSaidShallow$Rows;I)V"⟩, 11) := ⟨⟨by decide +kernel, by decide +kernel⟩, List.mem_of_getElem? (i := 449) (by decide +kernel), List.mem_of_getElem? (i := 1157) (by decide +kernel), List.mem_of_getElem? (i := 1158) (by decide +kernel)⟩
theorem lw_p49 : lw_okq (⟨"SaidShallow$BestOrder", "tryOrders", "(II)V"⟩, 11) := ⟨⟨by decide +kernel, by decide +kernel⟩, List.mem_of_getElem? (i := 449) (by decide +kernel), List.mem_of_getElem? (i := 1162) (by decide +kernel), List.mem_of_getElem? (i := 1163) (by decide +kernel)⟩
theorem lw_p50 : lw_okq (⟨"SaidShallow$BestOrder", "judge", "(I)V"⟩, 11) := ⟨⟨by decide +kernel, by decide +kernel⟩, List.mem_of_getElem? (i := 449) (by decide +kernel), List.mem_of_getElem? (i := 1166) (by decide +kernel), List.mem_of_getElem? (i := 1167) (by decide +kernel)⟩
theorem lw_p51 : lw_okq (⟨"SaidShallow$Side", "moveCouples", "(JILSaidShallow$Side;IIZ)J"⟩, 6) := ⟨⟨by decide +kernel, by decide +kernel⟩, List.mem_of_getElem? (i := 71) (by decide +kernel), List.mem_of_getElem? (i := 1194) (by decide +kernel), List.mem_of_getElem? (i := 1195) (by decide +kernel)⟩
theorem lw_p52 : lw_okq (⟨"SaidShallow$Side", "moveAlone", "(IIIZ)I"⟩, 6) := ⟨⟨by decide +kernel, by decide +kernel⟩, List.mem_of_getElem? (i := 71) (by decide +kernel), List.mem_of_getElem? (i := 1198) (by decide +kernel), List.mem_of_getElem? (i := 1199) (by decide +kernel)⟩
theorem lw_p53 : lw_okq (⟨"SaidShallow", "firstParted", "(III)I"⟩, 19) := ⟨⟨by decide +kernel, by decide +kernel⟩, List.mem_of_getElem? (i := 23) (by decide +kernel), List.mem_of_getElem? (i := 1208) (by decide +kernel), List.mem_of_getElem? (i := 1209) (by decide +kernel)⟩
theorem lw_p54 : lw_okq (⟨"SaidShallow$Rows", "shortCode", "(I)I"⟩, 18) := ⟨⟨by decide +kernel, by decide +kernel⟩, List.mem_of_getElem? (i := 31) (by decide +kernel), List.mem_of_getElem? (i := 1216) (by decide +kernel), List.mem_of_getElem? (i := 1217) (by decide +kernel)⟩
theorem lw_p55 : lw_okq (⟨"SaidShallow$Rows", "clearMarks", "()V"⟩, 18) := ⟨⟨by decide +kernel, by decide +kernel⟩, List.mem_of_getElem? (i := 31) (by decide +kernel), List.mem_of_getElem? (i := 1221) (by decide +kernel), List.mem_of_getElem? (i := 1222) (by decide +kernel)⟩
theorem lw_p56 : lw_okq (⟨"SaidShallow$Rows", "meetsNeeds", "(I)Z"⟩, 18) := ⟨⟨by decide +kernel, by decide +kernel⟩, List.mem_of_getElem? (i := 31) (by decide +kernel), List.mem_of_getElem? (i := 1247) (by decide +kernel), List.mem_of_getElem? (i := 1248) (by decide +kernel)⟩
theorem lw_p57 : lw_okq (⟨"SaidShallow", "placeOfColon", "(I)I"⟩, 19) := ⟨⟨by decide +kernel, by decide +kernel⟩, List.mem_of_getElem? (i := 23) (by decide +kernel), List.mem_of_getElem? (i := 1255) (by decide +kernel), List.mem_of_getElem? (i := 1256) (by decide +kernel)⟩
theorem lw_p58 : lw_okq (⟨"SaidShallow", "lookFurther", "(I)I"⟩, 19) := ⟨⟨by decide +kernel, by decide +kernel⟩, List.mem_of_getElem? (i := 23) (by decide +kernel), List.mem_of_getElem? (i := 1313) (by decide +kernel), List.mem_of_getElem? (i := 1314) (by decide +kernel)⟩
theorem lw_p59 : lw_okq (⟨"SaidShallowModel", "sign", "()I"⟩, 56) := ⟨⟨by decide +kernel, by decide +kernel⟩, List.mem_of_getElem? (i := 1318) (by decide +kernel), List.mem_of_getElem? (i := 1512) (by decide +kernel), List.mem_of_getElem? (i := 1513) (by decide +kernel)⟩
theorem lw_p60 : lw_okq (⟨"SaidShallowModel", "blanks", "()V"⟩, 56) := ⟨⟨by decide +kernel, by decide +kernel⟩, List.mem_of_getElem? (i := 1318) (by decide +kernel), List.mem_of_getElem? (i := 1516) (by decide +kernel), List.mem_of_getElem? (i := 1517) (by decide +kernel)⟩
theorem lw_p61 : lw_okq (⟨"SaidShallowModel", "see", "(I)I"⟩, 56) := ⟨⟨by decide +kernel, by decide +kernel⟩, List.mem_of_getElem? (i := 1318) (by decide +kernel), List.mem_of_getElem? (i := 1520) (by decide +kernel), List.mem_of_getElem? (i := 1521) (by decide +kernel)⟩
theorem lw_p62 : lw_okq (⟨"SaidShallowModel", "statement", "()Z"⟩, 56) := ⟨⟨by decide +kernel, by decide +kernel⟩, List.mem_of_getElem? (i := 1318) (by decide +kernel), List.mem_of_getElem? (i := 1524) (by decide +kernel), List.mem_of_getElem? (i := 1525) (by decide +kernel)⟩
theorem lw_p63 : lw_okq (⟨"SaidShallowModel", "is", "(IILjava/lang/String;)Z"⟩, 56) := ⟨⟨by decide +kernel, by decide +kernel⟩, List.mem_of_getElem? (i := 1318) (by decide +kernel), List.mem_of_getElem? (i := 1532) (by decide +kernel), List.mem_of_getElem? (i := 1533) (by decide +kernel)⟩
def lw_privs_4 : List (MethodName × Nat) := [(⟨"SaidShallow$BestOrder", "noteSaid", "(LSaidShallow$Rows;I)V"⟩, 11), (⟨"SaidShallow$BestOrder", "tryOrders", "(II)V"⟩, 11), (⟨"SaidShallow$BestOrder", "judge", "(I)V"⟩, 11), (⟨"SaidShallow$Side", "moveCouples", "(JILSaidShallow$Side;IIZ)J"⟩, 6), (⟨"SaidShallow$Side", "moveAlone", "(IIIZ)I"⟩, 6), (⟨"SaidShallow", "firstParted", "(III)I"⟩, 19), (⟨"SaidShallow$Rows", "shortCode", "(I)I"⟩, 18), (⟨"SaidShallow$Rows", "clearMarks", "()V"⟩, 18), (⟨"SaidShallow$Rows", "meetsNeeds", "(I)Z"⟩, 18), (⟨"SaidShallow", "placeOfColon", "(I)I"⟩, 19), (⟨"SaidShallow", "lookFurther", "(I)I"⟩, 19), (⟨"SaidShallowModel", "sign", "()I"⟩, 56), (⟨"SaidShallowModel", "blanks", "()V"⟩, 56), (⟨"SaidShallowModel", "see", "(I)I"⟩, 56), (⟨"SaidShallowModel", "statement", "()Z"⟩, 56), (⟨"SaidShallowModel", "is", "(IILjava/lang/String;)Z"⟩, 56)]
theorem lw_r4 : ∀ q ∈ lw_privs_4, lw_okq q := List.forall_mem_cons.mpr ⟨lw_p48, List.forall_mem_cons.mpr ⟨lw_p49, List.forall_mem_cons.mpr ⟨lw_p50, List.forall_mem_cons.mpr ⟨lw_p51, List.forall_mem_cons.mpr ⟨lw_p52, List.forall_mem_cons.mpr ⟨lw_p53, List.forall_mem_cons.mpr ⟨lw_p54, List.forall_mem_cons.mpr ⟨lw_p55, List.forall_mem_cons.mpr ⟨lw_p56, List.forall_mem_cons.mpr ⟨lw_p57, List.forall_mem_cons.mpr ⟨lw_p58, List.forall_mem_cons.mpr ⟨lw_p59, List.forall_mem_cons.mpr ⟨lw_p60, List.forall_mem_cons.mpr ⟨lw_p61, List.forall_mem_cons.mpr ⟨lw_p62, List.forall_mem_cons.mpr ⟨lw_p63, fun _ h => absurd h List.not_mem_nil⟩⟩⟩⟩⟩⟩⟩⟩⟩⟩⟩⟩⟩⟩⟩⟩
theorem lw_p64 : lw_okq (⟨"SaidShallowModel", "letters", "()Z"⟩, 56) := ⟨⟨by decide +kernel, by decide +kernel⟩, List.mem_of_getElem? (i := 1318) (by decide +kernel), List.mem_of_getElem? (i := 1538) (by decide +kernel), List.mem_of_getElem? (i := 1539) (by decide +kernel)⟩
theorem lw_p65 : lw_okq (⟨"SaidShallowModel", "bad", "(II)Z"⟩, 56) := ⟨⟨by decide +kernel, by decide +kernel⟩, List.mem_of_getElem? (i := 1318) (by decide +kernel), List.mem_of_getElem? (i := 1542) (by decide +kernel), List.mem_of_getElem? (i := 1543) (by decide +kernel)⟩
theorem lw_p66 : lw_okq (⟨"SaidShallowModel", "classOf", "()Z"⟩, 56) := ⟨⟨by decide +kernel, by decide +kernel⟩, List.mem_of_getElem? (i := 1318) (by decide +kernel), List.mem_of_getElem? (i := 1550) (by decide +kernel), List.mem_of_getElem? (i := 1551) (by decide +kernel)⟩
theorem lw_p67 : lw_okq (⟨"SaidShallowModel", "takesPair", "()Z"⟩, 56) := ⟨⟨by decide +kernel, by decide +kernel⟩, List.mem_of_getElem? (i := 1318) (by decide +kernel), List.mem_of_getElem? (i := 1555) (by decide +kernel), List.mem_of_getElem? (i := 1556) (by decide +kernel)⟩
theorem lw_p68 : lw_okq (⟨"SaidShallowModel", "takesS", "()Z"⟩, 56) := ⟨⟨by decide +kernel, by decide +kernel⟩, List.mem_of_getElem? (i := 1318) (by decide +kernel), List.mem_of_getElem? (i := 1559) (by decide +kernel), List.mem_of_getElem? (i := 1560) (by decide +kernel)⟩
theorem lw_p69 : lw_okq (⟨"SaidShallowModel", "takes", "(I)Z"⟩, 56) := ⟨⟨by decide +kernel, by decide +kernel⟩, List.mem_of_getElem? (i := 1318) (by decide +kernel), List.mem_of_getElem? (i := 1563) (by decide +kernel), List.mem_of_getElem? (i := 1564) (by decide +kernel)⟩
theorem lw_p70 : lw_okq (⟨"SaidShallowModel", "ruled", "()Z"⟩, 56) := ⟨⟨by decide +kernel, by decide +kernel⟩, List.mem_of_getElem? (i := 1318) (by decide +kernel), List.mem_of_getElem? (i := 1571) (by decide +kernel), List.mem_of_getElem? (i := 1572) (by decide +kernel)⟩
theorem lw_p71 : lw_okq (⟨"SaidShallowModel", "op", "()I"⟩, 56) := ⟨⟨by decide +kernel, by decide +kernel⟩, List.mem_of_getElem? (i := 1318) (by decide +kernel), List.mem_of_getElem? (i := 1575) (by decide +kernel), List.mem_of_getElem? (i := 1576) (by decide +kernel)⟩
theorem lw_p72 : lw_okq (⟨"SaidShallowModel", "context", "(I)Z"⟩, 56) := ⟨⟨by decide +kernel, by decide +kernel⟩, List.mem_of_getElem? (i := 1318) (by decide +kernel), List.mem_of_getElem? (i := 1579) (by decide +kernel), List.mem_of_getElem? (i := 1580) (by decide +kernel)⟩
theorem lw_p73 : lw_okq (⟨"SaidShallowModel", "side", "(II)Z"⟩, 56) := ⟨⟨by decide +kernel, by decide +kernel⟩, List.mem_of_getElem? (i := 1318) (by decide +kernel), List.mem_of_getElem? (i := 1583) (by decide +kernel), List.mem_of_getElem? (i := 1584) (by decide +kernel)⟩
theorem lw_p74 : lw_okq (⟨"SaidShallowModel", "takesX", "()Z"⟩, 56) := ⟨⟨by decide +kernel, by decide +kernel⟩, List.mem_of_getElem? (i := 1318) (by decide +kernel), List.mem_of_getElem? (i := 1590) (by decide +kernel), List.mem_of_getElem? (i := 1591) (by decide +kernel)⟩
theorem lw_p75 : lw_okq (⟨"SaidShallowModel", "item", "(I)Z"⟩, 56) := ⟨⟨by decide +kernel, by decide +kernel⟩, List.mem_of_getElem? (i := 1318) (by decide +kernel), List.mem_of_getElem? (i := 1594) (by decide +kernel), List.mem_of_getElem? (i := 1595) (by decide +kernel)⟩
theorem lw_p76 : lw_okq (⟨"SaidShallowModel", "word", "(IZ)Z"⟩, 56) := ⟨⟨by decide +kernel, by decide +kernel⟩, List.mem_of_getElem? (i := 1318) (by decide +kernel), List.mem_of_getElem? (i := 1599) (by decide +kernel), List.mem_of_getElem? (i := 1600) (by decide +kernel)⟩
theorem lw_p77 : lw_okq (⟨"SaidShallowModel", "allRules", "()I"⟩, 56) := ⟨⟨by decide +kernel, by decide +kernel⟩, List.mem_of_getElem? (i := 1318) (by decide +kernel), List.mem_of_getElem? (i := 1612) (by decide +kernel), List.mem_of_getElem? (i := 1613) (by decide +kernel)⟩
theorem lw_p78 : lw_okq (⟨"SaidShallowModel", "words", "(I)I"⟩, 56) := ⟨⟨by decide +kernel, by decide +kernel⟩, List.mem_of_getElem? (i := 1318) (by decide +kernel), List.mem_of_getElem? (i := 1628) (by decide +kernel), List.mem_of_getElem? (i := 1629) (by decide +kernel)⟩
theorem lw_p79 : lw_okq (⟨"SaidShallowModel", "takesWord", "(II)Z"⟩, 56) := ⟨⟨by decide +kernel, by decide +kernel⟩, List.mem_of_getElem? (i := 1318) (by decide +kernel), List.mem_of_getElem? (i := 1632) (by decide +kernel), List.mem_of_getElem? (i := 1633) (by decide +kernel)⟩
def lw_privs_5 : List (MethodName × Nat) := [(⟨"SaidShallowModel", "letters", "()Z"⟩, 56), (⟨"SaidShallowModel", "bad", "(II)Z"⟩, 56), (⟨"SaidShallowModel", "classOf", "()Z"⟩, 56), (⟨"SaidShallowModel", "takesPair", "()Z"⟩, 56), (⟨"SaidShallowModel", "takesS", "()Z"⟩, 56), (⟨"SaidShallowModel", "takes", "(I)Z"⟩, 56), (⟨"SaidShallowModel", "ruled", "()Z"⟩, 56), (⟨"SaidShallowModel", "op", "()I"⟩, 56), (⟨"SaidShallowModel", "context", "(I)Z"⟩, 56), (⟨"SaidShallowModel", "side", "(II)Z"⟩, 56), (⟨"SaidShallowModel", "takesX", "()Z"⟩, 56), (⟨"SaidShallowModel", "item", "(I)Z"⟩, 56), (⟨"SaidShallowModel", "word", "(IZ)Z"⟩, 56), (⟨"SaidShallowModel", "allRules", "()I"⟩, 56), (⟨"SaidShallowModel", "words", "(I)I"⟩, 56), (⟨"SaidShallowModel", "takesWord", "(II)Z"⟩, 56)]
theorem lw_r5 : ∀ q ∈ lw_privs_5, lw_okq q := List.forall_mem_cons.mpr ⟨lw_p64, List.forall_mem_cons.mpr ⟨lw_p65, List.forall_mem_cons.mpr ⟨lw_p66, List.forall_mem_cons.mpr ⟨lw_p67, List.forall_mem_cons.mpr ⟨lw_p68, List.forall_mem_cons.mpr ⟨lw_p69, List.forall_mem_cons.mpr ⟨lw_p70, List.forall_mem_cons.mpr ⟨lw_p71, List.forall_mem_cons.mpr ⟨lw_p72, List.forall_mem_cons.mpr ⟨lw_p73, List.forall_mem_cons.mpr ⟨lw_p74, List.forall_mem_cons.mpr ⟨lw_p75, List.forall_mem_cons.mpr ⟨lw_p76, List.forall_mem_cons.mpr ⟨lw_p77, List.forall_mem_cons.mpr ⟨lw_p78, List.forall_mem_cons.mpr ⟨lw_p79, fun _ h => absurd h List.not_mem_nil⟩⟩⟩⟩⟩⟩⟩⟩⟩⟩⟩⟩⟩⟩⟩⟩
theorem lw_p80 : lw_okq (⟨"SaidShallowModel", "sets", "(I)V"⟩, 56) := ⟨⟨by decide +kernel, by decide +kernel⟩, List.mem_of_getElem? (i := 1318) (by decide +kernel), List.mem_of_getElem? (i := 1636) (by decide +kernel), List.mem_of_getElem? (i := 1637) (by decide +kernel)⟩
theorem lw_p81 : lw_okq (⟨"SaidShallowModel", "begins", "()V"⟩, 56) := ⟨⟨by decide +kernel, by decide +kernel⟩, List.mem_of_getElem? (i := 1318) (by decide +kernel), List.mem_of_getElem? (i := 1640) (by decide +kernel), List.mem_of_getElem? (i := 1641) (by decide +kernel)⟩
theorem lw_p82 : lw_okq (⟨"SaidShallowModel", "closed", "(III)I"⟩, 56) := ⟨⟨by decide +kernel, by decide +kernel⟩, List.mem_of_getElem? (i := 1318) (by decide +kernel), List.mem_of_getElem? (i := 1644) (by decide +kernel), List.mem_of_getElem? (i := 1645) (by decide +kernel)⟩
theorem lw_p83 : lw_okq (⟨"SaidShallowModel", "itemsOf", "(II)I"⟩, 56) := ⟨⟨by decide +kernel, by decide +kernel⟩, List.mem_of_getElem? (i := 1318) (by decide +kernel), List.mem_of_getElem? (i := 1648) (by decide +kernel), List.mem_of_getElem? (i := 1649) (by decide +kernel)⟩
theorem lw_p84 : lw_okq (⟨"SaidShallowModel", "goes", "(IIIII)V"⟩, 56) := ⟨⟨by decide +kernel, by decide +kernel⟩, List.mem_of_getElem? (i := 1318) (by decide +kernel), List.mem_of_getElem? (i := 1652) (by decide +kernel), List.mem_of_getElem? (i := 1653) (by decide +kernel)⟩
theorem lw_p85 : lw_okq (⟨"SaidShallowModel", "closes", "(II)Z"⟩, 56) := ⟨⟨by decide +kernel, by decide +kernel⟩, List.mem_of_getElem? (i := 1318) (by decide +kernel), List.mem_of_getElem? (i := 1656) (by decide +kernel), List.mem_of_getElem? (i := 1657) (by decide +kernel)⟩
theorem lw_p86 : lw_okq (⟨"SaidShallowModel", "ofRule", "(II)I"⟩, 56) := ⟨⟨by decide +kernel, by decide +kernel⟩, List.mem_of_getElem? (i := 1318) (by decide +kernel), List.mem_of_getElem? (i := 1660) (by decide +kernel), List.mem_of_getElem? (i := 1661) (by decide +kernel)⟩
theorem lw_p87 : lw_okq (⟨"SaidShallowModel", "isDone", "(III)Z"⟩, 56) := ⟨⟨by decide +kernel, by decide +kernel⟩, List.mem_of_getElem? (i := 1318) (by decide +kernel), List.mem_of_getElem? (i := 1664) (by decide +kernel), List.mem_of_getElem? (i := 1665) (by decide +kernel)⟩
theorem lw_p88 : lw_okq (⟨"SaidShallowModel", "completes", "(II)V"⟩, 56) := ⟨⟨by decide +kernel, by decide +kernel⟩, List.mem_of_getElem? (i := 1318) (by decide +kernel), List.mem_of_getElem? (i := 1668) (by decide +kernel), List.mem_of_getElem? (i := 1669) (by decide +kernel)⟩
theorem lw_p89 : lw_okq (⟨"SaidShallowModel", "finds", "(I)V"⟩, 56) := ⟨⟨by decide +kernel, by decide +kernel⟩, List.mem_of_getElem? (i := 1318) (by decide +kernel), List.mem_of_getElem? (i := 1672) (by decide +kernel), List.mem_of_getElem? (i := 1673) (by decide +kernel)⟩
theorem lw_p90 : lw_okq (⟨"SaidShallowModel", "padded", "(I)J"⟩, 56) := ⟨⟨by decide +kernel, by decide +kernel⟩, List.mem_of_getElem? (i := 1318) (by decide +kernel), List.mem_of_getElem? (i := 1676) (by decide +kernel), List.mem_of_getElem? (i := 1677) (by decide +kernel)⟩
theorem lw_p91 : lw_okq (⟨"SaidShallowModel", "marks", "(I)V"⟩, 56) := ⟨⟨by decide +kernel, by decide +kernel⟩, List.mem_of_getElem? (i := 1318) (by decide +kernel), List.mem_of_getElem? (i := 1681) (by decide +kernel), List.mem_of_getElem? (i := 1682) (by decide +kernel)⟩
theorem lw_p92 : lw_okq (⟨"SaidShallowModel", "numberOf", "(I)I"⟩, 56) := ⟨⟨by decide +kernel, by decide +kernel⟩, List.mem_of_getElem? (i := 1318) (by decide +kernel), List.mem_of_getElem? (i := 1685) (by decide +kernel), List.mem_of_getElem? (i := 1686) (by decide +kernel)⟩
theorem lw_p93 : lw_okq (⟨"SaidShallowModel", "breaks", "(II)V"⟩, 56) := ⟨⟨by decide +kernel, by decide +kernel⟩, List.mem_of_getElem? (i := 1318) (by decide +kernel), List.mem_of_getElem? (i := 1689) (by decide +kernel), List.mem_of_getElem? (i := 1690) (by decide +kernel)⟩
theorem lw_p94 : lw_okq (⟨"SaidShallowModel", "isBroken", "(II[II)Z"⟩, 56) := ⟨⟨by decide +kernel, by decide +kernel⟩, List.mem_of_getElem? (i := 1318) (by decide +kernel), List.mem_of_getElem? (i := 1693) (by decide +kernel), List.mem_of_getElem? (i := 1694) (by decide +kernel)⟩
theorem lw_p95 : lw_okq (⟨"SaidShallowModel", "someHolds", "(II[II)Z"⟩, 56) := ⟨⟨by decide +kernel, by decide +kernel⟩, List.mem_of_getElem? (i := 1318) (by decide +kernel), List.mem_of_getElem? (i := 1697) (by decide +kernel), List.mem_of_getElem? (i := 1698) (by decide +kernel)⟩
def lw_privs_6 : List (MethodName × Nat) := [(⟨"SaidShallowModel", "sets", "(I)V"⟩, 56), (⟨"SaidShallowModel", "begins", "()V"⟩, 56), (⟨"SaidShallowModel", "closed", "(III)I"⟩, 56), (⟨"SaidShallowModel", "itemsOf", "(II)I"⟩, 56), (⟨"SaidShallowModel", "goes", "(IIIII)V"⟩, 56), (⟨"SaidShallowModel", "closes", "(II)Z"⟩, 56), (⟨"SaidShallowModel", "ofRule", "(II)I"⟩, 56), (⟨"SaidShallowModel", "isDone", "(III)Z"⟩, 56), (⟨"SaidShallowModel", "completes", "(II)V"⟩, 56), (⟨"SaidShallowModel", "finds", "(I)V"⟩, 56), (⟨"SaidShallowModel", "padded", "(I)J"⟩, 56), (⟨"SaidShallowModel", "marks", "(I)V"⟩, 56), (⟨"SaidShallowModel", "numberOf", "(I)I"⟩, 56), (⟨"SaidShallowModel", "breaks", "(II)V"⟩, 56), (⟨"SaidShallowModel", "isBroken", "(II[II)Z"⟩, 56), (⟨"SaidShallowModel", "someHolds", "(II[II)Z"⟩, 56)]
theorem lw_r6 : ∀ q ∈ lw_privs_6, lw_okq q := List.forall_mem_cons.mpr ⟨lw_p80, List.forall_mem_cons.mpr ⟨lw_p81, List.forall_mem_cons.mpr ⟨lw_p82, List.forall_mem_cons.mpr ⟨lw_p83, List.forall_mem_cons.mpr ⟨lw_p84, List.forall_mem_cons.mpr ⟨lw_p85, List.forall_mem_cons.mpr ⟨lw_p86, List.forall_mem_cons.mpr ⟨lw_p87, List.forall_mem_cons.mpr ⟨lw_p88, List.forall_mem_cons.mpr ⟨lw_p89, List.forall_mem_cons.mpr ⟨lw_p90, List.forall_mem_cons.mpr ⟨lw_p91, List.forall_mem_cons.mpr ⟨lw_p92, List.forall_mem_cons.mpr ⟨lw_p93, List.forall_mem_cons.mpr ⟨lw_p94, List.forall_mem_cons.mpr ⟨lw_p95, fun _ h => absurd h List.not_mem_nil⟩⟩⟩⟩⟩⟩⟩⟩⟩⟩⟩⟩⟩⟩⟩⟩
theorem lw_p96 : lw_okq (⟨"SaidShallowModel", "holds", "(II[II)Z"⟩, 56) := ⟨⟨by decide +kernel, by decide +kernel⟩, List.mem_of_getElem? (i := 1318) (by decide +kernel), List.mem_of_getElem? (i := 1701) (by decide +kernel), List.mem_of_getElem? (i := 1702) (by decide +kernel)⟩
theorem lw_p97 : lw_okq (⟨"SaidShallowModel", "goesOn", "(IIII)I"⟩, 56) := ⟨⟨by decide +kernel, by decide +kernel⟩, List.mem_of_getElem? (i := 1318) (by decide +kernel), List.mem_of_getElem? (i := 1705) (by decide +kernel), List.mem_of_getElem? (i := 1706) (by decide +kernel)⟩
theorem lw_p98 : lw_okq (⟨"SaidShallowModel", "isAnchored", "(II)Z"⟩, 56) := ⟨⟨by decide +kernel, by decide +kernel⟩, List.mem_of_getElem? (i := 1318) (by decide +kernel), List.mem_of_getElem? (i := 1709) (by decide +kernel), List.mem_of_getElem? (i := 1710) (by decide +kernel)⟩
theorem lw_p99 : lw_okq (⟨"SaidShallowModel", "reads", "(III)Z"⟩, 56) := ⟨⟨by decide +kernel, by decide +kernel⟩, List.mem_of_getElem? (i := 1318) (by decide +kernel), List.mem_of_getElem? (i := 1713) (by decide +kernel), List.mem_of_getElem? (i := 1714) (by decide +kernel)⟩
theorem lw_p100 : lw_okq (⟨"SaidShallowModel", "isMet", "(II)Z"⟩, 56) := ⟨⟨by decide +kernel, by decide +kernel⟩, List.mem_of_getElem? (i := 1318) (by decide +kernel), List.mem_of_getElem? (i := 1717) (by decide +kernel), List.mem_of_getElem? (i := 1718) (by decide +kernel)⟩
theorem lw_p101 : lw_okq (⟨"SaidShallowModel", "needsGoOn", "(II)Z"⟩, 56) := ⟨⟨by decide +kernel, by decide +kernel⟩, List.mem_of_getElem? (i := 1318) (by decide +kernel), List.mem_of_getElem? (i := 1721) (by decide +kernel), List.mem_of_getElem? (i := 1722) (by decide +kernel)⟩
theorem lw_p102 : lw_okq (⟨"SaidShallowModel", "asks", "(III)Z"⟩, 56) := ⟨⟨by decide +kernel, by decide +kernel⟩, List.mem_of_getElem? (i := 1318) (by decide +kernel), List.mem_of_getElem? (i := 1725) (by decide +kernel), List.mem_of_getElem? (i := 1726) (by decide +kernel)⟩
theorem lw_p103 : lw_okq (⟨"SaidShallowModel", "isSaid", "(I)Z"⟩, 56) := ⟨⟨by decide +kernel, by decide +kernel⟩, List.mem_of_getElem? (i := 1318) (by decide +kernel), List.mem_of_getElem? (i := 1741) (by decide +kernel), List.mem_of_getElem? (i := 1742) (by decide +kernel)⟩
theorem lw_p104 : lw_okq (⟨"SaidShallowModel", "aligns", "(IIIII)Z"⟩, 56) := ⟨⟨by decide +kernel, by decide +kernel⟩, List.mem_of_getElem? (i := 1318) (by decide +kernel), List.mem_of_getElem? (i := 1745) (by decide +kernel), List.mem_of_getElem? (i := 1746) (by decide +kernel)⟩
theorem lw_p105 : lw_okq (⟨"SaidShallowModel", "takesRow", "()I"⟩, 56) := ⟨⟨by decide +kernel, by decide +kernel⟩, List.mem_of_getElem? (i := 1318) (by decide +kernel), List.mem_of_getElem? (i := 1757) (by decide +kernel), List.mem_of_getElem? (i := 1758) (by decide +kernel)⟩
theorem lw_p106 : lw_okq (⟨"SaidShallowModel", "age", "(I)V"⟩, 56) := ⟨⟨by decide +kernel, by decide +kernel⟩, List.mem_of_getElem? (i := 1318) (by decide +kernel), List.mem_of_getElem? (i := 1769) (by decide +kernel), List.mem_of_getElem? (i := 1770) (by decide +kernel)⟩
theorem lw_p107 : lw_okq (⟨"SaidShallowModel", "isRule", "(I)Z"⟩, 56) := ⟨⟨by decide +kernel, by decide +kernel⟩, List.mem_of_getElem? (i := 1318) (by decide +kernel), List.mem_of_getElem? (i := 1781) (by decide +kernel), List.mem_of_getElem? (i := 1782) (by decide +kernel)⟩
theorem lw_p108 : lw_okq (⟨"SaidShallowModel", "canQuarrel", "(II)Z"⟩, 56) := ⟨⟨by decide +kernel, by decide +kernel⟩, List.mem_of_getElem? (i := 1318) (by decide +kernel), List.mem_of_getElem? (i := 1785) (by decide +kernel), List.mem_of_getElem? (i := 1786) (by decide +kernel)⟩
theorem lw_p109 : lw_okq (⟨"SaidShallowModel", "never", "(I)Z"⟩, 56) := ⟨⟨by decide +kernel, by decide +kernel⟩, List.mem_of_getElem? (i := 1318) (by decide +kernel), List.mem_of_getElem? (i := 1789) (by decide +kernel), List.mem_of_getElem? (i := 1790) (by decide +kernel)⟩
theorem lw_p110 : lw_okq (⟨"SaidShallowModel", "fewestPairs", "(III)I"⟩, 56) := ⟨⟨by decide +kernel, by decide +kernel⟩, List.mem_of_getElem? (i := 1318) (by decide +kernel), List.mem_of_getElem? (i := 1793) (by decide +kernel), List.mem_of_getElem? (i := 1794) (by decide +kernel)⟩
theorem lw_p111 : lw_okq (⟨"SaidShallowModel", "sideGoes", "(IIII)I"⟩, 56) := ⟨⟨by decide +kernel, by decide +kernel⟩, List.mem_of_getElem? (i := 1318) (by decide +kernel), List.mem_of_getElem? (i := 1797) (by decide +kernel), List.mem_of_getElem? (i := 1798) (by decide +kernel)⟩
def lw_privs_7 : List (MethodName × Nat) := [(⟨"SaidShallowModel", "holds", "(II[II)Z"⟩, 56), (⟨"SaidShallowModel", "goesOn", "(IIII)I"⟩, 56), (⟨"SaidShallowModel", "isAnchored", "(II)Z"⟩, 56), (⟨"SaidShallowModel", "reads", "(III)Z"⟩, 56), (⟨"SaidShallowModel", "isMet", "(II)Z"⟩, 56), (⟨"SaidShallowModel", "needsGoOn", "(II)Z"⟩, 56), (⟨"SaidShallowModel", "asks", "(III)Z"⟩, 56), (⟨"SaidShallowModel", "isSaid", "(I)Z"⟩, 56), (⟨"SaidShallowModel", "aligns", "(IIIII)Z"⟩, 56), (⟨"SaidShallowModel", "takesRow", "()I"⟩, 56), (⟨"SaidShallowModel", "age", "(I)V"⟩, 56), (⟨"SaidShallowModel", "isRule", "(I)Z"⟩, 56), (⟨"SaidShallowModel", "canQuarrel", "(II)Z"⟩, 56), (⟨"SaidShallowModel", "never", "(I)Z"⟩, 56), (⟨"SaidShallowModel", "fewestPairs", "(III)I"⟩, 56), (⟨"SaidShallowModel", "sideGoes", "(IIII)I"⟩, 56)]
theorem lw_r7 : ∀ q ∈ lw_privs_7, lw_okq q := List.forall_mem_cons.mpr ⟨lw_p96, List.forall_mem_cons.mpr ⟨lw_p97, List.forall_mem_cons.mpr ⟨lw_p98, List.forall_mem_cons.mpr ⟨lw_p99, List.forall_mem_cons.mpr ⟨lw_p100, List.forall_mem_cons.mpr ⟨lw_p101, List.forall_mem_cons.mpr ⟨lw_p102, List.forall_mem_cons.mpr ⟨lw_p103, List.forall_mem_cons.mpr ⟨lw_p104, List.forall_mem_cons.mpr ⟨lw_p105, List.forall_mem_cons.mpr ⟨lw_p106, List.forall_mem_cons.mpr ⟨lw_p107, List.forall_mem_cons.mpr ⟨lw_p108, List.forall_mem_cons.mpr ⟨lw_p109, List.forall_mem_cons.mpr ⟨lw_p110, List.forall_mem_cons.mpr ⟨lw_p111, fun _ h => absurd h List.not_mem_nil⟩⟩⟩⟩⟩⟩⟩⟩⟩⟩⟩⟩⟩⟩⟩⟩
theorem lw_p112 : lw_okq (⟨"SaidShallowModel", "partsOf", "(III)I"⟩, 56) := ⟨⟨by decide +kernel, by decide +kernel⟩, List.mem_of_getElem? (i := 1318) (by decide +kernel), List.mem_of_getElem? (i := 1805) (by decide +kernel), List.mem_of_getElem? (i := 1806) (by decide +kernel)⟩
theorem lw_p113 : lw_okq (⟨"SaidShallowModel", "wordsUpTo", "(I)I"⟩, 56) := ⟨⟨by decide +kernel, by decide +kernel⟩, List.mem_of_getElem? (i := 1318) (by decide +kernel), List.mem_of_getElem? (i := 1809) (by decide +kernel), List.mem_of_getElem? (i := 1810) (by decide +kernel)⟩
theorem lw_p114 : lw_okq (⟨"SaidShallowModel", "laysWord", "(I)V"⟩, 56) := ⟨⟨by decide +kernel, by decide +kernel⟩, List.mem_of_getElem? (i := 1318) (by decide +kernel), List.mem_of_getElem? (i := 1813) (by decide +kernel), List.mem_of_getElem? (i := 1814) (by decide +kernel)⟩
theorem lw_p115 : lw_okq (⟨"SaidShallowModel", "isParted", "(II)Z"⟩, 56) := ⟨⟨by decide +kernel, by decide +kernel⟩, List.mem_of_getElem? (i := 1318) (by decide +kernel), List.mem_of_getElem? (i := 1817) (by decide +kernel), List.mem_of_getElem? (i := 1818) (by decide +kernel)⟩
theorem lw_p116 : lw_okq (⟨"SaidShallowModel", "marksAll", "(I)V"⟩, 56) := ⟨⟨by decide +kernel, by decide +kernel⟩, List.mem_of_getElem? (i := 1318) (by decide +kernel), List.mem_of_getElem? (i := 1821) (by decide +kernel), List.mem_of_getElem? (i := 1822) (by decide +kernel)⟩
theorem lw_p117 : lw_okq (⟨"SaidShallowModel", "isUsed", "(I)Z"⟩, 56) := ⟨⟨by decide +kernel, by decide +kernel⟩, List.mem_of_getElem? (i := 1318) (by decide +kernel), List.mem_of_getElem? (i := 1829) (by decide +kernel), List.mem_of_getElem? (i := 1830) (by decide +kernel)⟩
theorem lw_p118 : lw_okq (⟨"SaidShallowModel", "triesOrders", "(II)V"⟩, 56) := ⟨⟨by decide +kernel, by decide +kernel⟩, List.mem_of_getElem? (i := 1318) (by decide +kernel), List.mem_of_getElem? (i := 1848) (by decide +kernel), List.mem_of_getElem? (i := 1849) (by decide +kernel)⟩
theorem lw_p119 : lw_okq (⟨"SaidShallowModel", "agreeing", "(I)I"⟩, 56) := ⟨⟨by decide +kernel, by decide +kernel⟩, List.mem_of_getElem? (i := 1318) (by decide +kernel), List.mem_of_getElem? (i := 1852) (by decide +kernel), List.mem_of_getElem? (i := 1853) (by decide +kernel)⟩
theorem lw_p120 : lw_okq (⟨"SaidShallowModel", "firstWrong", "(I)I"⟩, 56) := ⟨⟨by decide +kernel, by decide +kernel⟩, List.mem_of_getElem? (i := 1318) (by decide +kernel), List.mem_of_getElem? (i := 1864) (by decide +kernel), List.mem_of_getElem? (i := 1865) (by decide +kernel)⟩
theorem lw_p121 : lw_okq (⟨"SaidShallowModel", "isRight", "(II)Z"⟩, 56) := ⟨⟨by decide +kernel, by decide +kernel⟩, List.mem_of_getElem? (i := 1318) (by decide +kernel), List.mem_of_getElem? (i := 1868) (by decide +kernel), List.mem_of_getElem? (i := 1869) (by decide +kernel)⟩
def lw_privs_8 : List (MethodName × Nat) := [(⟨"SaidShallowModel", "partsOf", "(III)I"⟩, 56), (⟨"SaidShallowModel", "wordsUpTo", "(I)I"⟩, 56), (⟨"SaidShallowModel", "laysWord", "(I)V"⟩, 56), (⟨"SaidShallowModel", "isParted", "(II)Z"⟩, 56), (⟨"SaidShallowModel", "marksAll", "(I)V"⟩, 56), (⟨"SaidShallowModel", "isUsed", "(I)Z"⟩, 56), (⟨"SaidShallowModel", "triesOrders", "(II)V"⟩, 56), (⟨"SaidShallowModel", "agreeing", "(I)I"⟩, 56), (⟨"SaidShallowModel", "firstWrong", "(I)I"⟩, 56), (⟨"SaidShallowModel", "isRight", "(II)Z"⟩, 56)]
theorem lw_r8 : ∀ q ∈ lw_privs_8, lw_okq q := List.forall_mem_cons.mpr ⟨lw_p112, List.forall_mem_cons.mpr ⟨lw_p113, List.forall_mem_cons.mpr ⟨lw_p114, List.forall_mem_cons.mpr ⟨lw_p115, List.forall_mem_cons.mpr ⟨lw_p116, List.forall_mem_cons.mpr ⟨lw_p117, List.forall_mem_cons.mpr ⟨lw_p118, List.forall_mem_cons.mpr ⟨lw_p119, List.forall_mem_cons.mpr ⟨lw_p120, List.forall_mem_cons.mpr ⟨lw_p121, fun _ h => absurd h List.not_mem_nil⟩⟩⟩⟩⟩⟩⟩⟩⟩⟩
def lw_privs : List (MethodName × Nat) := lw_privs_1 ++ (lw_privs_2 ++ (lw_privs_3 ++ (lw_privs_4 ++ (lw_privs_5 ++ (lw_privs_6 ++ (lw_privs_7 ++ (lw_privs_8)))))))
def lw_tbl : List Cond := k2_sels lw_privs ++ tables_1
theorem lw_privs_ok : ∀ q ∈ lw_privs, lw_okq q := by
  show ∀ q ∈ lw_privs_1 ++ (lw_privs_2 ++ (lw_privs_3 ++ (lw_privs_4 ++ (lw_privs_5 ++ (lw_privs_6 ++ (lw_privs_7 ++ (lw_privs_8))))))), lw_okq q
  exact List.forall_mem_append.mpr ⟨lw_r1, List.forall_mem_append.mpr ⟨lw_r2, List.forall_mem_append.mpr ⟨lw_r3, List.forall_mem_append.mpr ⟨lw_r4, List.forall_mem_append.mpr ⟨lw_r5, List.forall_mem_append.mpr ⟨lw_r6, List.forall_mem_append.mpr ⟨lw_r7, lw_r8⟩⟩⟩⟩⟩⟩⟩
end
section
def RX0 : String := "SaidShallow$BestOrder"
def TX0 : u_T := fun k => match k with
  | 0 => ("SaidShallow$BestOrder", "after", "[I", true)
  | 1 => ("SaidShallow$BestOrder", "agrees", "[I", true)
  | 2 => ("SaidShallow$BestOrder", "inUse", "[I", true)
  | 3 => ("SaidShallow$BestOrder", "ordered", "I", false)
  | 4 => ("SaidShallow$BestOrder", "path", "[I", true)
  | 5 => ("SaidShallow$BestOrder", "stages", "[I", true)
  | 6 => ("SaidShallow$BestOrder", "best", "[I", true)
  | 7 => ("SaidShallow$BestOrder", "bestAgreed", "I", false)
  | 8 => ("SaidShallow$BestOrder", "word", "[I", true)
  | 9 => ("SaidShallow$BestOrder", "knownLength", "I", false)
  | _ => ("SaidShallow$BestOrder", "knownChanges", "I", false)
def tyX0 : Nat → FieldType := fun k => match k with
  | 0 => .array .int
  | 1 => .array .int
  | 2 => .array .int
  | 3 => .int
  | 4 => .array .int
  | 5 => .array .int
  | 6 => .array .int
  | 7 => .int
  | 8 => .array .int
  | 9 => .int
  | _ => .int
abbrev wsX00 : List Cond := u_ws RX0 TX0 11
theorem nmX0 : ∀ a, a < 11 → ∀ b, b < 11 → a ≠ b → (TX0 a).2.1 ≠ (TX0 b).2.1 := by decide +kernel
theorem tyX0_ok : ∀ k, k < 11 → parseFieldDescriptor (TX0 k).2.2.1 = some (tyX0 k) := by decide +kernel
abbrev cX0_init : ByteArray := prog_2_method_1_code
def yX0_init : MethodName := ⟨RX0, "<init>", "()V"⟩
abbrev cX0_wordCount : ByteArray := prog_2_method_2_code
def yX0_wordCount : MethodName := ⟨RX0, "wordCount", "(I)I"⟩
abbrev cX0_refresh : ByteArray := prog_2_method_3_code
def yX0_refresh : MethodName := ⟨RX0, "refresh", "(ILSaidShallow$Rows;LSaidShallow$Standing;I)V"⟩
abbrev cX0_numberOf : ByteArray := prog_2_method_4_code
def yX0_numberOf : MethodName := ⟨RX0, "numberOf", "(II)I"⟩
abbrev cX0_fillAfter : ByteArray := prog_2_method_5_code
def yX0_fillAfter : MethodName := ⟨RX0, "fillAfter", "(LSaidShallow$Tongue;I)V"⟩
abbrev cX0_fillAgrees : ByteArray := prog_2_method_6_code
def yX0_fillAgrees : MethodName := ⟨RX0, "fillAgrees", "(LSaidShallow$Rows;LSaidShallow$Standing;)V"⟩
abbrev cX0_noteSaid : ByteArray := prog_2_method_7_code
def yX0_noteSaid : MethodName := ⟨RX0, "noteSaid", "(LSaidShallow$Rows;I)V"⟩
abbrev cX0_tryOrders : ByteArray := prog_2_method_8_code
def yX0_tryOrders : MethodName := ⟨RX0, "tryOrders", "(II)V"⟩
abbrev cX0_judge : ByteArray := prog_2_method_9_code
def yX0_judge : MethodName := ⟨RX0, "judge", "(I)V"⟩
def RX1 : String := "SaidShallow$DeadEnds"
def TX1 : u_T := fun k => match k with
  | 0 => ("SaidShallow$DeadEnds", "slots", "[I", true)
  | 1 => ("SaidShallow$DeadEnds", "pool", "[J", true)
  | 2 => ("SaidShallow$DeadEnds", "key", "[J", true)
  | 3 => ("SaidShallow$DeadEnds", "keyLength", "I", false)
  | 4 => ("SaidShallow$DeadEnds", "count", "I", false)
  | _ => ("SaidShallow$DeadEnds", "used", "I", false)
def tyX1 : Nat → FieldType := fun k => match k with
  | 0 => .array .int
  | 1 => .array .long
  | 2 => .array .long
  | 3 => .int
  | 4 => .int
  | _ => .int
abbrev wsX10 : List Cond := u_ws RX1 TX1 6
theorem nmX1 : ∀ a, a < 6 → ∀ b, b < 6 → a ≠ b → (TX1 a).2.1 ≠ (TX1 b).2.1 := by decide +kernel
theorem tyX1_ok : ∀ k, k < 6 → parseFieldDescriptor (TX1 k).2.2.1 = some (tyX1 k) := by decide +kernel
abbrev cX1_init : ByteArray := prog_3_method_1_code
def yX1_init : MethodName := ⟨RX1, "<init>", "()V"⟩
abbrev cX1_clear : ByteArray := prog_3_method_2_code
def yX1_clear : MethodName := ⟨RX1, "clear", "()V"⟩
abbrev cX1_makeKey : ByteArray := prog_3_method_3_code
def yX1_makeKey : MethodName := ⟨RX1, "makeKey", "(LSaidShallow$Track;III)V"⟩
abbrev cX1_hasKey : ByteArray := prog_3_method_4_code
def yX1_hasKey : MethodName := ⟨RX1, "hasKey", "()Z"⟩
abbrev cX1_addKey : ByteArray := prog_3_method_5_code
def yX1_addKey : MethodName := ⟨RX1, "addKey", "()V"⟩
abbrev cX1_slotOfKey : ByteArray := prog_3_method_6_code
def yX1_slotOfKey : MethodName := ⟨RX1, "slotOfKey", "()I"⟩
abbrev cX1_isKeyAt : ByteArray := prog_3_method_7_code
def yX1_isKeyAt : MethodName := ⟨RX1, "isKeyAt", "(I)Z"⟩
def RX2 : String := "SaidShallow$Reader"
def TX2 : u_T := fun k => match k with
  | 0 => ("SaidShallow$Reader", "draft", "LSaidShallow$Tongue;", true)
  | 1 => ("SaidShallow$Reader", "faultKind", "I", false)
  | 2 => ("SaidShallow$Reader", "faultPlace", "I", false)
  | 3 => ("SaidShallow$Reader", "signs", "[I", true)
  | 4 => ("SaidShallow$Reader", "length", "I", false)
  | 5 => ("SaidShallow$Reader", "at", "I", false)
  | 6 => ("SaidShallow$Reader", "readSign", "I", false)
  | 7 => ("SaidShallow$Reader", "readDeep", "I", false)
  | 8 => ("SaidShallow$Reader", "readSaid", "I", false)
  | _ => ("SaidShallow$Reader", "readSet", "I", false)
def tyX2 : Nat → FieldType := fun k => match k with
  | 0 => .object "SaidShallow$Tongue"
  | 1 => .int
  | 2 => .int
  | 3 => .array .int
  | 4 => .int
  | 5 => .int
  | 6 => .int
  | 7 => .int
  | 8 => .int
  | _ => .int
abbrev wsX20 : List Cond := u_ws RX2 TX2 10
theorem nmX2 : ∀ a, a < 10 → ∀ b, b < 10 → a ≠ b → (TX2 a).2.1 ≠ (TX2 b).2.1 := by decide +kernel
theorem tyX2_ok : ∀ k, k < 10 → parseFieldDescriptor (TX2 k).2.2.1 = some (tyX2 k) := by decide +kernel
abbrev cX2_init : ByteArray := prog_4_method_1_code
def yX2_init : MethodName := ⟨RX2, "<init>", "()V"⟩
abbrev cX2_read : ByteArray := prog_4_method_2_code
def yX2_read : MethodName := ⟨RX2, "read", "([II)Z"⟩
abbrev cX2_fail : ByteArray := prog_4_method_3_code
def yX2_fail : MethodName := ⟨RX2, "fail", "(II)Z"⟩
abbrev cX2_peek : ByteArray := prog_4_method_4_code
def yX2_peek : MethodName := ⟨RX2, "peek", "()I"⟩
abbrev cX2_isNext : ByteArray := prog_4_method_5_code
def yX2_isNext : MethodName := ⟨RX2, "isNext", "(I)Z"⟩
abbrev cX2_skipIf : ByteArray := prog_4_method_6_code
def yX2_skipIf : MethodName := ⟨RX2, "skipIf", "(I)Z"⟩
abbrev cX2_expect : ByteArray := prog_4_method_7_code
def yX2_expect : MethodName := ⟨RX2, "expect", "(I)Z"⟩
abbrev cX2_isSmall : ByteArray := prog_4_method_8_code
def yX2_isSmall : MethodName := ⟨RX2, "isSmall", "(I)Z"⟩
abbrev cX2_isClass : ByteArray := prog_4_method_9_code
def yX2_isClass : MethodName := ⟨RX2, "isClass", "(I)Z"⟩
abbrev cX2_startsItem : ByteArray := prog_4_method_10_code
def yX2_startsItem : MethodName := ⟨RX2, "startsItem", "(I)Z"⟩
abbrev cX2_readStatement : ByteArray := prog_4_method_11_code
def yX2_readStatement : MethodName := ⟨RX2, "readStatement", "()Z"⟩
abbrev cX2_isKeyword : ByteArray := prog_4_method_12_code
def yX2_isKeyword : MethodName := ⟨RX2, "isKeyword", "(Ljava/lang/String;I)Z"⟩
abbrev cX2_readLetters : ByteArray := prog_4_method_13_code
def yX2_readLetters : MethodName := ⟨RX2, "readLetters", "()Z"⟩
abbrev cX2_readClass : ByteArray := prog_4_method_14_code
def yX2_readClass : MethodName := ⟨RX2, "readClass", "()Z"⟩
abbrev cX2_readS : ByteArray := prog_4_method_15_code
def yX2_readS : MethodName := ⟨RX2, "readS", "()Z"⟩
abbrev cX2_readPair : ByteArray := prog_4_method_16_code
def yX2_readPair : MethodName := ⟨RX2, "readPair", "()Z"⟩
abbrev cX2_readRule : ByteArray := prog_4_method_17_code
def yX2_readRule : MethodName := ⟨RX2, "readRule", "(I)Z"⟩
abbrev cX2_readOp : ByteArray := prog_4_method_18_code
def yX2_readOp : MethodName := ⟨RX2, "readOp", "(LSaidShallow$Rule;)Z"⟩
abbrev cX2_standsHere : ByteArray := prog_4_method_19_code
def yX2_standsHere : MethodName := ⟨RX2, "standsHere", "(Ljava/lang/String;)Z"⟩
abbrev cX2_readContext : ByteArray := prog_4_method_20_code
def yX2_readContext : MethodName := ⟨RX2, "readContext", "(LSaidShallow$Rule;)Z"⟩
abbrev cX2_readItems : ByteArray := prog_4_method_21_code
def yX2_readItems : MethodName := ⟨RX2, "readItems", "(LSaidShallow$Side;I)Z"⟩
abbrev cX2_readX : ByteArray := prog_4_method_22_code
def yX2_readX : MethodName := ⟨RX2, "readX", "()Z"⟩
abbrev cX2_readPart : ByteArray := prog_4_method_23_code
def yX2_readPart : MethodName := ⟨RX2, "readPart", "(LSaidShallow$WordList;II)Z"⟩
def RX3 : String := "SaidShallow$Rows"
def TX3 : u_T := fun k => match k with
  | 0 => ("SaidShallow$Rows", "tongue", "LSaidShallow$Tongue;", true)
  | 1 => ("SaidShallow$Rows", "words", "LSaidShallow$Words;", true)
  | 2 => ("SaidShallow$Rows", "track", "LSaidShallow$Track;", true)
  | 3 => ("SaidShallow$Rows", "deadEnds", "LSaidShallow$DeadEnds;", true)
  | 4 => ("SaidShallow$Rows", "given", "[I", true)
  | 5 => ("SaidShallow$Rows", "length", "I", false)
  | 6 => ("SaidShallow$Rows", "deepGiven", "Z", false)
  | 7 => ("SaidShallow$Rows", "collecting", "Z", false)
  | 8 => ("SaidShallow$Rows", "watched", "I", false)
  | 9 => ("SaidShallow$Rows", "firstSet", "I", false)
  | 10 => ("SaidShallow$Rows", "secondSet", "I", false)
  | 11 => ("SaidShallow$Rows", "wanted", "I", false)
  | 12 => ("SaidShallow$Rows", "row", "[I", true)
  | 13 => ("SaidShallow$Rows", "codes", "[I", true)
  | 14 => ("SaidShallow$Rows", "masks", "[I", true)
  | 15 => ("SaidShallow$Rows", "listed", "I", false)
  | 16 => ("SaidShallow$Rows", "marks", "[I", true)
  | _ => ("SaidShallow$Rows", "needed", "[I", true)
def tyX3 : Nat → FieldType := fun k => match k with
  | 0 => .object "SaidShallow$Tongue"
  | 1 => .object "SaidShallow$Words"
  | 2 => .object "SaidShallow$Track"
  | 3 => .object "SaidShallow$DeadEnds"
  | 4 => .array .int
  | 5 => .int
  | 6 => .boolean
  | 7 => .boolean
  | 8 => .int
  | 9 => .int
  | 10 => .int
  | 11 => .int
  | 12 => .array .int
  | 13 => .array .int
  | 14 => .array .int
  | 15 => .int
  | 16 => .array .int
  | _ => .array .int
abbrev wsX30 : List Cond := u_ws RX3 TX3 18
theorem nmX3 : ∀ a, a < 18 → ∀ b, b < 18 → a ≠ b → (TX3 a).2.1 ≠ (TX3 b).2.1 := by decide +kernel
theorem tyX3_ok : ∀ k, k < 18 → parseFieldDescriptor (TX3 k).2.2.1 = some (tyX3 k) := by decide +kernel
abbrev cX3_init : ByteArray := prog_5_method_1_code
def yX3_init : MethodName := ⟨RX3, "<init>", "()V"⟩
abbrev cX3_takeSigns : ByteArray := prog_5_method_2_code
def yX3_takeSigns : MethodName := ⟨RX3, "takeSigns", "([II)V"⟩
abbrev cX3_takeNumbered : ByteArray := prog_5_method_3_code
def yX3_takeNumbered : MethodName := ⟨RX3, "takeNumbered", "(II)V"⟩
abbrev cX3_collect : ByteArray := prog_5_method_4_code
def yX3_collect : MethodName := ⟨RX3, "collect", "(ZII)V"⟩
abbrev cX3_list : ByteArray := prog_5_method_5_code
def yX3_list : MethodName := ⟨RX3, "list", "(IIII)V"⟩
abbrev cX3_breakable : ByteArray := prog_5_method_6_code
def yX3_breakable : MethodName := ⟨RX3, "breakable", "(I)I"⟩
abbrev cX3_hasSign : ByteArray := prog_5_method_7_code
def yX3_hasSign : MethodName := ⟨RX3, "hasSign", "(I)Z"⟩
abbrev cX3_descend : ByteArray := prog_5_method_8_code
def yX3_descend : MethodName := ⟨RX3, "descend", "(IIIII)Z"⟩
abbrev cX3_choiceOf : ByteArray := prog_5_method_9_code
def yX3_choiceOf : MethodName := ⟨RX3, "choiceOf", "(II)I"⟩
abbrev cX3_isLeft : ByteArray := prog_5_method_10_code
def yX3_isLeft : MethodName := ⟨RX3, "isLeft", "(I)Z"⟩
abbrev cX3_complete : ByteArray := prog_5_method_11_code
def yX3_complete : MethodName := ⟨RX3, "complete", "(II)Z"⟩
abbrev cX3_hasWanted : ByteArray := prog_5_method_12_code
def yX3_hasWanted : MethodName := ⟨RX3, "hasWanted", "(I)Z"⟩
abbrev cX3_hasAllowedRowWith : ByteArray := prog_5_method_13_code
def yX3_hasAllowedRowWith : MethodName := ⟨RX3, "hasAllowedRowWith", "(III)Z"⟩
abbrev cX3_tellsApart : ByteArray := prog_5_method_14_code
def yX3_tellsApart : MethodName := ⟨RX3, "tellsApart", "(III)Z"⟩
abbrev cX3_shortCode : ByteArray := prog_5_method_15_code
def yX3_shortCode : MethodName := ⟨RX3, "shortCode", "(I)I"⟩
abbrev cX3_clearMarks : ByteArray := prog_5_method_16_code
def yX3_clearMarks : MethodName := ⟨RX3, "clearMarks", "()V"⟩
abbrev cX3_clearNeeded : ByteArray := prog_5_method_17_code
def yX3_clearNeeded : MethodName := ⟨RX3, "clearNeeded", "()V"⟩
abbrev cX3_noteNeeded : ByteArray := prog_5_method_18_code
def yX3_noteNeeded : MethodName := ⟨RX3, "noteNeeded", "(II)V"⟩
abbrev cX3_leastThatMeetsNeeds : ByteArray := prog_5_method_19_code
def yX3_leastThatMeetsNeeds : MethodName := ⟨RX3, "leastThatMeetsNeeds", "(I)I"⟩
abbrev cX3_meetsNeeds : ByteArray := prog_5_method_20_code
def yX3_meetsNeeds : MethodName := ⟨RX3, "meetsNeeds", "(I)Z"⟩
abbrev cX3_isSaidAs : ByteArray := prog_5_method_21_code
def yX3_isSaidAs : MethodName := ⟨RX3, "isSaidAs", "([IIII)Z"⟩
abbrev cX3_align : ByteArray := prog_5_method_22_code
def yX3_align : MethodName := ⟨RX3, "align", "([IIII)I"⟩
abbrev cX3_layRow : ByteArray := prog_5_method_23_code
def yX3_layRow : MethodName := ⟨RX3, "layRow", "([IIII)Z"⟩
abbrev cX3_breaksOf : ByteArray := prog_5_method_24_code
def yX3_breaksOf : MethodName := ⟨RX3, "breaksOf", "(II)I"⟩
def RX4 : String := "SaidShallow$Rule"
def TX4 : u_T := fun k => match k with
  | 0 => ("SaidShallow$Rule", "deep", "I", false)
  | 1 => ("SaidShallow$Rule", "said", "I", false)
  | 2 => ("SaidShallow$Rule", "op", "I", false)
  | 3 => ("SaidShallow$Rule", "contexts", "I", false)
  | 4 => ("SaidShallow$Rule", "left", "LSaidShallow$Side;", true)
  | 5 => ("SaidShallow$Rule", "right", "LSaidShallow$Side;", true)
  | 6 => ("SaidShallow$Rule", "roles", "[I", true)
  | 7 => ("SaidShallow$Rule", "opened", "[I", true)
  | 8 => ("SaidShallow$Rule", "atStart", "I", false)
  | 9 => ("SaidShallow$Rule", "anywhere", "I", false)
  | _ => ("SaidShallow$Rule", "free", "I", false)
def tyX4 : Nat → FieldType := fun k => match k with
  | 0 => .int
  | 1 => .int
  | 2 => .int
  | 3 => .int
  | 4 => .object "SaidShallow$Side"
  | 5 => .object "SaidShallow$Side"
  | 6 => .array .int
  | 7 => .array .int
  | 8 => .int
  | 9 => .int
  | _ => .int
abbrev wsX40 : List Cond := u_ws RX4 TX4 11
theorem nmX4 : ∀ a, a < 11 → ∀ b, b < 11 → a ≠ b → (TX4 a).2.1 ≠ (TX4 b).2.1 := by decide +kernel
theorem tyX4_ok : ∀ k, k < 11 → parseFieldDescriptor (TX4 k).2.2.1 = some (tyX4 k) := by decide +kernel
abbrev cX4_init : ByteArray := prog_6_method_1_code
def yX4_init : MethodName := ⟨RX4, "<init>", "()V"⟩
abbrev cX4_clear : ByteArray := prog_6_method_2_code
def yX4_clear : MethodName := ⟨RX4, "clear", "(II)V"⟩
abbrev cX4_copyFrom : ByteArray := prog_6_method_3_code
def yX4_copyFrom : MethodName := ⟨RX4, "copyFrom", "(LSaidShallow$Rule;)V"⟩
abbrev cX4_compile : ByteArray := prog_6_method_4_code
def yX4_compile : MethodName := ⟨RX4, "compile", "(LSaidShallow$Tongue;)V"⟩
abbrev cX4_roleOf : ByteArray := prog_6_method_5_code
def yX4_roleOf : MethodName := ⟨RX4, "roleOf", "(II)I"⟩
abbrev cX4_isAlways : ByteArray := prog_6_method_6_code
def yX4_isAlways : MethodName := ⟨RX4, "isAlways", "()Z"⟩
abbrev cX4_firstBreak : ByteArray := prog_6_method_7_code
def yX4_firstBreak : MethodName := ⟨RX4, "firstBreak", "([II)I"⟩
abbrev cX4_holdsAt : ByteArray := prog_6_method_8_code
def yX4_holdsAt : MethodName := ⟨RX4, "holdsAt", "(I[III)Z"⟩
abbrev cX4_mayClash : ByteArray := prog_6_method_9_code
def yX4_mayClash : MethodName := ⟨RX4, "mayClash", "(LSaidShallow$Rule;)Z"⟩
abbrev cX4_shortestClash : ByteArray := prog_6_method_10_code
def yX4_shortestClash : MethodName := ⟨RX4, "shortestClash", "(LSaidShallow$Rule;I)I"⟩
def RX5 : String := "SaidShallow$Side"
def TX5 : u_T := fun k => match k with
  | 0 => ("SaidShallow$Side", "deepSets", "[I", true)
  | 1 => ("SaidShallow$Side", "saidSets", "[I", true)
  | 2 => ("SaidShallow$Side", "fitting", "[I", true)
  | 3 => ("SaidShallow$Side", "starred", "I", false)
  | 4 => ("SaidShallow$Side", "starts", "I", false)
  | _ => ("SaidShallow$Side", "edges", "I", false)
def tyX5 : Nat → FieldType := fun k => match k with
  | 0 => .array .int
  | 1 => .array .int
  | 2 => .array .int
  | 3 => .int
  | 4 => .int
  | _ => .int
abbrev wsX50 : List Cond := u_ws RX5 TX5 6
theorem nmX5 : ∀ a, a < 6 → ∀ b, b < 6 → a ≠ b → (TX5 a).2.1 ≠ (TX5 b).2.1 := by decide +kernel
theorem tyX5_ok : ∀ k, k < 6 → parseFieldDescriptor (TX5 k).2.2.1 = some (tyX5 k) := by decide +kernel
abbrev cX5_init : ByteArray := prog_7_method_1_code
def yX5_init : MethodName := ⟨RX5, "<init>", "()V"⟩
abbrev cX5_clear : ByteArray := prog_7_method_2_code
def yX5_clear : MethodName := ⟨RX5, "clear", "()V"⟩
abbrev cX5_copyFrom : ByteArray := prog_7_method_3_code
def yX5_copyFrom : MethodName := ⟨RX5, "copyFrom", "(LSaidShallow$Side;)V"⟩
abbrev cX5_openContext : ByteArray := prog_7_method_4_code
def yX5_openContext : MethodName := ⟨RX5, "openContext", "(I)V"⟩
abbrev cX5_putEdge : ByteArray := prog_7_method_5_code
def yX5_putEdge : MethodName := ⟨RX5, "putEdge", "(I)V"⟩
abbrev cX5_addItem : ByteArray := prog_7_method_6_code
def yX5_addItem : MethodName := ⟨RX5, "addItem", "(IIIZ)V"⟩
abbrev cX5_compile : ByteArray := prog_7_method_7_code
def yX5_compile : MethodName := ⟨RX5, "compile", "(LSaidShallow$Tongue;)V"⟩
abbrev cX5_takes : ByteArray := prog_7_method_8_code
def yX5_takes : MethodName := ⟨RX5, "takes", "(III)Z"⟩
abbrev cX5_closure : ByteArray := prog_7_method_9_code
def yX5_closure : MethodName := ⟨RX5, "closure", "(I)I"⟩
abbrev cX5_step : ByteArray := prog_7_method_10_code
def yX5_step : MethodName := ⟨RX5, "step", "(II)I"⟩
abbrev cX5_holding : ByteArray := prog_7_method_11_code
def yX5_holding : MethodName := ⟨RX5, "holding", "(I)I"⟩
abbrev cX5_startsOf : ByteArray := prog_7_method_12_code
def yX5_startsOf : MethodName := ⟨RX5, "startsOf", "(I)I"⟩
abbrev cX5_freeStarts : ByteArray := prog_7_method_13_code
def yX5_freeStarts : MethodName := ⟨RX5, "freeStarts", "()I"⟩
abbrev cX5_freeFinals : ByteArray := prog_7_method_14_code
def yX5_freeFinals : MethodName := ⟨RX5, "freeFinals", "()I"⟩
abbrev cX5_shortestCommon : ByteArray := prog_7_method_15_code
def yX5_shortestCommon : MethodName := ⟨RX5, "shortestCommon", "(ILSaidShallow$Side;IIZ)I"⟩
abbrev cX5_moveCouples : ByteArray := prog_7_method_16_code
def yX5_moveCouples : MethodName := ⟨RX5, "moveCouples", "(JILSaidShallow$Side;IIZ)J"⟩
abbrev cX5_couplesOf : ByteArray := prog_7_method_17_code
def yX5_couplesOf : MethodName := ⟨RX5, "couplesOf", "(II)J"⟩
abbrev cX5_moveAlone : ByteArray := prog_7_method_18_code
def yX5_moveAlone : MethodName := ⟨RX5, "moveAlone", "(IIIZ)I"⟩
def RX6 : String := "SaidShallow$Standing"
def TX6 : u_T := fun k => match k with
  | 0 => ("SaidShallow$Standing", "inUse", "I", false)
  | 1 => ("SaidShallow$Standing", "slack", "I", false)
  | 2 => ("SaidShallow$Standing", "order", "[I", true)
  | 3 => ("SaidShallow$Standing", "deeps", "LSaidShallow$WordList;", true)
  | 4 => ("SaidShallow$Standing", "saids", "LSaidShallow$WordList;", true)
  | 5 => ("SaidShallow$Standing", "rights", "I", false)
  | 6 => ("SaidShallow$Standing", "breaks", "[I", true)
  | 7 => ("SaidShallow$Standing", "ways", "[I", true)
  | _ => ("SaidShallow$Standing", "word", "[I", true)
def tyX6 : Nat → FieldType := fun k => match k with
  | 0 => .int
  | 1 => .int
  | 2 => .array .int
  | 3 => .object "SaidShallow$WordList"
  | 4 => .object "SaidShallow$WordList"
  | 5 => .int
  | 6 => .array .int
  | 7 => .array .int
  | _ => .array .int
abbrev wsX60 : List Cond := u_ws RX6 TX6 9
theorem nmX6 : ∀ a, a < 9 → ∀ b, b < 9 → a ≠ b → (TX6 a).2.1 ≠ (TX6 b).2.1 := by decide +kernel
theorem tyX6_ok : ∀ k, k < 9 → parseFieldDescriptor (TX6 k).2.2.1 = some (tyX6 k) := by decide +kernel
abbrev cX6_init : ByteArray := prog_8_method_1_code
def yX6_init : MethodName := ⟨RX6, "<init>", "()V"⟩
abbrev cX6_restart : ByteArray := prog_8_method_2_code
def yX6_restart : MethodName := ⟨RX6, "restart", "(I)V"⟩
abbrev cX6_copyFrom : ByteArray := prog_8_method_3_code
def yX6_copyFrom : MethodName := ⟨RX6, "copyFrom", "(LSaidShallow$Standing;)V"⟩
abbrev cX6_moveRule : ByteArray := prog_8_method_4_code
def yX6_moveRule : MethodName := ⟨RX6, "moveRule", "(III)V"⟩
abbrev cX6_openExample : ByteArray := prog_8_method_5_code
def yX6_openExample : MethodName := ⟨RX6, "openExample", "(Z)V"⟩
abbrev cX6_study : ByteArray := prog_8_method_6_code
def yX6_study : MethodName := ⟨RX6, "study", "(LSaidShallow$Rows;I)V"⟩
abbrev cX6_firstUntrue : ByteArray := prog_8_method_7_code
def yX6_firstUntrue : MethodName := ⟨RX6, "firstUntrue", "(I)I"⟩
abbrev cX6_leastTrue : ByteArray := prog_8_method_8_code
def yX6_leastTrue : MethodName := ⟨RX6, "leastTrue", "(I)I"⟩
def RX7 : String := "SaidShallow$Tongue"
def TX7 : u_T := fun k => match k with
  | 0 => ("SaidShallow$Tongue", "signAt", "[I", true)
  | 1 => ("SaidShallow$Tongue", "letterCount", "I", false)
  | 2 => ("SaidShallow$Tongue", "classes", "[I", true)
  | 3 => ("SaidShallow$Tongue", "pairAt", "[I", true)
  | 4 => ("SaidShallow$Tongue", "deepOf", "[I", true)
  | 5 => ("SaidShallow$Tongue", "saidOf", "[I", true)
  | 6 => ("SaidShallow$Tongue", "pairCount", "I", false)
  | 7 => ("SaidShallow$Tongue", "extrasOfDeep", "[I", true)
  | 8 => ("SaidShallow$Tongue", "extrasOfSaid", "[I", true)
  | 9 => ("SaidShallow$Tongue", "pairsOfDeep", "[I", true)
  | 10 => ("SaidShallow$Tongue", "pairsOfSaid", "[I", true)
  | 11 => ("SaidShallow$Tongue", "rules", "[LSaidShallow$Rule;", true)
  | 12 => ("SaidShallow$Tongue", "ruleCount", "I", false)
  | 13 => ("SaidShallow$Tongue", "stems", "LSaidShallow$WordList;", true)
  | 14 => ("SaidShallow$Tongue", "ends", "LSaidShallow$WordList;", true)
  | _ => ("SaidShallow$Tongue", "row", "[I", true)
def tyX7 : Nat → FieldType := fun k => match k with
  | 0 => .array .int
  | 1 => .int
  | 2 => .array .int
  | 3 => .array .int
  | 4 => .array .int
  | 5 => .array .int
  | 6 => .int
  | 7 => .array .int
  | 8 => .array .int
  | 9 => .array .int
  | 10 => .array .int
  | 11 => .array (.object "SaidShallow$Rule")
  | 12 => .int
  | 13 => .object "SaidShallow$WordList"
  | 14 => .object "SaidShallow$WordList"
  | _ => .array .int
abbrev wsX70 : List Cond := u_ws RX7 TX7 16
theorem nmX7 : ∀ a, a < 16 → ∀ b, b < 16 → a ≠ b → (TX7 a).2.1 ≠ (TX7 b).2.1 := by decide +kernel
theorem tyX7_ok : ∀ k, k < 16 → parseFieldDescriptor (TX7 k).2.2.1 = some (tyX7 k) := by decide +kernel
abbrev cX7_init : ByteArray := prog_9_method_1_code
def yX7_init : MethodName := ⟨RX7, "<init>", "()V"⟩
abbrev cX7_clear : ByteArray := prog_9_method_2_code
def yX7_clear : MethodName := ⟨RX7, "clear", "()V"⟩
abbrev cX7_copyFrom : ByteArray := prog_9_method_3_code
def yX7_copyFrom : MethodName := ⟨RX7, "copyFrom", "(LSaidShallow$Tongue;)V"⟩
abbrev cX7_signOf : ByteArray := prog_9_method_4_code
def yX7_signOf : MethodName := ⟨RX7, "signOf", "(I)I"⟩
abbrev cX7_pairOf : ByteArray := prog_9_method_5_code
def yX7_pairOf : MethodName := ⟨RX7, "pairOf", "(II)I"⟩
abbrev cX7_addLetter : ByteArray := prog_9_method_6_code
def yX7_addLetter : MethodName := ⟨RX7, "addLetter", "(I)V"⟩
abbrev cX7_addPair : ByteArray := prog_9_method_7_code
def yX7_addPair : MethodName := ⟨RX7, "addPair", "(II)Z"⟩
abbrev cX7_keepPair : ByteArray := prog_9_method_8_code
def yX7_keepPair : MethodName := ⟨RX7, "keepPair", "(IIII)V"⟩
abbrev cX7_compile : ByteArray := prog_9_method_9_code
def yX7_compile : MethodName := ⟨RX7, "compile", "()V"⟩
abbrev cX7_ageBy : ByteArray := prog_9_method_10_code
def yX7_ageBy : MethodName := ⟨RX7, "ageBy", "(I[II)I"⟩
def RX8 : String := "SaidShallow$Track"
def TX8 : u_T := fun k => match k with
  | 0 => ("SaidShallow$Track", "left", "[I", true)
  | 1 => ("SaidShallow$Track", "barred", "[I", true)
  | 2 => ("SaidShallow$Track", "owedCount", "[I", true)
  | 3 => ("SaidShallow$Track", "owed", "[I", true)
  | _ => ("SaidShallow$Track", "broken", "[I", true)
def tyX8 : Nat → FieldType := fun k => match k with
  | 0 => .array .int
  | 1 => .array .int
  | 2 => .array .int
  | 3 => .array .int
  | _ => .array .int
abbrev wsX80 : List Cond := u_ws RX8 TX8 5
theorem nmX8 : ∀ a, a < 5 → ∀ b, b < 5 → a ≠ b → (TX8 a).2.1 ≠ (TX8 b).2.1 := by decide +kernel
theorem tyX8_ok : ∀ k, k < 5 → parseFieldDescriptor (TX8 k).2.2.1 = some (tyX8 k) := by decide +kernel
abbrev cX8_init : ByteArray := prog_10_method_1_code
def yX8_init : MethodName := ⟨RX8, "<init>", "()V"⟩
abbrev cX8_begin : ByteArray := prog_10_method_2_code
def yX8_begin : MethodName := ⟨RX8, "begin", "(LSaidShallow$Tongue;)V"⟩
abbrev cX8_step : ByteArray := prog_10_method_3_code
def yX8_step : MethodName := ⟨RX8, "step", "(LSaidShallow$Tongue;III)I"⟩
abbrev cX8_advance : ByteArray := prog_10_method_4_code
def yX8_advance : MethodName := ⟨RX8, "advance", "(LSaidShallow$Rule;II)Z"⟩
abbrev cX8_owe : ByteArray := prog_10_method_5_code
def yX8_owe : MethodName := ⟨RX8, "owe", "(LSaidShallow$Rule;II)Z"⟩
abbrev cX8_finish : ByteArray := prog_10_method_6_code
def yX8_finish : MethodName := ⟨RX8, "finish", "(II)I"⟩
abbrev cX8_endsWell : ByteArray := prog_10_method_7_code
def yX8_endsWell : MethodName := ⟨RX8, "endsWell", "(I)Z"⟩
abbrev cX8_writeTo : ByteArray := prog_10_method_8_code
def yX8_writeTo : MethodName := ⟨RX8, "writeTo", "([JIII)I"⟩
def RX9 : String := "SaidShallow$WordList"
def TX9 : u_T := fun k => match k with
  | 0 => ("SaidShallow$WordList", "signs", "[I", true)
  | 1 => ("SaidShallow$WordList", "lengths", "[I", true)
  | _ => ("SaidShallow$WordList", "count", "I", false)
def tyX9 : Nat → FieldType := fun k => match k with
  | 0 => .array .int
  | 1 => .array .int
  | _ => .int
abbrev wsX90 : List Cond := u_ws RX9 TX9 3
theorem nmX9 : ∀ a, a < 3 → ∀ b, b < 3 → a ≠ b → (TX9 a).2.1 ≠ (TX9 b).2.1 := by decide +kernel
theorem tyX9_ok : ∀ k, k < 3 → parseFieldDescriptor (TX9 k).2.2.1 = some (tyX9 k) := by decide +kernel
abbrev cX9_init : ByteArray := prog_11_method_1_code
def yX9_init : MethodName := ⟨RX9, "<init>", "(I)V"⟩
abbrev cX9_clear : ByteArray := prog_11_method_2_code
def yX9_clear : MethodName := ⟨RX9, "clear", "()V"⟩
abbrev cX9_copyFrom : ByteArray := prog_11_method_3_code
def yX9_copyFrom : MethodName := ⟨RX9, "copyFrom", "(LSaidShallow$WordList;)V"⟩
abbrev cX9_push : ByteArray := prog_11_method_5_code
def yX9_push : MethodName := ⟨RX9, "push", "(I)V"⟩
abbrev cX9_lengthOf : ByteArray := prog_11_method_6_code
def yX9_lengthOf : MethodName := ⟨RX9, "lengthOf", "(I)I"⟩
abbrev cX9_copyTo : ByteArray := prog_11_method_7_code
def yX9_copyTo : MethodName := ⟨RX9, "copyTo", "(I[II)I"⟩
def RX10 : String := "SaidShallow$Words"
def TX10 : u_T := fun k => match k with
  | 0 => ("SaidShallow$Words", "codes", "[I", true)
  | 1 => ("SaidShallow$Words", "count", "I", false)
  | _ => ("SaidShallow$Words", "tooMany", "Z", false)
def tyX10 : Nat → FieldType := fun k => match k with
  | 0 => .array .int
  | 1 => .int
  | _ => .boolean
abbrev wsX100 : List Cond := u_ws RX10 TX10 3
theorem nmX10 : ∀ a, a < 3 → ∀ b, b < 3 → a ≠ b → (TX10 a).2.1 ≠ (TX10 b).2.1 := by decide +kernel
theorem tyX10_ok : ∀ k, k < 3 → parseFieldDescriptor (TX10 k).2.2.1 = some (tyX10 k) := by decide +kernel
abbrev cX10_init : ByteArray := prog_12_method_1_code
def yX10_init : MethodName := ⟨RX10, "<init>", "()V"⟩
abbrev cX10_clear : ByteArray := prog_12_method_2_code
def yX10_clear : MethodName := ⟨RX10, "clear", "()V"⟩
abbrev cX10_add : ByteArray := prog_12_method_3_code
def yX10_add : MethodName := ⟨RX10, "add", "(I)V"⟩
abbrev cX10_signIn : ByteArray := prog_12_method_4_code
def yX10_signIn : MethodName := ⟨RX10, "signIn", "(II)I"⟩
abbrev cX10_letterOf : ByteArray := prog_12_method_5_code
def yX10_letterOf : MethodName := ⟨RX10, "letterOf", "(II)I"⟩
abbrev cX10_lengthOf : ByteArray := prog_12_method_6_code
def yX10_lengthOf : MethodName := ⟨RX10, "lengthOf", "(I)I"⟩
def RX11 : String := "SaidShallow"
def TX11 : u_T := fun k => match k with
  | 0 => ("SaidShallow", "tape", "[I", true)
  | 1 => ("SaidShallow", "tapeLength", "I", false)
  | 2 => ("SaidShallow", "rows", "LSaidShallow$Rows;", true)
  | 3 => ("SaidShallow", "tongue", "LSaidShallow$Tongue;", true)
  | 4 => ("SaidShallow", "words", "LSaidShallow$Words;", true)
  | 5 => ("SaidShallow", "standing", "LSaidShallow$Standing;", true)
  | 6 => ("SaidShallow", "imageTongue", "LSaidShallow$Tongue;", true)
  | 7 => ("SaidShallow", "imageStanding", "LSaidShallow$Standing;", true)
  | 8 => ("SaidShallow", "imageTaken", "Z", false)
  | 9 => ("SaidShallow", "reader", "LSaidShallow$Reader;", true)
  | 10 => ("SaidShallow", "bestOrder", "LSaidShallow$BestOrder;", true)
  | 11 => ("SaidShallow", "couples", "[I", true)
  | 12 => ("SaidShallow", "coupleCount", "I", false)
  | 13 => ("SaidShallow", "brokenPlace", "I", false)
  | 14 => ("SaidShallow", "agedWord", "[I", true)
  | 15 => ("SaidShallow", "agedLength", "I", false)
  | 16 => ("SaidShallow", "told", "[I", true)
  | 17 => ("SaidShallow", "joined", "[I", true)
  | _ => ("SaidShallow", "changes", "I", false)
def tyX11 : Nat → FieldType := fun k => match k with
  | 0 => .array .int
  | 1 => .int
  | 2 => .object "SaidShallow$Rows"
  | 3 => .object "SaidShallow$Tongue"
  | 4 => .object "SaidShallow$Words"
  | 5 => .object "SaidShallow$Standing"
  | 6 => .object "SaidShallow$Tongue"
  | 7 => .object "SaidShallow$Standing"
  | 8 => .boolean
  | 9 => .object "SaidShallow$Reader"
  | 10 => .object "SaidShallow$BestOrder"
  | 11 => .array .int
  | 12 => .int
  | 13 => .int
  | 14 => .array .int
  | 15 => .int
  | 16 => .array .int
  | 17 => .array .int
  | _ => .int
abbrev wsX110 : List Cond := u_ws RX11 TX11 19
theorem nmX11 : ∀ a, a < 19 → ∀ b, b < 19 → a ≠ b → (TX11 a).2.1 ≠ (TX11 b).2.1 := by decide +kernel
theorem tyX11_ok : ∀ k, k < 19 → parseFieldDescriptor (TX11 k).2.2.1 = some (tyX11 k) := by decide +kernel
abbrev cX11_init : ByteArray := prog_1_method_1_code
def yX11_init : MethodName := ⟨RX11, "<init>", "()V"⟩
abbrev cX11_feed : ByteArray := prog_1_method_2_code
def yX11_feed : MethodName := ⟨RX11, "feed", "(IIIII)I"⟩
abbrev cX11_end : ByteArray := prog_1_method_3_code
def yX11_end : MethodName := ⟨RX11, "end", "(I)Z"⟩
abbrev cX11_text : ByteArray := prog_1_method_4_code
def yX11_text : MethodName := ⟨RX11, "text", "()I"⟩
abbrev cX11_fault : ByteArray := prog_1_method_5_code
def yX11_fault : MethodName := ⟨RX11, "fault", "(I)I"⟩
abbrev cX11_use : ByteArray := prog_1_method_6_code
def yX11_use : MethodName := ⟨RX11, "use", "(I)Z"⟩
abbrev cX11_slack : ByteArray := prog_1_method_7_code
def yX11_slack : MethodName := ⟨RX11, "slack", "(I)Z"⟩
abbrev cX11_say : ByteArray := prog_1_method_8_code
def yX11_say : MethodName := ⟨RX11, "say", "()I"⟩
abbrev cX11_hear : ByteArray := prog_1_method_9_code
def yX11_hear : MethodName := ⟨RX11, "hear", "()I"⟩
abbrev cX11_found : ByteArray := prog_1_method_10_code
def yX11_found : MethodName := ⟨RX11, "found", "(II)I"⟩
abbrev cX11_understand : ByteArray := prog_1_method_11_code
def yX11_understand : MethodName := ⟨RX11, "understand", "()I"⟩
abbrev cX11_meant : ByteArray := prog_1_method_12_code
def yX11_meant : MethodName := ⟨RX11, "meant", "(II)I"⟩
abbrev cX11_walk : ByteArray := prog_1_method_13_code
def yX11_walk : MethodName := ⟨RX11, "walk", "()I"⟩
abbrev cX11_where : ByteArray := prog_1_method_14_code
def yX11_where : MethodName := ⟨RX11, "where", "()I"⟩
abbrev cX11_ages : ByteArray := prog_1_method_15_code
def yX11_ages : MethodName := ⟨RX11, "ages", "()I"⟩
abbrev cX11_aged : ByteArray := prog_1_method_16_code
def yX11_aged : MethodName := ⟨RX11, "aged", "(I)I"⟩
abbrev cX11_order : ByteArray := prog_1_method_17_code
def yX11_order : MethodName := ⟨RX11, "order", "(II)Z"⟩
abbrev cX11_lives : ByteArray := prog_1_method_18_code
def yX11_lives : MethodName := ⟨RX11, "lives", "(III)I"⟩
abbrev cX11_orders : ByteArray := prog_1_method_19_code
def yX11_orders : MethodName := ⟨RX11, "orders", "(II)I"⟩
abbrev cX11_quarrel : ByteArray := prog_1_method_20_code
def yX11_quarrel : MethodName := ⟨RX11, "quarrel", "(II)I"⟩
abbrev cX11_parts : ByteArray := prog_1_method_21_code
def yX11_parts : MethodName := ⟨RX11, "parts", "(III)I"⟩
abbrev cX11_idle : ByteArray := prog_1_method_22_code
def yX11_idle : MethodName := ⟨RX11, "idle", "(II)I"⟩
abbrev cX11_fewest : ByteArray := prog_1_method_23_code
def yX11_fewest : MethodName := ⟨RX11, "fewest", "(I)I"⟩
abbrev cX11_example : ByteArray := prog_1_method_24_code
def yX11_example : MethodName := ⟨RX11, "example", "(Z)I"⟩
abbrev cX11_fits : ByteArray := prog_1_method_25_code
def yX11_fits : MethodName := ⟨RX11, "fits", "(I)I"⟩
abbrev cX11_learn : ByteArray := prog_1_method_26_code
def yX11_learn : MethodName := ⟨RX11, "learn", "()I"⟩
abbrev cX11_forced : ByteArray := prog_1_method_27_code
def yX11_forced : MethodName := ⟨RX11, "forced", "(I)I"⟩
abbrev cX11_rule : ByteArray := prog_1_method_28_code
def yX11_rule : MethodName := ⟨RX11, "rule", "(II)I"⟩
abbrev cX11_image : ByteArray := prog_1_method_29_code
def yX11_image : MethodName := ⟨RX11, "image", "(Z)Z"⟩
abbrev cX11_look : ByteArray := prog_1_method_30_code
def yX11_look : MethodName := ⟨RX11, "look", "(I)I"⟩
abbrev cX11_lookFurther : ByteArray := prog_1_method_31_code
def yX11_lookFurther : MethodName := ⟨RX11, "lookFurther", "(I)I"⟩
abbrev cX11_putNumber : ByteArray := prog_1_method_32_code
def yX11_putNumber : MethodName := ⟨RX11, "putNumber", "(I)V"⟩
abbrev cX11_emptyTape : ByteArray := prog_1_method_33_code
def yX11_emptyTape : MethodName := ⟨RX11, "emptyTape", "()I"⟩
abbrev cX11_isSet : ByteArray := prog_1_method_34_code
def yX11_isSet : MethodName := ⟨RX11, "isSet", "(I)Z"⟩
abbrev cX11_isRule : ByteArray := prog_1_method_35_code
def yX11_isRule : MethodName := ⟨RX11, "isRule", "(I)Z"⟩
abbrev cX11_areLetters : ByteArray := prog_1_method_36_code
def yX11_areLetters : MethodName := ⟨RX11, "areLetters", "(II)Z"⟩
abbrev cX11_placeOfColon : ByteArray := prog_1_method_37_code
def yX11_placeOfColon : MethodName := ⟨RX11, "placeOfColon", "(I)I"⟩
abbrev cX11_takeWord : ByteArray := prog_1_method_38_code
def yX11_takeWord : MethodName := ⟨RX11, "takeWord", "()I"⟩
abbrev cX11_takeRow : ByteArray := prog_1_method_39_code
def yX11_takeRow : MethodName := ⟨RX11, "takeRow", "()I"⟩
abbrev cX11_pairOfSigns : ByteArray := prog_1_method_40_code
def yX11_pairOfSigns : MethodName := ⟨RX11, "pairOfSigns", "(II)I"⟩
abbrev cX11_findWords : ByteArray := prog_1_method_41_code
def yX11_findWords : MethodName := ⟨RX11, "findWords", "(Z)I"⟩
abbrev cX11_keepCouple : ByteArray := prog_1_method_42_code
def yX11_keepCouple : MethodName := ⟨RX11, "keepCouple", "(III)V"⟩
abbrev cX11_firstParted : ByteArray := prog_1_method_43_code
def yX11_firstParted : MethodName := ⟨RX11, "firstParted", "(III)I"⟩
def RX12 : String := "SaidShallowModel"
def TX12 : u_T := fun k => match k with
  | 0 => ("SaidShallowModel", "w", "[I", true)
  | 1 => ("SaidShallowModel", "fresh", "[I", true)
  | 2 => ("SaidShallowModel", "kept", "[I", true)
  | 3 => ("SaidShallowModel", "hasImage", "Z", false)
  | 4 => ("SaidShallowModel", "tape", "[I", true)
  | 5 => ("SaidShallowModel", "taped", "I", false)
  | 6 => ("SaidShallowModel", "at", "I", false)
  | 7 => ("SaidShallowModel", "wrong", "I", false)
  | 8 => ("SaidShallowModel", "wrongAt", "I", false)
  | 9 => ("SaidShallowModel", "faultKind", "I", false)
  | 10 => ("SaidShallowModel", "faultPlace", "I", false)
  | 11 => ("SaidShallowModel", "got", "I", false)
  | 12 => ("SaidShallowModel", "pairDeep", "I", false)
  | 13 => ("SaidShallowModel", "pairSaid", "I", false)
  | 14 => ("SaidShallowModel", "mask", "I", false)
  | 15 => ("SaidShallowModel", "left", "[[I", true)
  | 16 => ("SaidShallowModel", "bans", "[[I", true)
  | 17 => ("SaidShallowModel", "needOf", "[[I", true)
  | 18 => ("SaidShallowModel", "needs", "[[I", true)
  | 19 => ("SaidShallowModel", "needMany", "[I", true)
  | 20 => ("SaidShallowModel", "row", "[I", true)
  | 21 => ("SaidShallowModel", "one", "[I", true)
  | 22 => ("SaidShallowModel", "other", "[I", true)
  | 23 => ("SaidShallowModel", "oneLong", "I", false)
  | 24 => ("SaidShallowModel", "otherLong", "I", false)
  | 25 => ("SaidShallowModel", "doing", "I", false)
  | 26 => ("SaidShallowModel", "looked", "I", false)
  | 27 => ("SaidShallowModel", "isStopped", "Z", false)
  | 28 => ("SaidShallowModel", "foundWords", "[J", true)
  | 29 => ("SaidShallowModel", "foundMany", "I", false)
  | 30 => ("SaidShallowModel", "stamp", "[I", true)
  | 31 => ("SaidShallowModel", "comeTo", "[I", true)
  | 32 => ("SaidShallowModel", "comeMany", "I", false)
  | 33 => ("SaidShallowModel", "stamped", "I", false)
  | 34 => ("SaidShallowModel", "saidWord", "[I", true)
  | 35 => ("SaidShallowModel", "saidLong", "I", false)
  | 36 => ("SaidShallowModel", "coupleStem", "[I", true)
  | 37 => ("SaidShallowModel", "coupleEnd", "[I", true)
  | 38 => ("SaidShallowModel", "coupleMany", "I", false)
  | 39 => ("SaidShallowModel", "walkedAt", "I", false)
  | 40 => ("SaidShallowModel", "aged", "[I", true)
  | 41 => ("SaidShallowModel", "agedRow", "[I", true)
  | 42 => ("SaidShallowModel", "agedNext", "[I", true)
  | 43 => ("SaidShallowModel", "agedLong", "I", false)
  | 44 => ("SaidShallowModel", "states", "[I", true)
  | 45 => ("SaidShallowModel", "level", "[I", true)
  | 46 => ("SaidShallowModel", "firstWords", "[I", true)
  | 47 => ("SaidShallowModel", "unlike", "[Z", true)
  | 48 => ("SaidShallowModel", "agrees", "[[Z", true)
  | 49 => ("SaidShallowModel", "used", "[I", true)
  | 50 => ("SaidShallowModel", "tried", "[I", true)
  | 51 => ("SaidShallowModel", "bestOrder", "[I", true)
  | 52 => ("SaidShallowModel", "isTried", "[Z", true)
  | 53 => ("SaidShallowModel", "usedMany", "I", false)
  | 54 => ("SaidShallowModel", "mostAgree", "I", false)
  | _ => ("SaidShallowModel", "keptAged", "[I", true)
def tyX12 : Nat → FieldType := fun k => match k with
  | 0 => .array .int
  | 1 => .array .int
  | 2 => .array .int
  | 3 => .boolean
  | 4 => .array .int
  | 5 => .int
  | 6 => .int
  | 7 => .int
  | 8 => .int
  | 9 => .int
  | 10 => .int
  | 11 => .int
  | 12 => .int
  | 13 => .int
  | 14 => .int
  | 15 => .array (.array .int)
  | 16 => .array (.array .int)
  | 17 => .array (.array .int)
  | 18 => .array (.array .int)
  | 19 => .array .int
  | 20 => .array .int
  | 21 => .array .int
  | 22 => .array .int
  | 23 => .int
  | 24 => .int
  | 25 => .int
  | 26 => .int
  | 27 => .boolean
  | 28 => .array .long
  | 29 => .int
  | 30 => .array .int
  | 31 => .array .int
  | 32 => .int
  | 33 => .int
  | 34 => .array .int
  | 35 => .int
  | 36 => .array .int
  | 37 => .array .int
  | 38 => .int
  | 39 => .int
  | 40 => .array .int
  | 41 => .array .int
  | 42 => .array .int
  | 43 => .int
  | 44 => .array .int
  | 45 => .array .int
  | 46 => .array .int
  | 47 => .array .boolean
  | 48 => .array (.array .boolean)
  | 49 => .array .int
  | 50 => .array .int
  | 51 => .array .int
  | 52 => .array .boolean
  | 53 => .int
  | 54 => .int
  | _ => .array .int
abbrev wsX120 : List Cond := u_ws RX12 TX12 56
theorem nmX12 : ∀ a, a < 56 → ∀ b, b < 56 → a ≠ b → (TX12 a).2.1 ≠ (TX12 b).2.1 := by decide +kernel
theorem tyX12_ok : ∀ k, k < 56 → parseFieldDescriptor (TX12 k).2.2.1 = some (tyX12 k) := by decide +kernel
abbrev cX12_init : ByteArray := prog_14_method_1_code
def yX12_init : MethodName := ⟨RX12, "<init>", "()V"⟩
abbrev cX12_isIn : ByteArray := prog_14_method_2_code
def yX12_isIn : MethodName := ⟨RX12, "isIn", "(III)Z"⟩
abbrev cX12_count : ByteArray := prog_14_method_3_code
def yX12_count : MethodName := ⟨RX12, "count", "(I)I"⟩
abbrev cX12_feed : ByteArray := prog_14_method_4_code
def yX12_feed : MethodName := ⟨RX12, "feed", "(IIIII)I"⟩
abbrev cX12_end : ByteArray := prog_14_method_5_code
def yX12_end : MethodName := ⟨RX12, "end", "(I)Z"⟩
abbrev cX12_see : ByteArray := prog_14_method_6_code
def yX12_see : MethodName := ⟨RX12, "see", "(I)I"⟩
abbrev cX12_isSmall : ByteArray := prog_14_method_7_code
def yX12_isSmall : MethodName := ⟨RX12, "isSmall", "(I)Z"⟩
abbrev cX12_blanks : ByteArray := prog_14_method_8_code
def yX12_blanks : MethodName := ⟨RX12, "blanks", "()V"⟩
abbrev cX12_sign : ByteArray := prog_14_method_9_code
def yX12_sign : MethodName := ⟨RX12, "sign", "()I"⟩
abbrev cX12_bad : ByteArray := prog_14_method_10_code
def yX12_bad : MethodName := ⟨RX12, "bad", "(II)Z"⟩
abbrev cX12_takes : ByteArray := prog_14_method_11_code
def yX12_takes : MethodName := ⟨RX12, "takes", "(I)Z"⟩
abbrev cX12_is : ByteArray := prog_14_method_12_code
def yX12_is : MethodName := ⟨RX12, "is", "(IILjava/lang/String;)Z"⟩
abbrev cX12_letterIn : ByteArray := prog_14_method_13_code
def yX12_letterIn : MethodName := ⟨RX12, "letterIn", "([II)I"⟩
abbrev cX12_takesS : ByteArray := prog_14_method_14_code
def yX12_takesS : MethodName := ⟨RX12, "takesS", "()Z"⟩
abbrev cX12_hasPair : ByteArray := prog_14_method_15_code
def yX12_hasPair : MethodName := ⟨RX12, "hasPair", "([III)Z"⟩
abbrev cX12_takesPair : ByteArray := prog_14_method_16_code
def yX12_takesPair : MethodName := ⟨RX12, "takesPair", "()Z"⟩
abbrev cX12_letters : ByteArray := prog_14_method_17_code
def yX12_letters : MethodName := ⟨RX12, "letters", "()Z"⟩
abbrev cX12_classOf : ByteArray := prog_14_method_18_code
def yX12_classOf : MethodName := ⟨RX12, "classOf", "()Z"⟩
abbrev cX12_word : ByteArray := prog_14_method_19_code
def yX12_word : MethodName := ⟨RX12, "word", "(IZ)Z"⟩
abbrev cX12_op : ByteArray := prog_14_method_20_code
def yX12_op : MethodName := ⟨RX12, "op", "()I"⟩
abbrev cX12_takesX : ByteArray := prog_14_method_21_code
def yX12_takesX : MethodName := ⟨RX12, "takesX", "()Z"⟩
abbrev cX12_isX : ByteArray := prog_14_method_22_code
def yX12_isX : MethodName := ⟨RX12, "isX", "(I)Z"⟩
abbrev cX12_item : ByteArray := prog_14_method_23_code
def yX12_item : MethodName := ⟨RX12, "item", "(I)Z"⟩
abbrev cX12_side : ByteArray := prog_14_method_24_code
def yX12_side : MethodName := ⟨RX12, "side", "(II)Z"⟩
abbrev cX12_context : ByteArray := prog_14_method_25_code
def yX12_context : MethodName := ⟨RX12, "context", "(I)Z"⟩
abbrev cX12_ruled : ByteArray := prog_14_method_26_code
def yX12_ruled : MethodName := ⟨RX12, "ruled", "()Z"⟩
abbrev cX12_statement : ByteArray := prog_14_method_27_code
def yX12_statement : MethodName := ⟨RX12, "statement", "()Z"⟩
abbrev cX12_text : ByteArray := prog_14_method_28_code
def yX12_text : MethodName := ⟨RX12, "text", "()I"⟩
abbrev cX12_fault : ByteArray := prog_14_method_29_code
def yX12_fault : MethodName := ⟨RX12, "fault", "(I)I"⟩
abbrev cX12_allRules : ByteArray := prog_14_method_30_code
def yX12_allRules : MethodName := ⟨RX12, "allRules", "()I"⟩
abbrev cX12_use : ByteArray := prog_14_method_31_code
def yX12_use : MethodName := ⟨RX12, "use", "(I)Z"⟩
abbrev cX12_slack : ByteArray := prog_14_method_32_code
def yX12_slack : MethodName := ⟨RX12, "slack", "(I)Z"⟩
abbrev cX12_order : ByteArray := prog_14_method_33_code
def yX12_order : MethodName := ⟨RX12, "order", "(II)Z"⟩
abbrev cX12_ofRule : ByteArray := prog_14_method_34_code
def yX12_ofRule : MethodName := ⟨RX12, "ofRule", "(II)I"⟩
abbrev cX12_itemsOf : ByteArray := prog_14_method_35_code
def yX12_itemsOf : MethodName := ⟨RX12, "itemsOf", "(II)I"⟩
abbrev cX12_isAnchored : ByteArray := prog_14_method_36_code
def yX12_isAnchored : MethodName := ⟨RX12, "isAnchored", "(II)Z"⟩
abbrev cX12_closed : ByteArray := prog_14_method_37_code
def yX12_closed : MethodName := ⟨RX12, "closed", "(III)I"⟩
abbrev cX12_goesOn : ByteArray := prog_14_method_38_code
def yX12_goesOn : MethodName := ⟨RX12, "goesOn", "(IIII)I"⟩
abbrev cX12_isDone : ByteArray := prog_14_method_39_code
def yX12_isDone : MethodName := ⟨RX12, "isDone", "(III)Z"⟩
abbrev cX12_holds : ByteArray := prog_14_method_40_code
def yX12_holds : MethodName := ⟨RX12, "holds", "(II[II)Z"⟩
abbrev cX12_someHolds : ByteArray := prog_14_method_41_code
def yX12_someHolds : MethodName := ⟨RX12, "someHolds", "(II[II)Z"⟩
abbrev cX12_isBroken : ByteArray := prog_14_method_42_code
def yX12_isBroken : MethodName := ⟨RX12, "isBroken", "(II[II)Z"⟩
abbrev cX12_begins : ByteArray := prog_14_method_43_code
def yX12_begins : MethodName := ⟨RX12, "begins", "()V"⟩
abbrev cX12_isMet : ByteArray := prog_14_method_44_code
def yX12_isMet : MethodName := ⟨RX12, "isMet", "(II)Z"⟩
abbrev cX12_needsGoOn : ByteArray := prog_14_method_45_code
def yX12_needsGoOn : MethodName := ⟨RX12, "needsGoOn", "(II)Z"⟩
abbrev cX12_asks : ByteArray := prog_14_method_46_code
def yX12_asks : MethodName := ⟨RX12, "asks", "(III)Z"⟩
abbrev cX12_reads : ByteArray := prog_14_method_47_code
def yX12_reads : MethodName := ⟨RX12, "reads", "(III)Z"⟩
abbrev cX12_closes : ByteArray := prog_14_method_48_code
def yX12_closes : MethodName := ⟨RX12, "closes", "(II)Z"⟩
abbrev cX12_takesWord : ByteArray := prog_14_method_49_code
def yX12_takesWord : MethodName := ⟨RX12, "takesWord", "(II)Z"⟩
abbrev cX12_goes : ByteArray := prog_14_method_50_code
def yX12_goes : MethodName := ⟨RX12, "goes", "(IIIII)V"⟩
abbrev cX12_padded : ByteArray := prog_14_method_51_code
def yX12_padded : MethodName := ⟨RX12, "padded", "(I)J"⟩
abbrev cX12_finds : ByteArray := prog_14_method_52_code
def yX12_finds : MethodName := ⟨RX12, "finds", "(I)V"⟩
abbrev cX12_numberOf : ByteArray := prog_14_method_53_code
def yX12_numberOf : MethodName := ⟨RX12, "numberOf", "(I)I"⟩
abbrev cX12_marks : ByteArray := prog_14_method_54_code
def yX12_marks : MethodName := ⟨RX12, "marks", "(I)V"⟩
abbrev cX12_completes : ByteArray := prog_14_method_55_code
def yX12_completes : MethodName := ⟨RX12, "completes", "(II)V"⟩
abbrev cX12_sets : ByteArray := prog_14_method_56_code
def yX12_sets : MethodName := ⟨RX12, "sets", "(I)V"⟩
abbrev cX12_words : ByteArray := prog_14_method_57_code
def yX12_words : MethodName := ⟨RX12, "words", "(I)I"⟩
abbrev cX12_say : ByteArray := prog_14_method_58_code
def yX12_say : MethodName := ⟨RX12, "say", "()I"⟩
abbrev cX12_hear : ByteArray := prog_14_method_59_code
def yX12_hear : MethodName := ⟨RX12, "hear", "()I"⟩
abbrev cX12_found : ByteArray := prog_14_method_60_code
def yX12_found : MethodName := ⟨RX12, "found", "(II)I"⟩
abbrev cX12_aligns : ByteArray := prog_14_method_61_code
def yX12_aligns : MethodName := ⟨RX12, "aligns", "(IIIII)Z"⟩
abbrev cX12_isSaid : ByteArray := prog_14_method_62_code
def yX12_isSaid : MethodName := ⟨RX12, "isSaid", "(I)Z"⟩
abbrev cX12_understand : ByteArray := prog_14_method_63_code
def yX12_understand : MethodName := ⟨RX12, "understand", "()I"⟩
abbrev cX12_meant : ByteArray := prog_14_method_64_code
def yX12_meant : MethodName := ⟨RX12, "meant", "(II)I"⟩
abbrev cX12_takesRow : ByteArray := prog_14_method_65_code
def yX12_takesRow : MethodName := ⟨RX12, "takesRow", "()I"⟩
abbrev cX12_walk : ByteArray := prog_14_method_66_code
def yX12_walk : MethodName := ⟨RX12, "walk", "()I"⟩
abbrev cX12_where : ByteArray := prog_14_method_67_code
def yX12_where : MethodName := ⟨RX12, "where", "()I"⟩
abbrev cX12_age : ByteArray := prog_14_method_68_code
def yX12_age : MethodName := ⟨RX12, "age", "(I)V"⟩
abbrev cX12_ages : ByteArray := prog_14_method_69_code
def yX12_ages : MethodName := ⟨RX12, "ages", "()I"⟩
abbrev cX12_aged : ByteArray := prog_14_method_70_code
def yX12_aged : MethodName := ⟨RX12, "aged", "(I)I"⟩
abbrev cX12_sideGoes : ByteArray := prog_14_method_71_code
def yX12_sideGoes : MethodName := ⟨RX12, "sideGoes", "(IIII)I"⟩
abbrev cX12_fewestPairs : ByteArray := prog_14_method_72_code
def yX12_fewestPairs : MethodName := ⟨RX12, "fewestPairs", "(III)I"⟩
abbrev cX12_isRule : ByteArray := prog_14_method_73_code
def yX12_isRule : MethodName := ⟨RX12, "isRule", "(I)Z"⟩
abbrev cX12_never : ByteArray := prog_14_method_74_code
def yX12_never : MethodName := ⟨RX12, "never", "(I)Z"⟩
abbrev cX12_canQuarrel : ByteArray := prog_14_method_75_code
def yX12_canQuarrel : MethodName := ⟨RX12, "canQuarrel", "(II)Z"⟩
abbrev cX12_quarrel : ByteArray := prog_14_method_76_code
def yX12_quarrel : MethodName := ⟨RX12, "quarrel", "(II)I"⟩
abbrev cX12_wordsUpTo : ByteArray := prog_14_method_77_code
def yX12_wordsUpTo : MethodName := ⟨RX12, "wordsUpTo", "(I)I"⟩
abbrev cX12_laysWord : ByteArray := prog_14_method_78_code
def yX12_laysWord : MethodName := ⟨RX12, "laysWord", "(I)V"⟩
abbrev cX12_marksAll : ByteArray := prog_14_method_79_code
def yX12_marksAll : MethodName := ⟨RX12, "marksAll", "(I)V"⟩
abbrev cX12_isParted : ByteArray := prog_14_method_80_code
def yX12_isParted : MethodName := ⟨RX12, "isParted", "(II)Z"⟩
abbrev cX12_partsOf : ByteArray := prog_14_method_81_code
def yX12_partsOf : MethodName := ⟨RX12, "partsOf", "(III)I"⟩
abbrev cX12_parts : ByteArray := prog_14_method_82_code
def yX12_parts : MethodName := ⟨RX12, "parts", "(III)I"⟩
abbrev cX12_isUsed : ByteArray := prog_14_method_83_code
def yX12_isUsed : MethodName := ⟨RX12, "isUsed", "(I)Z"⟩
abbrev cX12_idle : ByteArray := prog_14_method_84_code
def yX12_idle : MethodName := ⟨RX12, "idle", "(II)I"⟩
abbrev cX12_breaks : ByteArray := prog_14_method_85_code
def yX12_breaks : MethodName := ⟨RX12, "breaks", "(II)V"⟩
abbrev cX12_fewest : ByteArray := prog_14_method_86_code
def yX12_fewest : MethodName := ⟨RX12, "fewest", "(I)I"⟩
abbrev cX12_lives : ByteArray := prog_14_method_87_code
def yX12_lives : MethodName := ⟨RX12, "lives", "(III)I"⟩
abbrev cX12_agreeing : ByteArray := prog_14_method_88_code
def yX12_agreeing : MethodName := ⟨RX12, "agreeing", "(I)I"⟩
abbrev cX12_triesOrders : ByteArray := prog_14_method_89_code
def yX12_triesOrders : MethodName := ⟨RX12, "triesOrders", "(II)V"⟩
abbrev cX12_orders : ByteArray := prog_14_method_90_code
def yX12_orders : MethodName := ⟨RX12, "orders", "(II)I"⟩
abbrev cX12_example : ByteArray := prog_14_method_91_code
def yX12_example : MethodName := ⟨RX12, "example", "(Z)I"⟩
abbrev cX12_isRight : ByteArray := prog_14_method_92_code
def yX12_isRight : MethodName := ⟨RX12, "isRight", "(II)Z"⟩
abbrev cX12_firstWrong : ByteArray := prog_14_method_93_code
def yX12_firstWrong : MethodName := ⟨RX12, "firstWrong", "(I)I"⟩
abbrev cX12_fits : ByteArray := prog_14_method_94_code
def yX12_fits : MethodName := ⟨RX12, "fits", "(I)I"⟩
abbrev cX12_learn : ByteArray := prog_14_method_95_code
def yX12_learn : MethodName := ⟨RX12, "learn", "()I"⟩
abbrev cX12_forced : ByteArray := prog_14_method_96_code
def yX12_forced : MethodName := ⟨RX12, "forced", "(I)I"⟩
abbrev cX12_rule : ByteArray := prog_14_method_97_code
def yX12_rule : MethodName := ⟨RX12, "rule", "(II)I"⟩
abbrev cX12_image : ByteArray := prog_14_method_98_code
def yX12_image : MethodName := ⟨RX12, "image", "(Z)Z"⟩
abbrev cX12_look : ByteArray := prog_14_method_99_code
def yX12_look : MethodName := ⟨RX12, "look", "(I)I"⟩
def RJx145de : String := "java/io/Serializable"
def TJx145de : u_T := fun k => match k with
  | _ => ("", "", "", false)
def tyJx145de : Nat → FieldType := fun k => match k with
  | _ => .int
abbrev wsJx145de0 : List Cond := u_ws RJx145de TJx145de 0
theorem nmJx145de : ∀ a, a < 0 → ∀ b, b < 0 → a ≠ b → (TJx145de a).2.1 ≠ (TJx145de b).2.1 := by decide +kernel
theorem tyJx145de_ok : ∀ k, k < 0 → parseFieldDescriptor (TJx145de k).2.2.1 = some (tyJx145de k) := by decide +kernel
def RJx9f9b0 : String := "java/lang/CharSequence"
def TJx9f9b0 : u_T := fun k => match k with
  | _ => ("", "", "", false)
def tyJx9f9b0 : Nat → FieldType := fun k => match k with
  | _ => .int
abbrev wsJx9f9b00 : List Cond := u_ws RJx9f9b0 TJx9f9b0 0
theorem nmJx9f9b0 : ∀ a, a < 0 → ∀ b, b < 0 → a ≠ b → (TJx9f9b0 a).2.1 ≠ (TJx9f9b0 b).2.1 := by decide +kernel
theorem tyJx9f9b0_ok : ∀ k, k < 0 → parseFieldDescriptor (TJx9f9b0 k).2.2.1 = some (tyJx9f9b0 k) := by decide +kernel
def RJxb160c : String := "java/lang/Comparable"
def TJxb160c : u_T := fun k => match k with
  | _ => ("", "", "", false)
def tyJxb160c : Nat → FieldType := fun k => match k with
  | _ => .int
abbrev wsJxb160c0 : List Cond := u_ws RJxb160c TJxb160c 0
theorem nmJxb160c : ∀ a, a < 0 → ∀ b, b < 0 → a ≠ b → (TJxb160c a).2.1 ≠ (TJxb160c b).2.1 := by decide +kernel
theorem tyJxb160c_ok : ∀ k, k < 0 → parseFieldDescriptor (TJxb160c k).2.2.1 = some (tyJxb160c k) := by decide +kernel
def RJ6 : String := "java/lang/Integer"
def TJ6 : u_T := fun k => match k with
  | _ => ("", "", "", false)
def tyJ6 : Nat → FieldType := fun k => match k with
  | _ => .int
abbrev wsJ60 : List Cond := u_ws RJ6 TJ6 0
theorem nmJ6 : ∀ a, a < 0 → ∀ b, b < 0 → a ≠ b → (TJ6 a).2.1 ≠ (TJ6 b).2.1 := by decide +kernel
theorem tyJ6_ok : ∀ k, k < 0 → parseFieldDescriptor (TJ6 k).2.2.1 = some (tyJ6 k) := by decide +kernel
abbrev cJ6_bitCount_0f7a4 : ByteArray := prog_15_method_49_code
def yJ6_bitCount_0f7a4 : MethodName := ⟨RJ6, "bitCount", "(I)I"⟩
def RJ9 : String := "java/lang/Math"
def TJ9 : u_T := fun k => match k with
  | _ => ("", "", "", false)
def tyJ9 : Nat → FieldType := fun k => match k with
  | _ => .int
abbrev wsJ90 : List Cond := u_ws RJ9 TJ9 0
theorem nmJ9 : ∀ a, a < 0 → ∀ b, b < 0 → a ≠ b → (TJ9 a).2.1 ≠ (TJ9 b).2.1 := by decide +kernel
theorem tyJ9_ok : ∀ k, k < 0 → parseFieldDescriptor (TJ9 k).2.2.1 = some (tyJ9 k) := by decide +kernel
abbrev cJ9_abs_0f7a4 : ByteArray := prog_16_method_59_code
def yJ9_abs_0f7a4 : MethodName := ⟨RJ9, "abs", "(I)I"⟩
abbrev cJ9_max_7cf53 : ByteArray := prog_16_method_65_code
def yJ9_max_7cf53 : MethodName := ⟨RJ9, "max", "(II)I"⟩
abbrev cJ9_min_7cf53 : ByteArray := prog_16_method_69_code
def yJ9_min_7cf53 : MethodName := ⟨RJ9, "min", "(II)I"⟩
def RJ0 : String := "java/lang/String"
def TJ0 : u_T := fun k => match k with
  | _ => ("", "", "", false)
def tyJ0 : Nat → FieldType := fun k => match k with
  | _ => .int
abbrev wsJ00 : List Cond := u_ws RJ0 TJ0 0
theorem nmJ0 : ∀ a, a < 0 → ∀ b, b < 0 → a ≠ b → (TJ0 a).2.1 ≠ (TJ0 b).2.1 := by decide +kernel
theorem tyJ0_ok : ∀ k, k < 0 → parseFieldDescriptor (TJ0 k).2.2.1 = some (tyJ0 k) := by decide +kernel
abbrev cJ0_length_8abf5 : ByteArray := prog_17_method_54_code
def yJ0_length_8abf5 : MethodName := ⟨RJ0, "length", "()I"⟩
abbrev cJ0_charAt_5068e : ByteArray := prog_17_method_56_code
def yJ0_charAt_5068e : MethodName := ⟨RJ0, "charAt", "(I)C"⟩
abbrev cJ0_coder_7d493 : ByteArray := prog_17_method_152_code
def yJ0_coder_7d493 : MethodName := ⟨RJ0, "coder", "()B"⟩
abbrev cJ0_isLatin1_aae02 : ByteArray := prog_17_method_154_code
def yJ0_isLatin1_aae02 : MethodName := ⟨RJ0, "isLatin1", "()Z"⟩
abbrev cJ0_checkIndex_df160 : ByteArray := prog_17_method_155_code
def yJ0_checkIndex_df160 : MethodName := ⟨RJ0, "checkIndex", "(II)V"⟩
def RJ1 : String := "java/lang/StringLatin1"
def TJ1 : u_T := fun k => match k with
  | _ => ("", "", "", false)
def tyJ1 : Nat → FieldType := fun k => match k with
  | _ => .int
abbrev wsJ10 : List Cond := u_ws RJ1 TJ1 0
theorem nmJ1 : ∀ a, a < 0 → ∀ b, b < 0 → a ≠ b → (TJ1 a).2.1 ≠ (TJ1 b).2.1 := by decide +kernel
theorem tyJ1_ok : ∀ k, k < 0 → parseFieldDescriptor (TJ1 k).2.2.1 = some (tyJ1 k) := by decide +kernel
abbrev cJ1_charAt_3b067 : ByteArray := prog_18_method_2_code
def yJ1_charAt_3b067 : MethodName := ⟨RJ1, "charAt", "([BI)C"⟩
def RJ2 : String := "java/lang/StringUTF16"
def TJ2 : u_T := fun k => match k with
  | _ => ("", "", "", false)
def tyJ2 : Nat → FieldType := fun k => match k with
  | _ => .int
abbrev wsJ20 : List Cond := u_ws RJ2 TJ2 0
theorem nmJ2 : ∀ a, a < 0 → ∀ b, b < 0 → a ≠ b → (TJ2 a).2.1 ≠ (TJ2 b).2.1 := by decide +kernel
theorem tyJ2_ok : ∀ k, k < 0 → parseFieldDescriptor (TJ2 k).2.2.1 = some (tyJ2 k) := by decide +kernel
abbrev cJ2_getChar_3b067 : ByteArray := prog_19_method_5_code
def yJ2_getChar_3b067 : MethodName := ⟨RJ2, "getChar", "([BI)C"⟩
abbrev cJ2_length_9d52b : ByteArray := prog_19_method_6_code
def yJ2_length_9d52b : MethodName := ⟨RJ2, "length", "([B)I"⟩
abbrev cJ2_charAt_3b067 : ByteArray := prog_19_method_83_code
def yJ2_charAt_3b067 : MethodName := ⟨RJ2, "charAt", "([BI)C"⟩
abbrev cJ2_checkIndex_2214a : ByteArray := prog_19_method_91_code
def yJ2_checkIndex_2214a : MethodName := ⟨RJ2, "checkIndex", "(I[B)V"⟩
def RJ10 : String := "java/lang/System"
def TJ10 : u_T := fun k => match k with
  | _ => ("", "", "", false)
def tyJ10 : Nat → FieldType := fun k => match k with
  | _ => .int
abbrev wsJ100 : List Cond := u_ws RJ10 TJ10 0
theorem nmJ10 : ∀ a, a < 0 → ∀ b, b < 0 → a ≠ b → (TJ10 a).2.1 ≠ (TJ10 b).2.1 := by decide +kernel
theorem tyJ10_ok : ∀ k, k < 0 → parseFieldDescriptor (TJ10 k).2.2.1 = some (tyJ10 k) := by decide +kernel
def RJxfd54e : String := "java/lang/constant/Constable"
def TJxfd54e : u_T := fun k => match k with
  | _ => ("", "", "", false)
def tyJxfd54e : Nat → FieldType := fun k => match k with
  | _ => .int
abbrev wsJxfd54e0 : List Cond := u_ws RJxfd54e TJxfd54e 0
theorem nmJxfd54e : ∀ a, a < 0 → ∀ b, b < 0 → a ≠ b → (TJxfd54e a).2.1 ≠ (TJxfd54e b).2.1 := by decide +kernel
theorem tyJxfd54e_ok : ∀ k, k < 0 → parseFieldDescriptor (TJxfd54e k).2.2.1 = some (tyJxfd54e k) := by decide +kernel
def RJx3cf43 : String := "java/lang/constant/ConstantDesc"
def TJx3cf43 : u_T := fun k => match k with
  | _ => ("", "", "", false)
def tyJx3cf43 : Nat → FieldType := fun k => match k with
  | _ => .int
abbrev wsJx3cf430 : List Cond := u_ws RJx3cf43 TJx3cf43 0
theorem nmJx3cf43 : ∀ a, a < 0 → ∀ b, b < 0 → a ≠ b → (TJx3cf43 a).2.1 ≠ (TJx3cf43 b).2.1 := by decide +kernel
theorem tyJx3cf43_ok : ∀ k, k < 0 → parseFieldDescriptor (TJx3cf43 k).2.2.1 = some (tyJx3cf43 k) := by decide +kernel
def RJ7 : String := "java/util/Arrays"
def TJ7 : u_T := fun k => match k with
  | _ => ("", "", "", false)
def tyJ7 : Nat → FieldType := fun k => match k with
  | _ => .int
abbrev wsJ70 : List Cond := u_ws RJ7 TJ7 0
theorem nmJ7 : ∀ a, a < 0 → ∀ b, b < 0 → a ≠ b → (TJ7 a).2.1 ≠ (TJ7 b).2.1 := by decide +kernel
theorem tyJ7_ok : ∀ k, k < 0 → parseFieldDescriptor (TJ7 k).2.2.1 = some (tyJ7 k) := by decide +kernel
abbrev cJ7_fill_53178 : ByteArray := prog_21_method_103_code
def yJ7_fill_53178 : MethodName := ⟨RJ7, "fill", "([II)V"⟩
def RJ3 : String := "jdk/internal/util/Preconditions"
def TJ3 : u_T := fun k => match k with
  | _ => ("", "", "", false)
def tyJ3 : Nat → FieldType := fun k => match k with
  | _ => .int
abbrev wsJ30 : List Cond := u_ws RJ3 TJ3 0
theorem nmJ3 : ∀ a, a < 0 → ∀ b, b < 0 → a ≠ b → (TJ3 a).2.1 ≠ (TJ3 b).2.1 := by decide +kernel
theorem tyJ3_ok : ∀ k, k < 0 → parseFieldDescriptor (TJ3 k).2.2.1 = some (tyJ3 k) := by decide +kernel
abbrev cJ3_checkIndex_8e157 : ByteArray := prog_22_method_11_code
def yJ3_checkIndex_8e157 : MethodName := ⟨RJ3, "checkIndex", "(IILjava/util/function/BiFunction;)I"⟩
def RL : String := "SaidShallowLaw"
abbrev cL_law : ByteArray := code
def yL_law : MethodName := ⟨RL, "law", "([I)Z"⟩
abbrev vwCl : List vw_C := [(RX0, TX0, 11), (RX1, TX1, 6), (RX2, TX2, 10), (RX3, TX3, 18), (RX4, TX4, 11), (RX5, TX5, 6), (RX6, TX6, 9), (RX7, TX7, 16), (RX8, TX8, 5), (RX9, TX9, 3), (RX10, TX10, 3), (RX11, TX11, 19), (RX12, TX12, 56)]
end
section
/-! the words that every method here has, the worlds before and behind a call -/
abbrev z0 : Nat → Int32 := fun _ => 0
abbrev TYS (cI cL cZ : ClassId) : List (ClassId × FieldType) := [(cI, .int), (cL, .long), (cZ, .boolean)]
/-- the words that a call takes along: those of the tables that stay as they are -/
def wsU : List Cond := lw_tbl.filter goodWord
abbrev wU (y : MethodName) (c : ByteArray) (n : Nat) (r : Option FieldType) : List Cond := .code y c n r :: wsU
theorem gU_sub {ws : List Cond} (h : ∀ w ∈ ws, w ∈ wsU) : GoodIn wsU ws := fun w hw => ⟨h w hw, good_of_word (List.mem_filter.mp (h w hw)).2⟩
theorem wsU_in : ∀ w ∈ wsU, w ∈ lw_tbl := fun w h => (List.mem_filter.mp h).1
theorem wsU_at {w : Cond} (i : Nat) (h : lw_tbl[i]? = some w) (g : goodWord w = true) : w ∈ wsU := List.mem_filter.mpr ⟨List.mem_of_getElem? h, g⟩
theorem upd_z0 (k : Nat) : upd z0 k 0 = z0 := by funext j; simp [upd, z0]
theorem cpy_z0 (a b n : Nat) : va_cpy z0 z0 a b n = z0 := by funext j; simp [va_cpy, z0]
abbrev w0 : Nat → Int32 := upd z0 41 1
theorem gU_c {y : MethodName} {c : ByteArray} {n : Nat} {r : Option FieldType} (h : Cond.code y c n r ∈ wsU) : GoodIn wsU (wU y c n r) := gU_sub (fun w hw => by
  rcases List.mem_cons.mp hw with e | e
  · rw [e]; exact h
  · exact e)
theorem gU_V {own C : String} {idx : Nat} {y : MethodName} {c : ByteArray} {n : Nat} {r : Option FieldType} (h1 : Cond.methodLink own idx y ∈ wsU) (h2 : Cond.instanceMethod y ∈ wsU) (h3 : Cond.selects C y y ∈ wsU) (h4 : Cond.initialized C ∈ wsU) (h5 : Cond.code y c n r ∈ wsU) : GoodIn wsU (wsV own idx C y (wU y c n r)) := gU_sub (fun w hw => by
  unfold wsV at hw
  rcases List.mem_append.mp hw with q | q
  · simp only [List.mem_cons, List.not_mem_nil, or_false] at q
    rcases q with e | e | e | e <;> (rw [e]; assumption)
  · exact ((gU_c h5) w q).1)
theorem gU_S {own : String} {idx : Nat} {y : MethodName} {c : ByteArray} {n : Nat} {r : Option FieldType} (h1 : Cond.methodLink own idx y ∈ wsU) (h2 : Cond.static y ∈ wsU) (h4 : Cond.initialized own ∈ wsU) (h5 : Cond.code y c n r ∈ wsU) : GoodIn wsU (wsS own idx y (wU y c n r)) := gU_sub (fun w hw => by
  unfold wsS at hw
  rcases List.mem_append.mp hw with q | q
  · simp only [List.mem_cons, List.not_mem_nil, or_false] at q
    rcases q with e | e | e <;> (rw [e]; assumption)
  · exact ((gU_c h5) w q).1)
def va_AOA (ty : FieldType) (U : State) : Prop := (Cond.arrayOver (.array ty)).before #[] U = true
theorem va_AOA.of {ty : FieldType} {A : Array Value} {U : State} (h : (Cond.arrayOver (.array ty)).before A U = true) : va_AOA ty U := h
theorem va_AOA.use {ty : FieldType} {A : Array Value} {U : State} (h : va_AOA ty U) : (Cond.arrayOver (.array ty)).before A U = true := h
theorem va_AOA.moved {ty : FieldType} {u U : State} (hvm : u.vm.Alike U.vm) (h : va_AOA ty u) : va_AOA ty U := by
  unfold va_AOA Cond.before Cond.holds at h ⊢
  simp only [Cond.value, beq_iff_eq] at h ⊢
  cases hc : u.vm.findClass (FieldType.array ty).toString with
  | none => simp [hc] at h
  | some comp =>
    simp only [hc, Option.bind_some, Option.bind_eq_some_iff, Option.map_eq_some_iff] at h
    obtain ⟨c, hi, k, hk, hb⟩ := h
    obtain ⟨k', hk', he⟩ := hvm.2.2 _ _ hk
    have hb0 : ∀ vm : Vm, vm.bare.classes.findIdx? (fun (x : Class) => match x.kind with | .array component _ => component == comp | _ => false) = vm.classes.findIdx? (fun (x : Class) => match x.kind with | .array component _ => component == comp | _ => false) := by
      intro vm
      simp only [Vm.bare, Array.findIdx?_map]
      rfl
    have hi' : U.vm.classes.findIdx? (fun (x : Class) => match x.kind with | .array component _ => component == comp | _ => false) = some c := by
      rw [← hb0]
      first | rw [hvm.bare_eq] | rw [← hvm.bare_eq]
      rw [hb0]
      exact hi
    have f1 : U.vm.findClass (FieldType.array ty).toString = some comp := by rw [hvm.findClass]; exact hc
    rw [f1, Option.bind_some]
    refine Option.bind_eq_some_iff.mpr ⟨c, hi', ?_⟩
    rw [hk', Option.map_some, he, hvm.findClass]
    exact congrArg some hb
/-- the words that a call can't take along: private constructors by nest mates, the classes of arrays of arrays -/
def nsW (U : State) : Prop :=
  va_Nw (.methodLinkNest RX11 15 yX3_init "SaidShallow") U ∧ va_Nw (.methodLinkNest RX7 60 yX4_init "SaidShallow") U ∧ va_Nw (.methodLinkNest RX4 11 yX5_init "SaidShallow") U ∧ va_Nw (.methodLinkNest RX3 20 yX10_init "SaidShallow") U ∧ va_Nw (.methodLinkNest RX3 27 yX8_init "SaidShallow") U ∧ va_Nw (.methodLinkNest RX3 34 yX1_init "SaidShallow") U ∧ va_Nw (.methodLinkNest RX11 32 yX6_init "SaidShallow") U ∧ va_Nw (.methodLinkNest RX11 48 yX2_init "SaidShallow") U ∧ va_Nw (.methodLinkNest RX11 55 yX0_init "SaidShallow") U ∧ va_Nw (.methodLinkNest RX2 197 yX4_isAlways "SaidShallow") U ∧ va_AO "SaidShallow$Rule" U ∧ va_AOA .int U ∧ va_AOA .boolean U
theorem nsW.warm {s U : State} (hW : s.WarmedH U.vm) (h : nsW s) : nsW U := by
  obtain ⟨a1, a2, a3, a4, a5, a6, a7, a8, a9, a10, a11, a12, a13⟩ := h
  exact ⟨a1.warmM hW, a2.warmM hW, a3.warmM hW, a4.warmM hW, a5.warmM hW, a6.warmM hW, a7.warmM hW, a8.warmM hW, a9.warmM hW, a10.warmM hW, a11.moved hW.alike, a12.moved hW.alike, a13.moved hW.alike⟩
theorem nsW.same {s U : State} (hW : s.vm = U.vm) (h : nsW s) : nsW U := by
  obtain ⟨a1, a2, a3, a4, a5, a6, a7, a8, a9, a10, a11, a12, a13⟩ := h
  have hvm : s.vm.Alike U.vm := by rw [hW]; exact Vm.Alike.refl _
  exact ⟨a1.same rfl hW, a2.same rfl hW, a3.same rfl hW, a4.same rfl hW, a5.same rfl hW, a6.same rfl hW, a7.same rfl hW, a8.same rfl hW, a9.same rfl hW, a10.same rfl hW, a11.moved hvm, a12.moved hvm, a13.moved hvm⟩
def pB (D : va_G) (cI cL cZ : ClassId) (sz : Nat) (ws : va_W) : State → Prop := fun U => U.heap.size = sz ∧ va_P D vwCl ws U.heap ∧ va_K D vwCl (TYS cI cL cZ) U ∧ va_D (fun _ => True) ws ∧ nsW U
def qB (D : va_G) (cI cL cZ : ClassId) (A : Nat → Prop) (w1 : va_W) : State → Prop := fun t => va_P D vwCl w1 t.heap ∧ va_K D vwCl (TYS cI cL cZ) t ∧ va_D A w1
theorem pB_blind {av : List Value} {D : va_G} {cI cL cZ : ClassId} {sz : Nat} {ws : va_W} : FrameBlind (va_Pc av (pB D cI cL cZ sz ws)) := fun a U g mk q => by
  obtain ⟨q0, q1, qP, qK, qD, qN⟩ := q
  exact ⟨q0, q1, qP, va_K.moved (u := U) (U := U.calling g mk a) (Vm.Alike.refl U.vm) qK, qD, nsW.same (s := U) (U := U.calling g mk a) rfl qN⟩
abbrev mI (l : Launch) (D : va_G) (cI cL cZ : ClassId) (y : MethodName) (c : ByteArray) (n : Nat) (r : Option FieldType) (fr lo mc ms : Nat) (av : List Value) (sz : Nat) (ws : va_W) (P : Int32 → va_W → Prop) : Prop := Met l y (wU y c n r) { frames := fr, cells := mc, slots := ms, locals := lo } (va_Pc av (pB D cI cL cZ sz ws)) (va_Qi P (qB D cI cL cZ (va_A ws sz)) (va_A ws sz)) mc ms (va_A ws sz)
abbrev mV (l : Launch) (D : va_G) (cI cL cZ : ClassId) (y : MethodName) (c : ByteArray) (n : Nat) (r : Option FieldType) (fr lo mc ms : Nat) (av : List Value) (sz : Nat) (ws : va_W) (P : va_W → Prop) : Prop := Met l y (wU y c n r) { frames := fr, cells := mc, slots := ms, locals := lo } (va_Pc av (pB D cI cL cZ sz ws)) (va_Qv P (qB D cI cL cZ (va_A ws sz)) (va_A ws sz)) mc ms (va_A ws sz)
theorem tk_fm {ws wc : va_W} {is : List Nat} (h : is.map (fun i => ws[i]?) = wc.map some) : is.filterMap (fun i => ws[i]?) = wc := by
  have e : is.filterMap (fun i => ws[i]?) = (is.map (fun i => ws[i]?)).filterMap id := by rw [List.filterMap_map]; rfl
  rw [e, h, List.filterMap_map]
  simp
theorem tk_sub {p k : Int32} (h0 : 0 ≤ k.toInt) (h : k.toInt ≤ p.toInt) : (p - k).toInt = p.toInt - k.toInt := by
  obtain ⟨a, ha, rfl⟩ := nI_of (x := p) (by rw [Int32.lt_iff_toInt_lt, show (0 : Int32).toInt = 0 from rfl]; omega)
  obtain ⟨b, hb, rfl⟩ := nI_of (x := k) (by rw [Int32.lt_iff_toInt_lt, show (0 : Int32).toInt = 0 from rfl]; omega)
  rw [nI_toInt ha, nI_toInt hb] at h ⊢
  rw [pk_sub (by omega), nI_toInt (by omega)]
  omega
section TKC
variable {p : Program} {l : Launch} {e : Env} {R : Room} {s : State} {m : MethodId} {args : Array Value} {below : List Frame} {meth : Method} {c : Code} {H : Heap} {locs : List Loc} {cells slots : Nat} {Q : State → Prop}
variable {cc : ByteArray} {pc : Nat} {ls : Array Slot} {rest : List Value} {D : va_G} {A : Nat → Prop} {a : Nat} {ws : va_W} {H0 : Heap} {cI cL cZ : ClassId}
theorem tk_topi {x y : Int32} (h : x = y) (k : W p l e R s m args below meth c H locs cells slots Q (F0 m pc ls (.int y :: rest))) : W p l e R s m args below meth c H locs cells slots Q (F0 m pc ls (.int x :: rest)) := by rw [h]; exact k
/-- a virtual call by contract -/
theorem tk_V {own C : String} {idx maxL nL fr lo mc ms n : Nat} {y : MethodName} {bytes : ByteArray} {ret : Option FieldType} {Qc : Array Value → State → Outcome → State → Prop} {free : Addr → Prop} {As rest st0 : List Value} {b : Nat} {wc : va_W}
    (hx : p.tables.exec = Jvm.exec) (hb : c.code = cc) (hml : c.maxLocals = nL) (hown : s.vm.findClass own = some m.cls) (hU : ∀ w ∈ wsU, w.before args s = true) (hN : nsW s)
    (hM : Met l y (wU y bytes maxL ret) { frames := fr, cells := mc, slots := ms, locals := lo } (va_Pc (.ref b :: As) (pB D cI cL cZ H.size wc)) Qc mc ms free)
    (h1 : Cond.methodLink own idx y ∈ wsU) (h2 : Cond.instanceMethod y ∈ wsU) (h3 : Cond.selects C y y ∈ wsU) (h4 : Cond.initialized C ∈ wsU) (h5 : Cond.code y bytes maxL ret ∈ wsU)
    (hd : y.cls = C ∧ y.cls ≠ "java/lang/invoke/MethodHandle" ∧ y.cls ≠ "java/lang/invoke/VarHandle" ∧ (parseMethodDescriptor y.desc).map (fun d => d.parameters.length) = some n) (hR : fr + 1 ≤ R.frames ∧ 8 + (maxL + 11) + lo ≤ R.locals)
    (hK : va_K D vwCl (TYS cI cL cZ) s) (hP : va_P D vwCl ws H) (hD : va_D A ws) (isC : List Nat) (hn : va_nd isC = true) (hC : isC.map (fun i => ws[i]?) = wc.map some) (q0 ci : Nat) {q : vw_C} {fs : List Value} (hc : vwCl[ci]? = some q) (he : wc[q0]? = some (b, .inr (ci, fs))) (hq : q.1 = C)
    (hl : As.length = n) (hsz : ls.size = nL) (hst : st0 = As.reverse ++ .ref b :: rest) (hW : (rest.map fun v => v.category).sum ≤ 8) (hdg : decode cc pc = .ok (.invokevirtual idx, 3)) (hf : cells + mc ≤ R.cells ∧ slots + ms ≤ R.slots) :
    va_Run p l e R s m args below meth c H locs cells slots mc ms (F0 m pc ls st0) rest (Qc (Value.ref b :: As).toArray) free := by
  subst hq
  have hPc : va_P D vwCl wc H := hP.sub isC (tk_fm hC)
  have hDc : va_D A wc := hD.sub isC hn hC
  exact va_runV (Ts := wsU) ⟨hx, hb, hml, hown, hU⟩ hM (cwV n hU (gU_V h1 h2 h3 h4 h5) rfl rfl rfl hd hR) ⟨pB_blind, va_recv hK hPc hc he, fun U hU' hW' => ⟨rfl, by rw [hU'], by rw [hU']; exact hPc, va_K.moved hW'.alike hK, hDc.weaken (fun _ _ _ _ => trivial), hN.warm hW'⟩⟩ rfl hl hsz hst (lv_room hW) hdg hf
/-- a static call by contract -/
theorem tk_S {own : String} {idx maxL nL fr lo mc ms n : Nat} {y : MethodName} {bytes : ByteArray} {ret : Option FieldType} {Qc : Array Value → State → Outcome → State → Prop} {free : Addr → Prop} {As rest st0 : List Value} {wc : va_W}
    (hx : p.tables.exec = Jvm.exec) (hb : c.code = cc) (hml : c.maxLocals = nL) (hown : s.vm.findClass own = some m.cls) (hU : ∀ w ∈ wsU, w.before args s = true) (hN : nsW s)
    (hM : Met l y (wU y bytes maxL ret) { frames := fr, cells := mc, slots := ms, locals := lo } (va_Pc As (pB D cI cL cZ H.size wc)) Qc mc ms free)
    (h1 : Cond.methodLink own idx y ∈ wsU) (h2 : Cond.static y ∈ wsU) (h4 : Cond.initialized y.cls ∈ wsU) (h5 : Cond.code y bytes maxL ret ∈ wsU)
    (hd : y.cls ≠ "java/lang/invoke/MethodHandle" ∧ y.cls ≠ "java/lang/invoke/VarHandle" ∧ (parseMethodDescriptor y.desc).map (fun d => d.parameters.length) = some n) (hR : fr + 1 ≤ R.frames ∧ 8 + (maxL + 11) + lo ≤ R.locals)
    (hK : va_K D vwCl (TYS cI cL cZ) s) (hP : va_P D vwCl ws H) (hD : va_D A ws) (isC : List Nat) (hn : va_nd isC = true) (hC : isC.map (fun i => ws[i]?) = wc.map some)
    (hl : As.length = n) (hsz : ls.size = nL) (hst : st0 = As.reverse ++ rest) (hW : (rest.map fun v => v.category).sum ≤ 8) (hdg : decode cc pc = .ok (.invokestatic idx, 3)) (hf : cells + mc ≤ R.cells ∧ slots + ms ≤ R.slots) :
    va_Run p l e R s m args below meth c H locs cells slots mc ms (F0 m pc ls st0) rest (Qc As.toArray) free := by
  have hPc : va_P D vwCl wc H := hP.sub isC (tk_fm hC)
  have hDc : va_D A wc := hD.sub isC hn hC
  exact va_runS (Ts := wsU) ⟨hx, hb, hml, hown, hU⟩ hM ⟨callB_of n hU (gU_c h5) rfl rfl rfl (hU _ h4) (hU _ h1) hd hR, hU _ h2⟩ ⟨pB_blind, fun U hU' hW' => ⟨rfl, by rw [hU'], by rw [hU']; exact hPc, va_K.moved hW'.alike hK, hDc.weaken (fun _ _ _ _ => trivial), hN.warm hW'⟩⟩ rfl hl hsz hst (lv_room hW) hdg hf
/-- a constructor's call by contract -/
theorem tk_I {own : String} {idx maxL nL fr lo mc ms n : Nat} {y : MethodName} {bytes : ByteArray} {Qc : Array Value → State → Outcome → State → Prop} {free : Addr → Prop} {As rest st0 : List Value} {b : Nat} {wc : va_W}
    (hx : p.tables.exec = Jvm.exec) (hb : c.code = cc) (hml : c.maxLocals = nL) (hown : s.vm.findClass own = some m.cls) (hU : ∀ w ∈ wsU, w.before args s = true) (hN : nsW s)
    (hM : Met l y (wU y bytes maxL none) { frames := fr, cells := mc, slots := ms, locals := lo } (va_Pc (.ref b :: As) (pB D cI cL cZ H.size wc)) Qc mc ms free)
    (h1 : Cond.methodLink own idx y ∈ wsU) (h2 : Cond.instanceMethod y ∈ wsU) (h4 : Cond.initialized y.cls ∈ wsU) (h5 : Cond.code y bytes maxL none ∈ wsU) (hy : y.name = "<init>")
    (hd : y.cls ≠ "java/lang/invoke/MethodHandle" ∧ y.cls ≠ "java/lang/invoke/VarHandle" ∧ (parseMethodDescriptor y.desc).map (fun d => d.parameters.length) = some n) (hR : fr + 1 ≤ R.frames ∧ 8 + (maxL + 11) + lo ≤ R.locals)
    (hK : va_K D vwCl (TYS cI cL cZ) s) (hP : va_P D vwCl ws H) (hD : va_D A ws) (isC : List Nat) (hn : va_nd isC = true) (hC : isC.map (fun i => ws[i]?) = wc.map some)
    (hl : As.length = n) (hsz : ls.size = nL) (hst : st0 = As.reverse ++ .ref b :: rest) (hW : (rest.map fun v => v.category).sum ≤ 8) (hdg : decode cc pc = .ok (.invokespecial idx, 3)) (hf : cells + mc ≤ R.cells ∧ slots + ms ≤ R.slots) :
    va_Run p l e R s m args below meth c H locs cells slots mc ms (F0 m pc ls st0) rest (Qc (Value.ref b :: As).toArray) free := by
  have hPc : va_P D vwCl wc H := hP.sub isC (tk_fm hC)
  have hDc : va_D A wc := hD.sub isC hn hC
  exact va_runI (Ts := wsU) ⟨hx, hb, hml, hown, hU⟩ hM (cwI n hU (gU_c h5) rfl rfl rfl (hU _ h4) (hU _ h1) (hU _ h2) hy hd hR) ⟨pB_blind, fun U hU' hW' => ⟨rfl, by rw [hU'], by rw [hU']; exact hPc, va_K.moved hW'.alike hK, hDc.weaken (fun _ _ _ _ => trivial), hN.warm hW'⟩⟩ rfl hl hsz hst (lv_room hW) hdg hf
/-- a private constructor's call, of a nest mate -/
theorem tk_IN {own : String} {idx maxL nL fr lo mc ms n : Nat} {y : MethodName} {bytes : ByteArray} {Qc : Array Value → State → Outcome → State → Prop} {free : Addr → Prop} {As rest st0 : List Value} {b : Nat} {wc : va_W}
    (hx : p.tables.exec = Jvm.exec) (hb : c.code = cc) (hml : c.maxLocals = nL) (hown : s.vm.findClass own = some m.cls) (hU : ∀ w ∈ wsU, w.before args s = true) (hN : nsW s)
    (hM : Met l y (wU y bytes maxL none) { frames := fr, cells := mc, slots := ms, locals := lo } (va_Pc (.ref b :: As) (pB D cI cL cZ H.size wc)) Qc mc ms free)
    (h1 : va_Nw (.methodLinkNest own idx y "SaidShallow") s) (h2 : Cond.instanceMethod y ∈ wsU) (h4 : Cond.initialized y.cls ∈ wsU) (h5 : Cond.code y bytes maxL none ∈ wsU) (hy : y.name = "<init>")
    (hd : y.cls ≠ "java/lang/invoke/MethodHandle" ∧ y.cls ≠ "java/lang/invoke/VarHandle" ∧ (parseMethodDescriptor y.desc).map (fun d => d.parameters.length) = some n) (hR : fr + 1 ≤ R.frames ∧ 8 + (maxL + 11) + lo ≤ R.locals)
    (hK : va_K D vwCl (TYS cI cL cZ) s) (hP : va_P D vwCl ws H) (hD : va_D A ws) (isC : List Nat) (hn : va_nd isC = true) (hC : isC.map (fun i => ws[i]?) = wc.map some)
    (hl : As.length = n) (hsz : ls.size = nL) (hst : st0 = As.reverse ++ .ref b :: rest) (hW : (rest.map fun v => v.category).sum ≤ 8) (hdg : decode cc pc = .ok (.invokespecial idx, 3)) (hf : cells + mc ≤ R.cells ∧ slots + ms ≤ R.slots) :
    va_Run p l e R s m args below meth c H locs cells slots mc ms (F0 m pc ls st0) rest (Qc (Value.ref b :: As).toArray) free := by
  have hPc : va_P D vwCl wc H := hP.sub isC (tk_fm hC)
  have hDc : va_D A wc := hD.sub isC hn hC
  exact va_runIN (Ts := wsU) ⟨hx, hb, hml, hown, hU⟩ hM ⟨va_cnB n hU (gU_c h5) rfl rfl rfl h1 (hU _ h4) hd hR, hy, hU _ h2⟩ ⟨pB_blind, fun U hU' hW' => ⟨rfl, by rw [hU'], by rw [hU']; exact hPc, va_K.moved hW'.alike hK, hDc.weaken (fun _ _ _ _ => trivial), hN.warm hW'⟩⟩ rfl hl hsz hst (lv_room hW) hdg hf
/-- behind a call that answers an int -/
theorem tk_ri {mc ms : Nat} {st0 rest : List Value} {wc wr : va_W} {P : Int32 → va_W → Prop} {av : Array Value} (hr : va_Run p l e R s m args below meth c H locs cells slots mc ms (F0 m pc ls st0) rest (va_Qi P (qB D cI cL cZ (va_A wc H.size)) (va_A wc H.size) av) (va_A wc H.size))
    (hP : va_P D vwCl ws H) (hD : va_D A ws) (hS : va_S A H0 H locs) (hA : ∀ q, H0.size ≤ q → A q) (isC isR : List Nat) (hC : isC.map (fun i => ws[i]?) = wc.map some) (hR : isR.map (fun i => ws[i]?) = wr.map some) (hn : va_nd isR = true) (hdis : ∀ i ∈ isR, i ∉ isC)
    (kk : ∀ (r : Int32) (w1 : va_W) (H1 : Heap) (locs1 : List Loc), P r w1 → va_P D vwCl (wr ++ w1) H1 → va_D A (wr ++ w1) → va_S A H0 H1 locs1 → W p l e R s m args below meth c H1 locs1 (cells + mc) (slots + ms) Q (F0 m (pc + 3) ls (.int r :: rest))) : W p l e R s m args below meth c H locs cells slots Q (F0 m pc ls st0) := by
  have hF := va_free hD hS hA isC hC
  refine va_calli hr hS (fun q _ h => hF q h) hF (fun r w1 t H1 locs1 ht hvm hw hB hz1 hk1 hS1 => ?_)
  obtain ⟨hP1, hK1, hD1⟩ := hB
  rw [ht] at hP1
  obtain ⟨hP2, hD2⟩ := va_join (wr := wr) hP hD isC isR hC hR hn hdis hk1 hF hP1 hD1
  exact kk r w1 H1 locs1 hw hP2 hD2 hS1
/-- behind a call without an answer -/
theorem tk_rv {mc ms : Nat} {st0 rest : List Value} {wc wr : va_W} {P : va_W → Prop} {av : Array Value} (hr : va_Run p l e R s m args below meth c H locs cells slots mc ms (F0 m pc ls st0) rest (va_Qv P (qB D cI cL cZ (va_A wc H.size)) (va_A wc H.size) av) (va_A wc H.size))
    (hP : va_P D vwCl ws H) (hD : va_D A ws) (hS : va_S A H0 H locs) (hA : ∀ q, H0.size ≤ q → A q) (isC isR : List Nat) (hC : isC.map (fun i => ws[i]?) = wc.map some) (hR : isR.map (fun i => ws[i]?) = wr.map some) (hn : va_nd isR = true) (hdis : ∀ i ∈ isR, i ∉ isC)
    (kk : ∀ (w1 : va_W) (H1 : Heap) (locs1 : List Loc), P w1 → va_P D vwCl (wr ++ w1) H1 → va_D A (wr ++ w1) → va_S A H0 H1 locs1 → W p l e R s m args below meth c H1 locs1 (cells + mc) (slots + ms) Q (F0 m (pc + 3) ls rest)) : W p l e R s m args below meth c H locs cells slots Q (F0 m pc ls st0) := by
  have hF := va_free hD hS hA isC hC
  refine va_callv hr hS (fun q _ h => hF q h) hF (fun w1 t H1 locs1 ht hvm hw hB hz1 hk1 hS1 => ?_)
  obtain ⟨hP1, hK1, hD1⟩ := hB
  rw [ht] at hP1
  obtain ⟨hP2, hD2⟩ := va_join (wr := wr) hP hD isC isR hC hR hn hdis hk1 hF hP1 hD1
  exact kk w1 H1 locs1 hw hP2 hD2 hS1
/-- a new array of a known class -/
theorem tk_newa (hx : p.tables.exec = Jvm.exec) (hb : c.code = cc) {atype : ArrayType} {ty : FieldType} (t0 : Nat) {cA : ClassId} (harr : (Cond.arrayClass (newarray.typeOf atype)).before args s = true) (hty : newarray.typeOf atype = ty) (hra : ∀ c1 : ClassId, va_RA s c1 ty ↔ s.vm.findClass ("[" ++ ty.toString) = some c1) (hK : va_K D vwCl (TYS cI cL cZ) s) (ht : (TYS cI cL cZ)[t0]? = some (cA, ty)) (hP : va_P D vwCl ws H) (hD : va_D A ws) (hS : va_S A H0 H locs) (hA : ∀ q, H0.size ≤ q → A q)
    {n : Int32} {N' : Nat} {a0 : vp_A} (ha : ∀ cA : ClassId, vp_cell cA a0 = arrV cA N' (fun _ => defaultValue ty)) (hn : ¬ n < 0) (hN : n.toNatClampNeg = N') (hbytes : N' * componentBytes ty ≤ 536870912) (hcells : cells + 1 ≤ R.cells) (hslots : slots + N' ≤ R.slots) (hdg : decode cc pc = .ok (.newarray atype, 2))
    (kk : ∀ (q : Nat) (H1 : Heap), va_P D vwCl (ws ++ [(q, .inl (cA, a0))]) H1 → va_D A (ws ++ [(q, .inl (cA, a0))]) → va_S A H0 H1 locs →
      W p l e R s m args below meth c H1 locs (cells + 1) (slots + N') Q (F0 m (pc + 2) ls (.ref q :: rest))) : W p l e R s m args below meth c H locs cells slots Q (F0 m pc ls (.int n :: rest)) := by
  refine va_newa hx hb harr hty hK hP hD hS hA ha hn hN hbytes hcells hslots hdg (fun q cB H1 hK1 hP1 hD1 hS1 => ?_)
  have e1 := (hra _).mp (hK1.2 3 (cB, ty) rfl).2
  have e2 := (hra _).mp (hK.2 t0 (cA, ty) ht).2
  have e3 : cB = cA := Option.some.inj (e1.symm.trans e2)
  subst e3
  exact kk q H1 hP1 hD1 hS1
end TKC
end
section
/-! new T[n][m]: walked here by hand, for no row of the rounds' library has it -/
def mw_o (c : ClassId) (N h : Nat) : Nat → Cell
  | 0 => { cls := c, slots := Array.replicate N .null, vm := .none }
  | i + 1 => (mw_o c N h i).setSlot i (.ref (h + (i + 1)))
def mw_i (k : ClassId) (M : Nat) (d : Value) : Cell := { cls := k, slots := Array.replicate M d, vm := .none }
/-- the state behind i inner rows -/
def mw_s (T : State) (c k : ClassId) (N M : Nat) (d : Value) : Nat → State
  | 0 => T.pushCell (mw_o c N T.heap.size 0)
  | i + 1 => ((mw_s T c k N M d i).pushCell (mw_i k M d)).setCell T.heap.size (mw_o c N T.heap.size (i + 1))
theorem mw_o_ok (c : ClassId) (N h i : Nat) : (mw_o c N h i).cls = c ∧ (mw_o c N h i).vm = .none ∧ (mw_o c N h i).slots.size = N := by
  induction i with
  | zero => exact ⟨rfl, rfl, by simp [mw_o]⟩
  | succ i ih =>
    obtain ⟨h1, h2, h3⟩ := ih
    simp only [mw_o, Cell.setSlot]
    exact ⟨h1, h2, by simpa using h3⟩
theorem mw_s_ok (T : State) (c k : ClassId) (N M : Nat) (d : Value) (i : Nat) : (mw_s T c k N M d i).heap.size = T.heap.size + (i + 1) ∧ (mw_s T c k N M d i).heap[T.heap.size]? = some (mw_o c N T.heap.size i) ∧ (mw_s T c k N M d i).vm = T.vm ∧ (mw_s T c k N M d i).slotsUsed = T.slotsUsed + N + i * M ∧ ∀ a, a < T.heap.size → (mw_s T c k N M d i).heap[a]? = T.heap[a]? := by
  induction i with
  | zero => exact ⟨by simp [mw_s], by simp [mw_s], rfl, by simp [mw_s, mw_o], fun a ha => State.heap_pushCell_of_lt _ _ ha⟩
  | succ i ih =>
    obtain ⟨h1, h2, h3, h4, h5⟩ := ih
    have hlt : T.heap.size < (mw_s T c k N M d i).heap.size := by omega
    have hin : ((mw_s T c k N M d i).pushCell (mw_i k M d)).heap[T.heap.size]? = some (mw_o c N T.heap.size i) := by rw [State.heap_pushCell_of_lt (h := hlt)]; exact h2
    refine ⟨?_, State.heap_setCell_self hin, by simp [mw_s, h3], ?_, fun a ha => ?_⟩
    · simp [mw_s, State.setCell, h1]; omega
    · simp [mw_s, h4, mw_i, Nat.succ_mul]; omega
    · show (((mw_s T c k N M d i).pushCell (mw_i k M d)).setCell T.heap.size _).heap[a]? = _
      rw [State.heap_setCell_other (Nat.ne_of_gt ha), State.heap_pushCell_of_lt (h := Nat.lt_trans ha hlt)]
      exact h5 a ha
theorem mw_s_top (T : State) (f : JFrame) (c k : ClassId) (N M : Nat) (d : Value) (i : Nat) : mw_s (T.setTop f) c k N M d i = (mw_s T c k N M d i).setTop f := by
  induction i with
  | zero => rfl
  | succ i ih => simp only [mw_s, ih, State.heap_setTop, State.pushCell_setTop, State.setCell_setTop]
theorem mw_fits {t : FieldType} (h : t.isReference = true) {v : Value} (hv : v = .null ∨ ∃ a, v = .ref a) : fits t v = true := by
  rcases hv with rfl | ⟨a, rfl⟩ <;> cases t <;> simp [FieldType.isReference] at h <;> rfl
section MWA
variable {E : CtlPost} {e : Env} {d : Bool} {acts : List Action} {s : State}
theorem mw_new {c comp : ClassId} {k : Class} {type : FieldType} {len : Nat} {init : Value} (hk : s.vm.classes[c]? = some k) (hkind : k.kind = .array comp type)
    (hlimit : ¬ len > e.platform.arrayLengthLimit) (hheap : ¬ len * componentBytes type > e.platform.maxHeapBytes) (hfit : fits type init = true) (hdef : init.isDefault = true) {Q : Addr → Pre}
    (h1 : s.heap.size < e.platform.maxCells) (h2 : s.slotsUsed + len ≤ e.platform.maxSlots) (hq : Q s.heap.size d acts (s.pushCell { cls := c, slots := Array.replicate len init, vm := .none })) :
    wp (Jvm.newArray c len init) Q E e d acts s := by
  have hall : ((Array.replicate len init).all (·.isDefault)) = true := by
    rw [Array.all_replicate]
    split <;> simp [hdef]
  have hacts : allocActs (Array.replicate len init) s.heap.size acts = acts := by
    unfold allocActs
    rw [if_pos hall]
  have hslot : ∀ i v, (Array.replicate len init)[i]? = some v → s.fitsSlot c .none i v = true := by
    intro i v hv
    rw [Array.getElem?_replicate] at hv
    by_cases hi : i < len
    · rw [if_pos hi] at hv
      cases hv
      simp [State.fitsSlot, State.slotType?, hk, hkind, hfit]
    · rw [if_neg hi] at hv
      cases hv
  simp only [Jvm.newArray, Jvm.arrayFits, wp_bind', W.ask, W.ite, hlimit, if_false, wp_pure', W.theClass, hk, hkind, hheap, W.alloc, W.stop, Option.some.injEq, exists_eq_left', Array.size_replicate, hacts]
  rw [if_neg (by omega)]
  exact ⟨h1, h2, hslot, hq⟩
theorem mw_make {c comp cc : ClassId} {k kc : Class} {t0 type : FieldType} {n m : Int32} (hk : s.vm.classes[c]? = some k) (hkind : k.kind = .array comp t0) (href : t0.isReference = true)
    (hkc : s.vm.classes[comp]? = some kc) (hkindc : kc.kind = .array cc type) (hn : ¬ n < 0) (hm : ¬ m < 0)
    (hl1 : ¬ n.toNatClampNeg > e.platform.arrayLengthLimit) (hh1 : ¬ n.toNatClampNeg * componentBytes t0 > e.platform.maxHeapBytes) (hl2 : ¬ m.toNatClampNeg > e.platform.arrayLengthLimit) (hh2 : ¬ m.toNatClampNeg * componentBytes type > e.platform.maxHeapBytes)
    (hdf : fits type (defaultValue type) = true) (hdd : (defaultValue type).isDefault = true) (hc : s.heap.size + (1 + n.toNatClampNeg) ≤ e.platform.maxCells) (hs : s.slotsUsed + (n.toNatClampNeg + n.toNatClampNeg * m.toNatClampNeg) ≤ e.platform.maxSlots)
    {Q : Addr → Pre} (hq : ∀ d' acts', Q s.heap.size d' acts' (mw_s s c comp n.toNatClampNeg m.toNatClampNeg (defaultValue type) n.toNatClampNeg)) : wp (multianewarray.make c [n, m]) Q E e d acts s := by
  generalize hN : n.toNatClampNeg = N at *
  generalize hM : m.toNatClampNeg = M at *
  have hfind : ([m].find? (· < 0)) = none := by simp [hm]
  rw [multianewarray.make]
  simp only [wp_bind', W.ite, hn, if_false, wp_pure', W.theClass, hk, hkind, Option.some.injEq, exists_eq_left', hN]
  refine mw_new hk hkind hl1 hh1 (mw_fits href (Or.inl rfl)) rfl (by omega) (by have := Nat.zero_le (N * M); omega) ?_
  simp only [hfind]
  rw [ite_self, wp_bind', Std.Legacy.Range.forIn_eq_forIn_range']
  rw [show ([:N] : Std.Legacy.Range).size = N by simp [Std.Legacy.Range.size]]
  show wp (forIn (List.range' 0 N 1) PUnit.unit _) _ E e d acts _
  refine wp_forIn_inv (fun rest s' => ∃ i, i ≤ N ∧ rest = List.range' i (N - i) ∧ s' = mw_s s c comp N M (defaultValue type) i) _ _ ⟨0, Nat.zero_le _, rfl, rfl⟩ ?_ ?_
  · rintro x rest s' d' acts' Q' ⟨i, hi, hrow, rfl⟩ hnext
    rcases Nat.lt_or_ge i N with hlt | hge
    · rw [show N - i = (N - (i + 1)) + 1 by omega, List.range'_succ] at hrow
      obtain ⟨rfl, hrest⟩ := List.cons.inj hrow
      obtain ⟨g1, g2, g3, g4, -⟩ := mw_s_ok s c comp N M (defaultValue type) x
      obtain ⟨o1, o2, o3⟩ := mw_o_ok c N s.heap.size x
      have hmul : x * M + M ≤ N * M := by
        have h9 := Nat.mul_le_mul_right M (show x + 1 ≤ N from hlt)
        rw [Nat.succ_mul] at h9
        exact h9
      have hlt0 : s.heap.size < (mw_s s c comp N M (defaultValue type) x).heap.size := by omega
      simp only [wp_bind']
      rw [multianewarray.make]
      simp only [wp_bind', W.ite, hm, if_false, wp_pure', W.theClass, g3, hkc, hkindc, Option.some.injEq, exists_eq_left', hM]
      refine mw_new (by rw [g3]; exact hkc) hkindc hl2 hh2 hdf hdd (by omega) (by omega) ?_
      simp only [wp_bind', W.writeLoc, wp_pure']
      refine ⟨mw_o c N s.heap.size x, by rw [State.heap_pushCell_of_lt (h := hlt0)]; exact g2, by rw [o2]; simp, by rw [o3]; exact hlt, ?_, hnext _ _ _ ⟨x + 1, hlt, hrest, ?_⟩⟩
      · rw [o1, o2]
        simp [State.fitsSlot, State.slotType?, g3, hk, hkind, mw_fits href (Or.inr ⟨_, rfl⟩)]
      · rw [g1]
        rfl
    · rw [show N - i = 0 by omega] at hrow
      cases hrow
  · rintro s' d' acts' ⟨i, hi, hrow, rfl⟩
    have hiN : i = N := by
      rcases Nat.lt_or_ge i N with h | h
      · rw [show N - i = (N - (i + 1)) + 1 by omega, List.range'_succ] at hrow
        cases hrow
      · omega
    subst hiN
    simp only [wp_pure']
    exact hq _ _
end MWA
section TKM
variable {p : Program} {l : Launch} {e : Env} {R : Room} {s : State} {m : MethodId} {args : Array Value} {below : List Frame} {meth : Method} {c : Code} {H : Heap} {locs : List Loc} {cells slots : Nat} {Q : State → Prop}
variable {cc : ByteArray} {pc : Nat} {ls : Array Slot} {rest : List Value} {D : va_G} {A : Nat → Prop} {a : Nat} {ws : va_W} {H0 : Heap} {cI cL cZ : ClassId}
theorem mw_stand {T : State} (X : Stand p l e R s m args below meth c T locs cells slots) (cA k : ClassId) (N M : Nat) (d : Value) (i : Nat) : Stand p l e R s m args below meth c (mw_s T cA k N M d i) (locs ++ (List.range i).map (fun j => (⟨T.heap.size, j⟩ : Loc))) (cells + (i + 1)) (slots + N + i * M) := by
  induction i with
  | zero =>
    have h := X.pushed (mw_o cA N T.heap.size 0)
    rw [(mw_o_ok cA N T.heap.size 0).2.2] at h
    simpa [mw_s] using h
  | succ i ih =>
    obtain ⟨h1, h2, -, -, -⟩ := mw_s_ok T cA k N M d i
    have hlt : T.heap.size < (mw_s T cA k N M d i).heap.size := by omega
    have h := (ih.pushed (mw_i k M d)).stored (a := T.heap.size) (cell := mw_o cA N T.heap.size i) (by rw [State.heap_pushCell_of_lt (h := hlt)]; exact h2) i (.ref (T.heap.size + (i + 1)))
    rw [show (mw_i k M d).slots.size = M by simp [mw_i]] at h
    rw [List.range_succ, List.map_append, List.map_singleton, ← List.append_assoc, Nat.succ_mul, ← Nat.add_assoc (slots + N)]
    exact h
theorem mw_over {args' : Array Value} {first U : State} {o : Option Outcome} {idx : List Nat} {t : FieldType} (h : (Cond.arrayOver (.array t)).holds args' first o U idx = true) : ∃ comp c1 k, U.vm.findClass (FieldType.array t).toString = some comp ∧ U.vm.classes[c1]? = some k ∧ k.kind = .array comp (.array t) ∧ U.vm.findClass ("[" ++ (FieldType.array t).toString) = some c1 := by
  simp only [Cond.holds, Cond.value, beq_iff_eq] at h
  cases hc : U.vm.findClass (FieldType.array t).toString with
  | none => simp [hc] at h
  | some comp =>
    simp only [hc, Option.bind_some, Option.bind_eq_some_iff, Option.map_eq_some_iff] at h
    obtain ⟨c1, hi, k, hk, hb⟩ := h
    obtain ⟨hlt, hp, -⟩ := Array.findIdx?_eq_some_iff_getElem.mp hi
    rw [(Array.getElem?_eq_some_iff.mp hk).2] at hp
    cases hkind : k.kind with
    | array component ty =>
      rw [hkind] at hb hp
      simp at hb hp
      exact ⟨comp, c1, k, rfl, hk, by rw [hkind, hp, hb.1], hb.2⟩
    | _ => rw [hkind] at hb; simp at hb
/-- new T[n][m], of which nothing is kept but that it is a reference -/
theorem tk_mna {own : String} {index : Nat} {ty : FieldType} (hx : p.tables.exec = Jvm.exec) (hb : c.code = cc) (hown : s.vm.findClass own = some m.cls) (hclink : (Cond.classLink own index ("[" ++ (FieldType.array ty).toString)).before args s = true) (hover : va_AOA ty s) (harr : (Cond.arrayClass ty).before args s = true)
    (hP : va_P D vwCl ws H) (hD : va_D A ws) (hS : va_S A H0 H locs) (hA : ∀ q, H0.size ≤ q → A q) {n k : Int32} {N' K' : Nat} (hn : ¬ n < 0) (hk : ¬ k < 0) (hN : n.toNatClampNeg = N') (hM : k.toNatClampNeg = K')
    (hb1 : N' * 4 ≤ 536870912) (hb2 : K' * componentBytes ty ≤ 536870912) (hb3 : K' ≤ 536870912) (hdf : fits ty (defaultValue ty) = true) (hdd : (defaultValue ty).isDefault = true) (hcells : cells + (1 + N') ≤ R.cells) (hslots : slots + (N' + N' * K') ≤ R.slots) (hdg : decode cc pc = .ok (.multianewarray index 2, 4))
    (kk : ∀ (q : Nat) (H1 : Heap) (locs1 : List Loc), va_P D vwCl ws H1 → va_D A ws → va_S A H0 H1 locs1 → W p l e R s m args below meth c H1 locs1 (cells + (N' + 1)) (slots + N' + N' * K') Q (F0 m (pc + 4) ls (.ref q :: rest))) : W p l e R s m args below meth c H locs cells slots Q (F0 m pc ls (.int k :: .int n :: rest)) := by
  subst hN
  subst hM
  intro T hT X
  subst hb
  have hpl : e.platform.magicAccessors = ({} : Platform).magicAccessors := by rw [X.admits.platform]
  obtain ⟨comp, cA, kA, hcomp, hkA, hkindA, hnameA⟩ := mw_over (va_AOA.use (A := args) hover)
  obtain ⟨comp', kC, cc1, hcomp', hkC, hkindC⟩ := Cond.arrayClass_spec harr
  have ecomp : comp' = comp := Option.some.inj (hcomp'.symm.trans hcomp)
  subst ecomp
  obtain ⟨c0, hfc0, hcl⟩ := Cond.classLink_spec hown hclink e.platform hpl
  cases hnameA.symm.trans hfc0
  obtain ⟨hg₁, hwarm₁, hready₁⟩ := State.classEntry (e := e) X.warmed hcl
  generalize T.vm.noted m.cls index (.cls cA) = vm₁ at hg₁ hwarm₁ hready₁
  have hal : s.vm.Alike vm₁ := hwarm₁.alike
  obtain ⟨kA₁, hkA₁, heA⟩ := hal.2.2 _ _ hkA
  obtain ⟨kC₁, hkC₁, heC⟩ := hal.2.2 _ _ hkC
  have hkindA₁ : kA₁.kind = .array comp' (.array ty) := by rw [heA]; exact hkindA
  have hkindC₁ : kC₁.kind = .array cc1 ty := by rw [heC]; exact hkindC
  have X₁ := X.noted hwarm₁
  obtain ⟨hr1, hr2⟩ := X.roomAbove hcells hslots
  have hl1 : ¬ n.toNatClampNeg > e.platform.arrayLengthLimit := by rw [Launch.admits_arrayLengthLimit X.admits]; omega
  have hh1 : ¬ n.toNatClampNeg * componentBytes (.array ty) > e.platform.maxHeapBytes := by
    rw [Launch.admits_maxHeapBytes X.admits]
    show ¬ n.toNatClampNeg * 4 > 536870912
    omega
  have hl2 : ¬ k.toNatClampNeg > e.platform.arrayLengthLimit := by rw [Launch.admits_arrayLengthLimit X.admits]; omega
  have hh2 : ¬ k.toNatClampNeg * componentBytes ty > e.platform.maxHeapBytes := by rw [Launch.admits_maxHeapBytes X.admits]; omega
  obtain ⟨f1, -, -, -, f5⟩ := mw_s_ok (T.setVm vm₁) cA comp' n.toNatClampNeg k.toNatClampNeg (defaultValue ty) n.toNatClampNeg
  have XF := mw_stand X₁ cA comp' n.toNatClampNeg k.toNatClampNeg (defaultValue ty) n.toNatClampNeg
  have hTh : (T.setVm vm₁).heap = H := hT
  rw [hTh] at f1 f5
  generalize hF : mw_s (T.setVm vm₁) cA comp' n.toNatClampNeg k.toNatClampNeg (defaultValue ty) n.toNatClampNeg = F at f1 f5 XF
  obtain ⟨t, b1, b2⟩ := kk T.heap.size F.heap _ (hP.kept (fun k9 x h9 => f5 x.1 ((hP k9 x h9).lt))) hD ⟨Nat.le_trans hS.1 (by omega), fun x h1 h2 => (f5 x (Nat.lt_of_lt_of_le h1 hS.1)).trans (hS.2.1 x h1 h2), fun q hq => by
    rcases List.mem_append.mp hq with h | h
    · exact hS.2.2 q h
    · obtain ⟨j, -, rfl⟩ := List.mem_map.mp h
      exact hA _ (by rw [hTh]; exact hS.1)⟩ F rfl XF
  refine ⟨t, ?_, b2⟩
  jvm_step X.here [hx, hdg]
  simp only [multianewarray.sem, wp_bind', W.resolveClassAt_links (State.method?_setTop (F0 m pc ls (.int k :: .int n :: rest)) X.here.top) hg₁]
  rw [W.popN, if_neg (by decide)]
  refine ⟨F0 m pc ls (.int k :: .int n :: rest), State.topJava?_setTop' (s := T.setVm vm₁) _ X.here.top, [.int n, .int k], rest, rfl, rfl, ?_⟩
  simp only [List.mapM_cons, List.mapM_nil, wp_bind', wp_pure']
  refine mw_make (k := kA₁) (kc := kC₁) (comp := comp') (cc := cc1) (t0 := .array ty) (type := ty) hkA₁ hkindA₁ rfl hkC₁ hkindC₁ hn hk hl1 hh1 hl2 hh2 hdf hdd (by show T.heap.size + _ ≤ _; omega) (by show T.slotsUsed + _ ≤ _; omega) (fun d' acts' => ?_)
  rw [show ((T.setTop (F0 m pc ls (.int k :: .int n :: rest))).setVm vm₁).setTop { F0 m pc ls (.int k :: .int n :: rest) with stack := rest } = (T.setVm vm₁).setTop { F0 m pc ls (.int k :: .int n :: rest) with stack := rest } by
    show ((T.setVm vm₁).setTop _).setTop _ = _
    rw [State.setTop_setTop], mw_s_top, hF]
  simp only [wp_bind', W.mark, W.pushRef, State.topJava?_setTop' _ XF.here.top, Option.some.injEq, exists_eq_left', State.setTop_setTop, State.heap_setTop]
  intro acts
  simp [jvm, XF.here.top]
  exact b1
end TKM
end
